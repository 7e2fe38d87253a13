theorem d_MenuScreensModel_endLine_0 : decode prog_13_method_21_code 0 = .ok (.iconst 1, 1) := by decide +kernel
theorem d_MenuScreensModel_endLine_1 : decode prog_13_method_21_code 1 = .ok (.istore_n 1, 1) := by decide +kernel
theorem d_MenuScreensModel_endLine_2 : decode prog_13_method_21_code 2 = .ok (.iload_n 1, 1) := by decide +kernel
theorem d_MenuScreensModel_endLine_3 : decode prog_13_method_21_code 3 = .ok (.aload_n 0, 1) := by decide +kernel
theorem d_MenuScreensModel_endLine_4 : decode prog_13_method_21_code 4 = .ok (.getfield 169, 3) := by decide +kernel
theorem d_MenuScreensModel_endLine_7 : decode prog_13_method_21_code 7 = .ok (.if_icmp .gt 25, 3) := by decide +kernel
theorem d_MenuScreensModel_endLine_10 : decode prog_13_method_21_code 10 = .ok (.aload_n 0, 1) := by decide +kernel
theorem d_MenuScreensModel_endLine_11 : decode prog_13_method_21_code 11 = .ok (.getfield 51, 3) := by decide +kernel
theorem d_MenuScreensModel_endLine_14 : decode prog_13_method_21_code 14 = .ok (.iload_n 1, 1) := by decide +kernel
theorem d_MenuScreensModel_endLine_15 : decode prog_13_method_21_code 15 = .ok (.iload_n 1, 1) := by decide +kernel
theorem d_MenuScreensModel_endLine_16 : decode prog_13_method_21_code 16 = .ok (.iconst 1, 1) := by decide +kernel
theorem d_MenuScreensModel_endLine_17 : decode prog_13_method_21_code 17 = .ok (.if_icmp .ne 7, 3) := by decide +kernel
theorem d_MenuScreensModel_endLine_20 : decode prog_13_method_21_code 20 = .ok (.iconst 1, 1) := by decide +kernel
theorem d_MenuScreensModel_endLine_21 : decode prog_13_method_21_code 21 = .ok (.goto 4, 3) := by decide +kernel
theorem d_MenuScreensModel_endLine_24 : decode prog_13_method_21_code 24 = .ok (.iconst 0, 1) := by decide +kernel
theorem d_MenuScreensModel_endLine_25 : decode prog_13_method_21_code 25 = .ok (.bastore, 1) := by decide +kernel
theorem d_MenuScreensModel_endLine_26 : decode prog_13_method_21_code 26 = .ok (.iinc 1 1, 3) := by decide +kernel
theorem d_MenuScreensModel_endLine_29 : decode prog_13_method_21_code 29 = .ok (.goto (-27), 3) := by decide +kernel
theorem d_MenuScreensModel_endLine_32 : decode prog_13_method_21_code 32 = .ok (.iconst 0, 1) := by decide +kernel
theorem d_MenuScreensModel_endLine_33 : decode prog_13_method_21_code 33 = .ok (.istore_n 1, 1) := by decide +kernel
theorem d_MenuScreensModel_endLine_34 : decode prog_13_method_21_code 34 = .ok (.iload_n 1, 1) := by decide +kernel
theorem d_MenuScreensModel_endLine_35 : decode prog_13_method_21_code 35 = .ok (.aload_n 0, 1) := by decide +kernel
theorem d_MenuScreensModel_endLine_36 : decode prog_13_method_21_code 36 = .ok (.getfield 169, 3) := by decide +kernel
theorem d_MenuScreensModel_endLine_39 : decode prog_13_method_21_code 39 = .ok (.if_icmp .ge 82, 3) := by decide +kernel
theorem d_MenuScreensModel_endLine_42 : decode prog_13_method_21_code 42 = .ok (.iconst 1, 1) := by decide +kernel
theorem d_MenuScreensModel_endLine_43 : decode prog_13_method_21_code 43 = .ok (.istore_n 2, 1) := by decide +kernel
theorem d_MenuScreensModel_endLine_44 : decode prog_13_method_21_code 44 = .ok (.iload_n 2, 1) := by decide +kernel
theorem d_MenuScreensModel_endLine_45 : decode prog_13_method_21_code 45 = .ok (.aload_n 0, 1) := by decide +kernel
theorem d_MenuScreensModel_endLine_46 : decode prog_13_method_21_code 46 = .ok (.getfield 169, 3) := by decide +kernel
theorem d_MenuScreensModel_endLine_49 : decode prog_13_method_21_code 49 = .ok (.if_icmp .gt 66, 3) := by decide +kernel
theorem d_MenuScreensModel_endLine_52 : decode prog_13_method_21_code 52 = .ok (.iconst 1, 1) := by decide +kernel
theorem d_MenuScreensModel_endLine_53 : decode prog_13_method_21_code 53 = .ok (.istore_n 3, 1) := by decide +kernel
theorem d_MenuScreensModel_endLine_54 : decode prog_13_method_21_code 54 = .ok (.iload_n 3, 1) := by decide +kernel
theorem d_MenuScreensModel_endLine_55 : decode prog_13_method_21_code 55 = .ok (.bipush 10, 2) := by decide +kernel
theorem d_MenuScreensModel_endLine_57 : decode prog_13_method_21_code 57 = .ok (.if_icmp .ge 52, 3) := by decide +kernel
theorem d_MenuScreensModel_endLine_60 : decode prog_13_method_21_code 60 = .ok (.aload_n 0, 1) := by decide +kernel
theorem d_MenuScreensModel_endLine_61 : decode prog_13_method_21_code 61 = .ok (.getfield 51, 3) := by decide +kernel
theorem d_MenuScreensModel_endLine_64 : decode prog_13_method_21_code 64 = .ok (.iload_n 2, 1) := by decide +kernel
theorem d_MenuScreensModel_endLine_65 : decode prog_13_method_21_code 65 = .ok (.aload_n 0, 1) := by decide +kernel
theorem d_MenuScreensModel_endLine_66 : decode prog_13_method_21_code 66 = .ok (.getfield 51, 3) := by decide +kernel
theorem d_MenuScreensModel_endLine_69 : decode prog_13_method_21_code 69 = .ok (.iload_n 2, 1) := by decide +kernel
theorem d_MenuScreensModel_endLine_70 : decode prog_13_method_21_code 70 = .ok (.baload, 1) := by decide +kernel
theorem d_MenuScreensModel_endLine_71 : decode prog_13_method_21_code 71 = .ok (.ifCond .ne 26, 3) := by decide +kernel
theorem d_MenuScreensModel_endLine_74 : decode prog_13_method_21_code 74 = .ok (.aload_n 0, 1) := by decide +kernel
theorem d_MenuScreensModel_endLine_75 : decode prog_13_method_21_code 75 = .ok (.iload_n 2, 1) := by decide +kernel
theorem d_MenuScreensModel_endLine_76 : decode prog_13_method_21_code 76 = .ok (.iload_n 3, 1) := by decide +kernel
theorem d_MenuScreensModel_endLine_77 : decode prog_13_method_21_code 77 = .ok (.invokevirtual 230, 3) := by decide +kernel
theorem d_MenuScreensModel_endLine_80 : decode prog_13_method_21_code 80 = .ok (.ifCond .le 21, 3) := by decide +kernel
theorem d_MenuScreensModel_endLine_83 : decode prog_13_method_21_code 83 = .ok (.aload_n 0, 1) := by decide +kernel
theorem d_MenuScreensModel_endLine_84 : decode prog_13_method_21_code 84 = .ok (.getfield 51, 3) := by decide +kernel
theorem d_MenuScreensModel_endLine_87 : decode prog_13_method_21_code 87 = .ok (.aload_n 0, 1) := by decide +kernel
theorem d_MenuScreensModel_endLine_88 : decode prog_13_method_21_code 88 = .ok (.iload_n 2, 1) := by decide +kernel
theorem d_MenuScreensModel_endLine_89 : decode prog_13_method_21_code 89 = .ok (.iload_n 3, 1) := by decide +kernel
theorem d_MenuScreensModel_endLine_90 : decode prog_13_method_21_code 90 = .ok (.invokevirtual 230, 3) := by decide +kernel
theorem d_MenuScreensModel_endLine_93 : decode prog_13_method_21_code 93 = .ok (.baload, 1) := by decide +kernel
theorem d_MenuScreensModel_endLine_94 : decode prog_13_method_21_code 94 = .ok (.ifCond .eq 7, 3) := by decide +kernel
theorem d_MenuScreensModel_endLine_97 : decode prog_13_method_21_code 97 = .ok (.iconst 1, 1) := by decide +kernel
theorem d_MenuScreensModel_endLine_98 : decode prog_13_method_21_code 98 = .ok (.goto 4, 3) := by decide +kernel
theorem d_MenuScreensModel_endLine_101 : decode prog_13_method_21_code 101 = .ok (.iconst 0, 1) := by decide +kernel
theorem d_MenuScreensModel_endLine_102 : decode prog_13_method_21_code 102 = .ok (.bastore, 1) := by decide +kernel
theorem d_MenuScreensModel_endLine_103 : decode prog_13_method_21_code 103 = .ok (.iinc 3 1, 3) := by decide +kernel
theorem d_MenuScreensModel_endLine_106 : decode prog_13_method_21_code 106 = .ok (.goto (-52), 3) := by decide +kernel
theorem d_MenuScreensModel_endLine_109 : decode prog_13_method_21_code 109 = .ok (.iinc 2 1, 3) := by decide +kernel
theorem d_MenuScreensModel_endLine_112 : decode prog_13_method_21_code 112 = .ok (.goto (-68), 3) := by decide +kernel
theorem d_MenuScreensModel_endLine_115 : decode prog_13_method_21_code 115 = .ok (.iinc 1 1, 3) := by decide +kernel
theorem d_MenuScreensModel_endLine_118 : decode prog_13_method_21_code 118 = .ok (.goto (-84), 3) := by decide +kernel
theorem d_MenuScreensModel_endLine_121 : decode prog_13_method_21_code 121 = .ok (.iconst 0, 1) := by decide +kernel
theorem d_MenuScreensModel_endLine_122 : decode prog_13_method_21_code 122 = .ok (.istore_n 1, 1) := by decide +kernel
theorem d_MenuScreensModel_endLine_123 : decode prog_13_method_21_code 123 = .ok (.iconst 1, 1) := by decide +kernel
theorem d_MenuScreensModel_endLine_124 : decode prog_13_method_21_code 124 = .ok (.istore_n 2, 1) := by decide +kernel
theorem d_MenuScreensModel_endLine_125 : decode prog_13_method_21_code 125 = .ok (.iload_n 2, 1) := by decide +kernel
theorem d_MenuScreensModel_endLine_126 : decode prog_13_method_21_code 126 = .ok (.aload_n 0, 1) := by decide +kernel
theorem d_MenuScreensModel_endLine_127 : decode prog_13_method_21_code 127 = .ok (.getfield 169, 3) := by decide +kernel
theorem d_MenuScreensModel_endLine_130 : decode prog_13_method_21_code 130 = .ok (.if_icmp .gt 114, 3) := by decide +kernel
theorem d_MenuScreensModel_endLine_133 : decode prog_13_method_21_code 133 = .ok (.aload_n 0, 1) := by decide +kernel
theorem d_MenuScreensModel_endLine_134 : decode prog_13_method_21_code 134 = .ok (.getfield 51, 3) := by decide +kernel
theorem d_MenuScreensModel_endLine_137 : decode prog_13_method_21_code 137 = .ok (.iload_n 2, 1) := by decide +kernel
theorem d_MenuScreensModel_endLine_138 : decode prog_13_method_21_code 138 = .ok (.baload, 1) := by decide +kernel
theorem d_MenuScreensModel_endLine_139 : decode prog_13_method_21_code 139 = .ok (.ifCond .ne 7, 3) := by decide +kernel
theorem d_MenuScreensModel_endLine_142 : decode prog_13_method_21_code 142 = .ok (.iconst 1, 1) := by decide +kernel
theorem d_MenuScreensModel_endLine_143 : decode prog_13_method_21_code 143 = .ok (.goto 4, 3) := by decide +kernel
theorem d_MenuScreensModel_endLine_146 : decode prog_13_method_21_code 146 = .ok (.iconst 0, 1) := by decide +kernel
theorem d_MenuScreensModel_endLine_147 : decode prog_13_method_21_code 147 = .ok (.istore_n 3, 1) := by decide +kernel
theorem d_MenuScreensModel_endLine_148 : decode prog_13_method_21_code 148 = .ok (.iload_n 3, 1) := by decide +kernel
theorem d_MenuScreensModel_endLine_149 : decode prog_13_method_21_code 149 = .ok (.ifCond .eq 23, 3) := by decide +kernel
theorem d_MenuScreensModel_endLine_152 : decode prog_13_method_21_code 152 = .ok (.aload_n 0, 1) := by decide +kernel
theorem d_MenuScreensModel_endLine_153 : decode prog_13_method_21_code 153 = .ok (.getfield 105, 3) := by decide +kernel
theorem d_MenuScreensModel_endLine_156 : decode prog_13_method_21_code 156 = .ok (.aload_n 0, 1) := by decide +kernel
theorem d_MenuScreensModel_endLine_157 : decode prog_13_method_21_code 157 = .ok (.getfield 233, 3) := by decide +kernel
theorem d_MenuScreensModel_endLine_160 : decode prog_13_method_21_code 160 = .ok (.iload_n 2, 1) := by decide +kernel
theorem d_MenuScreensModel_endLine_161 : decode prog_13_method_21_code 161 = .ok (.iastore, 1) := by decide +kernel
theorem d_MenuScreensModel_endLine_162 : decode prog_13_method_21_code 162 = .ok (.aload_n 0, 1) := by decide +kernel
theorem d_MenuScreensModel_endLine_163 : decode prog_13_method_21_code 163 = .ok (.dup, 1) := by decide +kernel
theorem d_MenuScreensModel_endLine_164 : decode prog_13_method_21_code 164 = .ok (.getfield 233, 3) := by decide +kernel
theorem d_MenuScreensModel_endLine_167 : decode prog_13_method_21_code 167 = .ok (.iconst 1, 1) := by decide +kernel
theorem d_MenuScreensModel_endLine_168 : decode prog_13_method_21_code 168 = .ok (.iadd, 1) := by decide +kernel
theorem d_MenuScreensModel_endLine_169 : decode prog_13_method_21_code 169 = .ok (.putfield 233, 3) := by decide +kernel
theorem d_MenuScreensModel_endLine_172 : decode prog_13_method_21_code 172 = .ok (.iconst 1, 1) := by decide +kernel
theorem d_MenuScreensModel_endLine_173 : decode prog_13_method_21_code 173 = .ok (.istore 4, 2) := by decide +kernel
theorem d_MenuScreensModel_endLine_175 : decode prog_13_method_21_code 175 = .ok (.iload 4, 2) := by decide +kernel
theorem d_MenuScreensModel_endLine_177 : decode prog_13_method_21_code 177 = .ok (.bipush 10, 2) := by decide +kernel
theorem d_MenuScreensModel_endLine_179 : decode prog_13_method_21_code 179 = .ok (.if_icmp .ge 44, 3) := by decide +kernel
theorem d_MenuScreensModel_endLine_182 : decode prog_13_method_21_code 182 = .ok (.iload_n 3, 1) := by decide +kernel
theorem d_MenuScreensModel_endLine_183 : decode prog_13_method_21_code 183 = .ok (.ifCond .ne 28, 3) := by decide +kernel
theorem d_MenuScreensModel_endLine_186 : decode prog_13_method_21_code 186 = .ok (.aload_n 0, 1) := by decide +kernel
theorem d_MenuScreensModel_endLine_187 : decode prog_13_method_21_code 187 = .ok (.getfield 57, 3) := by decide +kernel
theorem d_MenuScreensModel_endLine_190 : decode prog_13_method_21_code 190 = .ok (.bipush 10, 2) := by decide +kernel
theorem d_MenuScreensModel_endLine_192 : decode prog_13_method_21_code 192 = .ok (.iload_n 2, 1) := by decide +kernel
theorem d_MenuScreensModel_endLine_193 : decode prog_13_method_21_code 193 = .ok (.imul, 1) := by decide +kernel
theorem d_MenuScreensModel_endLine_194 : decode prog_13_method_21_code 194 = .ok (.iload 4, 2) := by decide +kernel
theorem d_MenuScreensModel_endLine_196 : decode prog_13_method_21_code 196 = .ok (.iadd, 1) := by decide +kernel
theorem d_MenuScreensModel_endLine_197 : decode prog_13_method_21_code 197 = .ok (.iaload, 1) := by decide +kernel
theorem d_MenuScreensModel_endLine_198 : decode prog_13_method_21_code 198 = .ok (.ifCond .le 17, 3) := by decide +kernel
theorem d_MenuScreensModel_endLine_201 : decode prog_13_method_21_code 201 = .ok (.aload_n 0, 1) := by decide +kernel
theorem d_MenuScreensModel_endLine_202 : decode prog_13_method_21_code 202 = .ok (.iload_n 2, 1) := by decide +kernel
theorem d_MenuScreensModel_endLine_203 : decode prog_13_method_21_code 203 = .ok (.iload 4, 2) := by decide +kernel
theorem d_MenuScreensModel_endLine_205 : decode prog_13_method_21_code 205 = .ok (.invokevirtual 230, 3) := by decide +kernel
theorem d_MenuScreensModel_endLine_208 : decode prog_13_method_21_code 208 = .ok (.ifCond .ne 7, 3) := by decide +kernel
theorem d_MenuScreensModel_endLine_211 : decode prog_13_method_21_code 211 = .ok (.iconst 1, 1) := by decide +kernel
theorem d_MenuScreensModel_endLine_212 : decode prog_13_method_21_code 212 = .ok (.goto 4, 3) := by decide +kernel
theorem d_MenuScreensModel_endLine_215 : decode prog_13_method_21_code 215 = .ok (.iconst 0, 1) := by decide +kernel
theorem d_MenuScreensModel_endLine_216 : decode prog_13_method_21_code 216 = .ok (.istore_n 3, 1) := by decide +kernel
theorem d_MenuScreensModel_endLine_217 : decode prog_13_method_21_code 217 = .ok (.iinc 4 1, 3) := by decide +kernel
theorem d_MenuScreensModel_endLine_220 : decode prog_13_method_21_code 220 = .ok (.goto (-45), 3) := by decide +kernel
theorem d_MenuScreensModel_endLine_223 : decode prog_13_method_21_code 223 = .ok (.iload_n 3, 1) := by decide +kernel
theorem d_MenuScreensModel_endLine_224 : decode prog_13_method_21_code 224 = .ok (.ifCond .eq 14, 3) := by decide +kernel
theorem d_MenuScreensModel_endLine_227 : decode prog_13_method_21_code 227 = .ok (.iload_n 1, 1) := by decide +kernel
theorem d_MenuScreensModel_endLine_228 : decode prog_13_method_21_code 228 = .ok (.ifCond .ne 10, 3) := by decide +kernel
theorem d_MenuScreensModel_endLine_231 : decode prog_13_method_21_code 231 = .ok (.aload_n 0, 1) := by decide +kernel
theorem d_MenuScreensModel_endLine_232 : decode prog_13_method_21_code 232 = .ok (.getfield 45, 3) := by decide +kernel
theorem d_MenuScreensModel_endLine_235 : decode prog_13_method_21_code 235 = .ok (.iload_n 2, 1) := by decide +kernel
theorem d_MenuScreensModel_endLine_236 : decode prog_13_method_21_code 236 = .ok (.iaload, 1) := by decide +kernel
theorem d_MenuScreensModel_endLine_237 : decode prog_13_method_21_code 237 = .ok (.istore_n 1, 1) := by decide +kernel
theorem d_MenuScreensModel_endLine_238 : decode prog_13_method_21_code 238 = .ok (.iinc 2 1, 3) := by decide +kernel
theorem d_MenuScreensModel_endLine_241 : decode prog_13_method_21_code 241 = .ok (.goto (-116), 3) := by decide +kernel
theorem d_MenuScreensModel_endLine_244 : decode prog_13_method_21_code 244 = .ok (.iload_n 1, 1) := by decide +kernel
theorem d_MenuScreensModel_endLine_245 : decode prog_13_method_21_code 245 = .ok (.ireturn, 1) := by decide +kernel
set_option maxRecDepth 100000 in
set_option maxHeartbeats 4000000 in
theorem cm_MenuScreensModel_endLine {l : Launch} {S0 : State} {b : Nat} {D : va_G} {dT : Nat → ClassId} (hE : vEnv S0 b D dT) {h0 : vH} {a : Nat} {ar : Nat → Nat} {x : Nat → Int32} {y : Nat → Int64} {A : Nat → Nat → Int32} {B : Nat → Nat → Int64} (M : MV S0 dT h0 a ar x y A B) {ns : Nat} (hns : x 20 = nI ns) (hns2 : ns ≤ 30) (hR : ∀ v, 1 ≤ v → v ≤ ns → ∃ p q, A 21 v = nI p ∧ A 22 v = nI q ∧ p ≤ q ∧ q ≤ 4000) (hri : x 48 = nI 0) (hQ0 : ∀ q, ¬ A 27 q = 0 → ∃ p t, A 26 q = nI p ∧ A 27 q = nI t ∧ p ≤ t ∧ t ≤ 4000) : vMi l S0 D vcl GT y_MenuScreensModel_endLine prog_13_method_21_code 5 (some .int) 3 100 0 0 [.ref a] h0 (fun r h' => ∃ x' A', MR S0 dT h0 h' a ar x' y A' B ∧ r = ffS A ns (hEnd (fun s k => ldS A ns (10 * s + k)) ns) ns ∧ x' = upd x 48 (nI (cnt (fun j => !hEnd (fun s k => ldS A ns (10 * s + k)) ns (j + 1)) ns)) ∧ ∃ g, A' = va_up (va_up A 25 g) 49 (rg (hEnd (fun s k => ldS A ns (10 * s + k)) ns) (A 49) ns)) := by
  unfold vMi
  refine vM_ofQ hE.1 (by decide) (Nat.le_of_ble_eq_true rfl) (fun p e s m args below meth c ls Q hQ C hr hlk hnm X hl => ?_)
  have C : vC p s m _ c _ _ "MenuScreensModel" GT D vcl (vty dT) := C
  have hx := C.1.1
  have hb := C.1.2.1
  replace M := MR.of M
  obtain ⟨H, eH⟩ : ∃ z, z = s.heap := ⟨_, rfl⟩
  obtain ⟨locs, elocs⟩ : ∃ z : List Loc, z = [] := ⟨_, rfl⟩
  rw [← eH, ← elocs] at X
  rw [← eH, ← elocs]
  clear eH elocs
  have hl : lv_has ls 5 [(0, .ref a)] := hl
  refine lv_iconst (v := 1) hx hb d_MenuScreensModel_endLine_0 (by decide) ?_
  refine lv_istore_n (lv' := [(1, .int 1), (0, .ref a)]) hx hb d_MenuScreensModel_endLine_1 rfl hl (by decide) rfl (fun ls hl => ?_)
  rw [← va_up_id A 25] at M
  have lpA : ∀ (n_lpA : Nat) (k : Nat) (g : Nat → Int32) (i : Int32) (ls : Array Slot) (h : vH) (H : Heap) (locs : List Loc), (i = nI (k + 1)) → (k ≤ ns) → (∀ j, 1 ≤ j → j ≤ k → g j = bI (decide (j = 1))) → (ns - k) < n_lpA → vO S0 D vcl h s H locs → MR S0 dT h0 h a ar x y (va_up A 25 g) B → lv_has ls 5 [(0, .ref a), (1, .int i)] → W p l e (vRm 3 100 0 0) s m args below meth c H locs 0 0 Q (F0 m 2 ls []) := by
    intro n_lpA
    induction n_lpA with
    | zero => intros; exact absurd (by assumption) (Nat.not_lt_zero _)
    | succ n_lpA ih_lpA =>
      intro k g i ls h H locs ei hk hg hmu_lpA X M hl
      refine lv_iload_n hx hb d_MenuScreensModel_endLine_2 rfl (lv_at hl 1 rfl) ?_
      refine lv_aload_n hx hb d_MenuScreensModel_endLine_3 rfl (lv_at hl 0 rfl) ?_
      refine mm_get C X M 20 f_12_169_13 (.int (x 20)) rfl d_MenuScreensModel_endLine_4 ?_
      refine lv_icmp_gt (tgt := 32) hx hb d_MenuScreensModel_endLine_7 (by decide) (fun c1 => ?_) (fun c1 => ?_)
      · skip
        have hkn : k = ns := by
          have := (nI_ltI (a := ns) (b := k + 1) (by omega) (by omega)).mp (by rw [← ei, ← hns]; exact c1)
          omega
        rw [hkn] at hg
        refine lv_iconst (v := 0) hx hb d_MenuScreensModel_endLine_32 (by decide) ?_
        refine lv_istore_n (lv' := [(1, .int 0), (0, .ref a)]) hx hb d_MenuScreensModel_endLine_33 rfl hl (by decide) rfl (fun ls hl => ?_)
        obtain ⟨HF, hHF⟩ : ∃ z, z = hEnd (fun s k => ldS A ns (10 * s + k)) ns := ⟨_, rfl⟩
        have lpB : ∀ (n_lpB : Nat) (t : Nat) (g : Nat → Int32) (hm : Nat → Bool) (t0 : Int32) (ls : Array Slot) (h : vH) (H : Heap) (locs : List Loc), (t0 = nI t) → (t ≤ ns) → (∀ j, 1 ≤ j → j ≤ ns → g j = bI (hm j)) → (hIt (fun s k => ldS A ns (10 * s + k)) ns (ns - t) hm = HF) → (ns - t) < n_lpB → vO S0 D vcl h s H locs → MR S0 dT h0 h a ar x y (va_up A 25 g) B → lv_has ls 5 [(0, .ref a), (1, .int t0)] → W p l e (vRm 3 100 0 0) s m args below meth c H locs 0 0 Q (F0 m 34 ls []) := by
          intro n_lpB
          induction n_lpB with
          | zero => intros; exact absurd (by assumption) (Nat.not_lt_zero _)
          | succ n_lpB ih_lpB =>
            intro t g hm t0 ls h H locs et ht hg hi hmu_lpB X M hl
            refine lv_iload_n hx hb d_MenuScreensModel_endLine_34 rfl (lv_at hl 1 rfl) ?_
            refine lv_aload_n hx hb d_MenuScreensModel_endLine_35 rfl (lv_at hl 0 rfl) ?_
            refine mm_get C X M 20 f_12_169_13 (.int (x 20)) rfl d_MenuScreensModel_endLine_36 ?_
            refine lv_icmp_ge (tgt := 121) hx hb d_MenuScreensModel_endLine_39 (by decide) (fun c2 => ?_) (fun c2 => ?_)
            · skip
              refine lv_iconst (v := 0) hx hb d_MenuScreensModel_endLine_121 (by decide) ?_
              refine lv_istore_n (lv' := [(1, .int 0), (0, .ref a)]) hx hb d_MenuScreensModel_endLine_122 rfl hl (by decide) rfl (fun ls hl => ?_)
              refine lv_iconst (v := 1) hx hb d_MenuScreensModel_endLine_123 (by decide) ?_
              refine lv_istore_n (lv' := [(2, .int 1), (1, .int 0), (0, .ref a)]) hx hb d_MenuScreensModel_endLine_124 rfl hl (by decide) rfl (fun ls hl => ?_)
              have ht9 : t = ns := by
                have := (nI_leI (a := ns) (b := t) (by omega) (by omega)).mp (by rw [← et, ← hns]; exact c2)
                omega
              rw [ht9, Nat.sub_self, hIt] at hi
              rw [hi] at hg
              rw [← va_up_id (va_up A 25 g) 49] at M
              have lpE : ∀ (n_lpE : Nat) (s1 : Nat) (r9 : Nat → Int32) (fi : Int32) (s0 : Int32) (i48 : Int32) (ls : Array Slot) (h : vH) (H : Heap) (locs : List Loc), (s0 = nI (s1 + 1)) → (s1 ≤ ns) → (i48 = nI (cnt (fun j => !HF (j + 1)) s1)) → (r9 = rg HF (A 49) s1) → (fi = ffS A ns HF s1) → (ns - s1) < n_lpE → vO S0 D vcl h s H locs → MR S0 dT h0 h a ar (upd x 48 i48) y (va_up (va_up A 25 g) 49 r9) B → lv_has ls 5 [(0, .ref a), (1, .int fi), (2, .int s0)] → W p l e (vRm 3 100 0 0) s m args below meth c H locs 0 0 Q (F0 m 125 ls []) := by
                intro n_lpE
                induction n_lpE with
                | zero => intros; exact absurd (by assumption) (Nat.not_lt_zero _)
                | succ n_lpE ih_lpE =>
                  intro s1 r9 fi s0 i48 ls h H locs es hs1 e48 er9 ef hmu_lpE X M hl
                  refine lv_iload_n hx hb d_MenuScreensModel_endLine_125 rfl (lv_at hl 2 rfl) ?_
                  refine lv_aload_n hx hb d_MenuScreensModel_endLine_126 rfl (lv_at hl 0 rfl) ?_
                  refine mm_get C X M 20 f_12_169_13 (.int (x 20)) rfl d_MenuScreensModel_endLine_127 ?_
                  refine lv_icmp_gt (tgt := 244) hx hb d_MenuScreensModel_endLine_130 (by decide) (fun c3 => ?_) (fun c3 => ?_)
                  · skip
                    refine lv_iload_n hx hb d_MenuScreensModel_endLine_244 rfl (lv_at hl 1 rfl) ?_
                    exact mq_iret hQ C X hr rfl hlk (⟨(upd x 48 i48), (va_up (va_up A 25 g) 49 r9), M, by
                        have hsn : s1 = ns := by
                          have := (nI_ltI (a := ns) (b := s1 + 1) (by omega) (by omega)).mp (by rw [← es, ← hns]; exact c3)
                          omega
                        rw [hsn] at e48 er9 ef
                        rw [hHF] at e48 er9 ef
                        exact ⟨ef, by rw [e48], g, by rw [er9]⟩⟩) (Nat.le_refl _) (Nat.le_refl _) d_MenuScreensModel_endLine_245
                  · skip
                    have hsn : s1 + 1 ≤ ns := by
                      rcases Nat.lt_or_ge ns (s1 + 1) with q | q
                      · exact absurd (by rw [hns, es]; exact nI_lt q (by omega)) c3
                      · exact q
                    have hcn : cnt (fun j => !HF (j + 1)) s1 ≤ s1 := cnt_le _ _
                    refine lv_aload_n hx hb d_MenuScreensModel_endLine_133 rfl (lv_at hl 0 rfl) ?_
                    refine mm_get C X M 25 f_12_51_13 (.ref (ar 25)) rfl d_MenuScreensModel_endLine_134 ?_
                    refine lv_iload_n hx hb d_MenuScreensModel_endLine_137 rfl (lv_at hl 2 rfl) ?_
                    refine mm_zald C X M 25 31 rfl g rfl (by decide) (s1 + 1) es (by omega) d_MenuScreensModel_endLine_138 ?_
                    refine lv_if_ne (tgt := 146) hx hb d_MenuScreensModel_endLine_139 (by decide) (fun c4 => ?_) (fun c4 => ?_)
                    · skip
                      refine lv_iconst (v := 0) hx hb d_MenuScreensModel_endLine_146 (by decide) ?_
                      refine lv_istore_n (lv' := [(3, .int 0), (0, .ref a), (1, .int fi), (2, .int s0)]) hx hb d_MenuScreensModel_endLine_147 rfl hl (by decide) rfl (fun ls hl => ?_)
                      refine lv_iload_n hx hb d_MenuScreensModel_endLine_148 rfl (lv_at hl 0 rfl) ?_
                      refine lv_if_eq (tgt := 172) hx hb d_MenuScreensModel_endLine_149 (by decide) (fun c5 => ?_) (fun z => absurd rfl z)
                      have hH : HF (s1 + 1) = true := bI_n (fun z => c4 ((hg _ (by omega) hsn).trans z))
                      have e48b : i48 = nI (cnt (fun j => !HF (j + 1)) (s1 + 1)) := by rw [cnt_f (by show (!HF (s1 + 1)) = false; rw [hH]; rfl)]; exact e48
                      have er9b : r9 = rg HF (A 49) (s1 + 1) := by rw [rg, if_pos hH]; exact er9
                      refine lv_iconst (v := 1) hx hb d_MenuScreensModel_endLine_172 (by decide) ?_
                      refine lv_istore (lv' := [(4, .int 1), (3, .int 0), (0, .ref a), (1, .int fi), (2, .int s0)]) hx hb d_MenuScreensModel_endLine_173 hl (by decide) rfl (fun ls hl => ?_)
                      have lpF : ∀ (n_lpF : Nat) (k : Nat) (b3 : Int32) (k4 : Int32) (ls : Array Slot) (H : Heap) (locs : List Loc), (k4 = nI (k + 1)) → (k ≤ 9) → (b3 = bI (!HF (s1 + 1) || anyK (fun k => decide (0 < A 27 (10 * (s1 + 1) + k)) && decide (ldS A ns (10 * (s1 + 1) + k) = 0)) k)) → (9 - k) < n_lpF → vO S0 D vcl h s H locs → lv_has ls 5 [(0, .ref a), (1, .int fi), (2, .int s0), (3, .int b3), (4, .int k4)] → W p l e (vRm 3 100 0 0) s m args below meth c H locs 0 0 Q (F0 m 175 ls []) := by
                        intro n_lpF
                        induction n_lpF with
                        | zero => intros; exact absurd (by assumption) (Nat.not_lt_zero _)
                        | succ n_lpF ih_lpF =>
                          intro k b3 k4 ls H locs ek hk eb hmu_lpF X hl
                          refine lv_iload hx hb d_MenuScreensModel_endLine_175 (lv_at hl 4 rfl) ?_
                          refine lv_bipush (v := 10) hx hb d_MenuScreensModel_endLine_177 (by decide) ?_
                          refine lv_icmp_ge (tgt := 223) hx hb d_MenuScreensModel_endLine_179 (by decide) (fun c6 => ?_) (fun c6 => ?_)
                          · skip
                            have hk9 : k = 9 := by
                              have := (nI_leI (a := 10) (b := k + 1) (by decide) (by omega)).mp (by rw [← ek]; exact c6)
                              omega
                            rw [hk9] at eb
                            replace eb : b3 = bI (bdS A ns HF (s1 + 1)) := eb
                            refine lv_iload_n hx hb d_MenuScreensModel_endLine_223 rfl (lv_at hl 3 rfl) ?_
                            refine lv_if_eq (tgt := 238) hx hb d_MenuScreensModel_endLine_224 (by decide) (fun c7 => ?_) (fun c7 => ?_)
                            · skip
                              have efb : fi = ffS A ns HF (s1 + 1) := by rw [ffS, if_neg (fun z => absurd z.1 (by rw [bI_0 (eb.symm.trans c7)]; decide))]; exact ef
                              refine lv_iinc (v := (s0 + 1)) (lv' := [(2, .int (s0 + 1)), (0, .ref a), (1, .int fi), (3, .int b3), (4, .int k4)]) hx hb d_MenuScreensModel_endLine_238 hl (k := 2) rfl rfl (by decide) rfl (fun ls hl => ?_)
                              refine lv_goto (tgt := 125) hx hb d_MenuScreensModel_endLine_241 (by decide) ?_
                              exact ih_lpE (s1 + 1) r9 fi (s0 + 1) i48 ls _ _ _ (by rw [es]; exact nI_1 _) (by omega) e48b er9b efb (by omega) X M (lv_sub hl [1, 2, 0] rfl)
                            · skip
                              refine lv_iload_n hx hb d_MenuScreensModel_endLine_227 rfl (lv_at hl 1 rfl) ?_
                              refine lv_if_ne (tgt := 238) hx hb d_MenuScreensModel_endLine_228 (by decide) (fun c8 => ?_) (fun c8 => ?_)
                              · skip
                                have efb : fi = ffS A ns HF (s1 + 1) := by rw [ffS, if_neg (fun z => c8 (ef.trans z.2))]; exact ef
                                refine lv_iinc (v := (s0 + 1)) (lv' := [(2, .int (s0 + 1)), (0, .ref a), (1, .int fi), (3, .int b3), (4, .int k4)]) hx hb d_MenuScreensModel_endLine_238 hl (k := 2) rfl rfl (by decide) rfl (fun ls hl => ?_)
                                refine lv_goto (tgt := 125) hx hb d_MenuScreensModel_endLine_241 (by decide) ?_
                                exact ih_lpE (s1 + 1) r9 fi (s0 + 1) i48 ls _ _ _ (by rw [es]; exact nI_1 _) (by omega) e48b er9b efb (by omega) X M (lv_sub hl [1, 2, 0] rfl)
                              · skip
                                refine lv_aload_n hx hb d_MenuScreensModel_endLine_231 rfl (lv_at hl 0 rfl) ?_
                                refine mm_get C X M 23 f_12_45_13 (.ref (ar 23)) rfl d_MenuScreensModel_endLine_232 ?_
                                refine lv_iload_n hx hb d_MenuScreensModel_endLine_235 rfl (lv_at hl 2 rfl) ?_
                                refine mm_iald C X M 23 31 rfl (A 23) rfl (by decide) (s1 + 1) es (by omega) d_MenuScreensModel_endLine_236 ?_
                                refine lv_istore_n (lv' := [(1, .int ((A 23) (s1 + 1))), (0, .ref a), (2, .int s0), (3, .int b3), (4, .int k4)]) hx hb d_MenuScreensModel_endLine_237 rfl hl (by decide) rfl (fun ls hl => ?_)
                                have efb : ((A 23) (s1 + 1)) = ffS A ns HF (s1 + 1) := by rw [ffS, if_pos ⟨bI_n (fun z => c7 (eb.trans z)), ef.symm.trans c8⟩]
                                refine lv_iinc (v := (s0 + 1)) (lv' := [(2, .int (s0 + 1)), (1, .int ((A 23) (s1 + 1))), (0, .ref a), (3, .int b3), (4, .int k4)]) hx hb d_MenuScreensModel_endLine_238 hl (k := 2) rfl rfl (by decide) rfl (fun ls hl => ?_)
                                refine lv_goto (tgt := 125) hx hb d_MenuScreensModel_endLine_241 (by decide) ?_
                                exact ih_lpE (s1 + 1) r9 ((A 23) (s1 + 1)) (s0 + 1) i48 ls _ _ _ (by rw [es]; exact nI_1 _) (by omega) e48b er9b efb (by omega) X M (lv_sub hl [2, 1, 0] rfl)
                          · skip
                            have hlk : k < 9 := by
                              rcases Nat.lt_or_ge k 9 with q | q
                              · exact q
                              · exact absurd (by rw [ek]; exact nI_le (a := 10) (by omega) (by omega)) c6
                            have iq : 10 * s0 + k4 = nI (10 * (s1 + 1) + (k + 1)) := by rw [es, ek]; exact (congrArg (· + nI (k + 1)) (pk_mul 10 (s1 + 1))).trans (nI_add _ _)
                            have hldn := ldS_le A ns (10 * (s1 + 1) + (k + 1))
                            refine lv_iload_n hx hb d_MenuScreensModel_endLine_182 rfl (lv_at hl 3 rfl) ?_
                            refine lv_if_ne (tgt := 211) hx hb d_MenuScreensModel_endLine_183 (by decide) (fun c9 => ?_) (fun c9 => ?_)
                            · skip
                              refine lv_iconst (v := 1) hx hb d_MenuScreensModel_endLine_211 (by decide) ?_
                              refine lv_goto (tgt := 216) hx hb d_MenuScreensModel_endLine_212 (by decide) ?_
                              refine lv_istore_n (lv' := [(3, .int 1), (0, .ref a), (1, .int fi), (2, .int s0), (4, .int k4)]) hx hb d_MenuScreensModel_endLine_216 rfl hl (by decide) rfl (fun ls hl => ?_)
                              have eb1 : (1 : Int32) = bI (!HF (s1 + 1) || anyK (fun k => decide (0 < A 27 (10 * (s1 + 1) + k)) && decide (ldS A ns (10 * (s1 + 1) + k) = 0)) (k + 1)) := by
                                show _ = bI (!HF (s1 + 1) || (anyK (fun k => decide (0 < A 27 (10 * (s1 + 1) + k)) && decide (ldS A ns (10 * (s1 + 1) + k) = 0)) k || (decide (0 < A 27 (10 * (s1 + 1) + (k + 1))) && decide (ldS A ns (10 * (s1 + 1) + (k + 1)) = 0)))); rw [← Bool.or_assoc]; rw [bI_n (fun z => c9 (eb.trans z))]; rfl
                              refine lv_iinc (v := (k4 + 1)) (lv' := [(4, .int (k4 + 1)), (3, .int 1), (0, .ref a), (1, .int fi), (2, .int s0)]) hx hb d_MenuScreensModel_endLine_217 hl (k := 4) rfl rfl (by decide) rfl (fun ls hl => ?_)
                              refine lv_goto (tgt := 175) hx hb d_MenuScreensModel_endLine_220 (by decide) ?_
                              exact ih_lpF (k + 1) 1 (k4 + 1) ls _ _ (by rw [ek]; exact nI_1 _) (by omega) eb1 (by omega) X (lv_sub hl [2, 3, 4, 1, 0] rfl)
                            · skip
                              refine lv_aload_n hx hb d_MenuScreensModel_endLine_186 rfl (lv_at hl 0 rfl) ?_
                              refine mm_get C X M 27 f_12_57_13 (.ref (ar 27)) rfl d_MenuScreensModel_endLine_187 ?_
                              refine lv_bipush (v := 10) hx hb d_MenuScreensModel_endLine_190 (by decide) ?_
                              refine lv_iload_n hx hb d_MenuScreensModel_endLine_192 rfl (lv_at hl 2 rfl) ?_
                              refine lv_imul hx hb d_MenuScreensModel_endLine_193 ?_
                              refine lv_iload hx hb d_MenuScreensModel_endLine_194 (lv_at hl 4 rfl) ?_
                              refine lv_iadd hx hb d_MenuScreensModel_endLine_196 ?_
                              refine mm_iald C X M 27 310 rfl (A 27) rfl (by decide) (10 * (s1 + 1) + (k + 1)) iq (by omega) d_MenuScreensModel_endLine_197 ?_
                              refine lv_if_le (tgt := 215) hx hb d_MenuScreensModel_endLine_198 (by decide) (fun c10 => ?_) (fun c10 => ?_)
                              · skip
                                refine lv_iconst (v := 0) hx hb d_MenuScreensModel_endLine_215 (by decide) ?_
                                refine lv_istore_n (lv' := [(3, .int 0), (0, .ref a), (1, .int fi), (2, .int s0), (4, .int k4)]) hx hb d_MenuScreensModel_endLine_216 rfl hl (by decide) rfl (fun ls hl => ?_)
                                have eb1 : (0 : Int32) = bI (!HF (s1 + 1) || anyK (fun k => decide (0 < A 27 (10 * (s1 + 1) + k)) && decide (ldS A ns (10 * (s1 + 1) + k) = 0)) (k + 1)) := by
                                  show _ = bI (!HF (s1 + 1) || (anyK (fun k => decide (0 < A 27 (10 * (s1 + 1) + k)) && decide (ldS A ns (10 * (s1 + 1) + k) = 0)) k || (decide (0 < A 27 (10 * (s1 + 1) + (k + 1))) && decide (ldS A ns (10 * (s1 + 1) + (k + 1)) = 0)))); rw [← Bool.or_assoc]; rw [bI_0 (eb.symm.trans c9)]; rw [decide_eq_false (p := 0 < A 27 (10 * (s1 + 1) + (k + 1))) (Int32.not_lt.mpr c10)]; rfl
                                refine lv_iinc (v := (k4 + 1)) (lv' := [(4, .int (k4 + 1)), (3, .int 0), (0, .ref a), (1, .int fi), (2, .int s0)]) hx hb d_MenuScreensModel_endLine_217 hl (k := 4) rfl rfl (by decide) rfl (fun ls hl => ?_)
                                refine lv_goto (tgt := 175) hx hb d_MenuScreensModel_endLine_220 (by decide) ?_
                                exact ih_lpF (k + 1) 0 (k4 + 1) ls _ _ (by rw [ek]; exact nI_1 _) (by omega) eb1 (by omega) X (lv_sub hl [2, 3, 4, 1, 0] rfl)
                              · skip
                                refine lv_aload_n hx hb d_MenuScreensModel_endLine_201 rfl (lv_at hl 0 rfl) ?_
                                refine lv_iload_n hx hb d_MenuScreensModel_endLine_202 rfl (lv_at hl 2 rfl) ?_
                                refine lv_iload hx hb d_MenuScreensModel_endLine_203 (lv_at hl 4 rfl) ?_
                                refine mv_bi X (mv_rV (rest := []) (As := [.int s0, .int k4]) gt_good C X k_12_230 (cm_MenuScreensModel_leads hE M.1 _ _ (s0 := s1 + 1) (k0 := k + 1) (n := ns) es ek (by omega) (by omega) hns hns2 hR (hQ0 (10 * (s1 + 1) + (k + 1)))) M.1.1 rfl rfl ⟨by decide, by decide⟩ rfl hl.1 rfl (Nat.le_of_ble_eq_true rfl) d_MenuScreensModel_endLine_205 ⟨Nat.le_refl _, Nat.le_refl _⟩) (fun r11 hN H locs hp X => ?_)
                                obtain ⟨ehr11, er11⟩ := hp
                                rw [ehr11] at X
                                replace er11 : r11 = nI (ldS A ns (10 * (s1 + 1) + (k + 1))) := er11
                                refine lv_if_ne (tgt := 215) hx hb d_MenuScreensModel_endLine_208 (by decide) (fun c12 => ?_) (fun c12 => ?_)
                                · skip
                                  refine lv_iconst (v := 0) hx hb d_MenuScreensModel_endLine_215 (by decide) ?_
                                  refine lv_istore_n (lv' := [(3, .int 0), (0, .ref a), (1, .int fi), (2, .int s0), (4, .int k4)]) hx hb d_MenuScreensModel_endLine_216 rfl hl (by decide) rfl (fun ls hl => ?_)
                                  have eb1 : (0 : Int32) = bI (!HF (s1 + 1) || anyK (fun k => decide (0 < A 27 (10 * (s1 + 1) + k)) && decide (ldS A ns (10 * (s1 + 1) + k) = 0)) (k + 1)) := by
                                    show _ = bI (!HF (s1 + 1) || (anyK (fun k => decide (0 < A 27 (10 * (s1 + 1) + k)) && decide (ldS A ns (10 * (s1 + 1) + k) = 0)) k || (decide (0 < A 27 (10 * (s1 + 1) + (k + 1))) && decide (ldS A ns (10 * (s1 + 1) + (k + 1)) = 0)))); rw [← Bool.or_assoc]; rw [bI_0 (eb.symm.trans c9)]; rw [decide_eq_true (p := 0 < A 27 (10 * (s1 + 1) + (k + 1))) (Int32.not_le.mp c10)]; rw [decide_eq_false (p := ldS A ns (10 * (s1 + 1) + (k + 1)) = 0) (fun z => c12 (by rw [er11, z]; rfl))]; rfl
                                  refine lv_iinc (v := (k4 + 1)) (lv' := [(4, .int (k4 + 1)), (3, .int 0), (0, .ref a), (1, .int fi), (2, .int s0)]) hx hb d_MenuScreensModel_endLine_217 hl (k := 4) rfl rfl (by decide) rfl (fun ls hl => ?_)
                                  refine lv_goto (tgt := 175) hx hb d_MenuScreensModel_endLine_220 (by decide) ?_
                                  exact ih_lpF (k + 1) 0 (k4 + 1) ls _ _ (by rw [ek]; exact nI_1 _) (by omega) eb1 (by omega) X (lv_sub hl [2, 3, 4, 1, 0] rfl)
                                · skip
                                  refine lv_iconst (v := 1) hx hb d_MenuScreensModel_endLine_211 (by decide) ?_
                                  refine lv_goto (tgt := 216) hx hb d_MenuScreensModel_endLine_212 (by decide) ?_
                                  refine lv_istore_n (lv' := [(3, .int 1), (0, .ref a), (1, .int fi), (2, .int s0), (4, .int k4)]) hx hb d_MenuScreensModel_endLine_216 rfl hl (by decide) rfl (fun ls hl => ?_)
                                  have eb1 : (1 : Int32) = bI (!HF (s1 + 1) || anyK (fun k => decide (0 < A 27 (10 * (s1 + 1) + k)) && decide (ldS A ns (10 * (s1 + 1) + k) = 0)) (k + 1)) := by
                                    show _ = bI (!HF (s1 + 1) || (anyK (fun k => decide (0 < A 27 (10 * (s1 + 1) + k)) && decide (ldS A ns (10 * (s1 + 1) + k) = 0)) k || (decide (0 < A 27 (10 * (s1 + 1) + (k + 1))) && decide (ldS A ns (10 * (s1 + 1) + (k + 1)) = 0)))); rw [← Bool.or_assoc]; rw [bI_0 (eb.symm.trans c9)]; rw [decide_eq_true (p := 0 < A 27 (10 * (s1 + 1) + (k + 1))) (Int32.not_le.mp c10)]; rw [decide_eq_true (p := ldS A ns (10 * (s1 + 1) + (k + 1)) = 0) (nI_eqI (by omega) (by decide) (by rw [← er11]; exact c12))]; rfl
                                  refine lv_iinc (v := (k4 + 1)) (lv' := [(4, .int (k4 + 1)), (3, .int 1), (0, .ref a), (1, .int fi), (2, .int s0)]) hx hb d_MenuScreensModel_endLine_217 hl (k := 4) rfl rfl (by decide) rfl (fun ls hl => ?_)
                                  refine lv_goto (tgt := 175) hx hb d_MenuScreensModel_endLine_220 (by decide) ?_
                                  exact ih_lpF (k + 1) 1 (k4 + 1) ls _ _ (by rw [ek]; exact nI_1 _) (by omega) eb1 (by omega) X (lv_sub hl [2, 3, 4, 1, 0] rfl)
                      exact lpF (9 - 0 + 1) 0 0 1 ls _ _ rfl (by omega) (by rw [hH]; rfl) (Nat.lt_succ_self _) X (lv_sub hl [2, 3, 4, 1, 0] rfl)
                    · skip
                      refine lv_iconst (v := 1) hx hb d_MenuScreensModel_endLine_142 (by decide) ?_
                      refine lv_goto (tgt := 147) hx hb d_MenuScreensModel_endLine_143 (by decide) ?_
                      refine lv_istore_n (lv' := [(3, .int 1), (0, .ref a), (1, .int fi), (2, .int s0)]) hx hb d_MenuScreensModel_endLine_147 rfl hl (by decide) rfl (fun ls hl => ?_)
                      refine lv_iload_n hx hb d_MenuScreensModel_endLine_148 rfl (lv_at hl 0 rfl) ?_
                      refine lv_if_eq (tgt := 172) hx hb d_MenuScreensModel_endLine_149 (by decide) (fun z => absurd z (by decide)) (fun c13 => ?_)
                      refine lv_aload_n hx hb d_MenuScreensModel_endLine_152 rfl (lv_at hl 1 rfl) ?_
                      refine mm_get C X M 49 f_12_105_13 (.ref (ar 49)) rfl d_MenuScreensModel_endLine_153 ?_
                      refine lv_aload_n hx hb d_MenuScreensModel_endLine_156 rfl (lv_at hl 1 rfl) ?_
                      refine mm_get C X M 48 f_12_233_13 (.int i48) rfl d_MenuScreensModel_endLine_157 ?_
                      refine lv_iload_n hx hb d_MenuScreensModel_endLine_160 rfl (lv_at hl 3 rfl) ?_
                      refine mm_iast C X M 49 30 rfl r9 rfl (fun _ => rfl) (by decide) (cnt (fun j => !HF (j + 1)) s1) e48 (by omega) d_MenuScreensModel_endLine_161 (fun h H locs X M => ?_)
                      rw [bx_uu] at M
                      refine lv_aload_n hx hb d_MenuScreensModel_endLine_162 rfl (lv_at hl 1 rfl) ?_
                      refine lv_dup hx hb d_MenuScreensModel_endLine_163 rfl ?_
                      refine mm_get C X M 48 f_12_233_13 (.int i48) rfl d_MenuScreensModel_endLine_164 ?_
                      refine lv_iconst (v := 1) hx hb d_MenuScreensModel_endLine_167 (by decide) ?_
                      refine lv_iadd hx hb d_MenuScreensModel_endLine_168 ?_
                      refine mm_put C X M 48 p_12_233_13 (upd x 48 (i48 + 1)) y rfl rfl rfl (by decide) d_MenuScreensModel_endLine_169 (fun h H locs X M => ?_)
                      have hH : HF (s1 + 1) = false := bI_0 ((hg _ (by omega) hsn).symm.trans c4)
                      have e48b : (i48 + 1) = nI (cnt (fun j => !HF (j + 1)) (s1 + 1)) := by rw [cnt_t (by show (!HF (s1 + 1)) = true; rw [hH]; rfl), e48]; exact nI_1 _
                      have er9b : (upd r9 (cnt (fun j => !HF (j + 1)) s1) s0) = rg HF (A 49) (s1 + 1) := by rw [rg, if_neg (by rw [hH]; decide), er9, es]
                      refine lv_iconst (v := 1) hx hb d_MenuScreensModel_endLine_172 (by decide) ?_
                      refine lv_istore (lv' := [(4, .int 1), (3, .int 1), (0, .ref a), (1, .int fi), (2, .int s0)]) hx hb d_MenuScreensModel_endLine_173 hl (by decide) rfl (fun ls hl => ?_)
                      have lpF : ∀ (n_lpF : Nat) (k : Nat) (b3 : Int32) (k4 : Int32) (ls : Array Slot) (H : Heap) (locs : List Loc), (k4 = nI (k + 1)) → (k ≤ 9) → (b3 = bI (!HF (s1 + 1) || anyK (fun k => decide (0 < A 27 (10 * (s1 + 1) + k)) && decide (ldS A ns (10 * (s1 + 1) + k) = 0)) k)) → (9 - k) < n_lpF → vO S0 D vcl h s H locs → lv_has ls 5 [(0, .ref a), (1, .int fi), (2, .int s0), (3, .int b3), (4, .int k4)] → W p l e (vRm 3 100 0 0) s m args below meth c H locs 0 0 Q (F0 m 175 ls []) := by
                        intro n_lpF
                        induction n_lpF with
                        | zero => intros; exact absurd (by assumption) (Nat.not_lt_zero _)
                        | succ n_lpF ih_lpF =>
                          intro k b3 k4 ls H locs ek hk eb hmu_lpF X hl
                          refine lv_iload hx hb d_MenuScreensModel_endLine_175 (lv_at hl 4 rfl) ?_
                          refine lv_bipush (v := 10) hx hb d_MenuScreensModel_endLine_177 (by decide) ?_
                          refine lv_icmp_ge (tgt := 223) hx hb d_MenuScreensModel_endLine_179 (by decide) (fun c14 => ?_) (fun c14 => ?_)
                          · skip
                            have hk9 : k = 9 := by
                              have := (nI_leI (a := 10) (b := k + 1) (by decide) (by omega)).mp (by rw [← ek]; exact c14)
                              omega
                            rw [hk9] at eb
                            replace eb : b3 = bI (bdS A ns HF (s1 + 1)) := eb
                            refine lv_iload_n hx hb d_MenuScreensModel_endLine_223 rfl (lv_at hl 3 rfl) ?_
                            refine lv_if_eq (tgt := 238) hx hb d_MenuScreensModel_endLine_224 (by decide) (fun c15 => ?_) (fun c15 => ?_)
                            · skip
                              have efb : fi = ffS A ns HF (s1 + 1) := by rw [ffS, if_neg (fun z => absurd z.1 (by rw [bI_0 (eb.symm.trans c15)]; decide))]; exact ef
                              refine lv_iinc (v := (s0 + 1)) (lv' := [(2, .int (s0 + 1)), (0, .ref a), (1, .int fi), (3, .int b3), (4, .int k4)]) hx hb d_MenuScreensModel_endLine_238 hl (k := 2) rfl rfl (by decide) rfl (fun ls hl => ?_)
                              refine lv_goto (tgt := 125) hx hb d_MenuScreensModel_endLine_241 (by decide) ?_
                              exact ih_lpE (s1 + 1) (upd r9 (cnt (fun j => !HF (j + 1)) s1) s0) fi (s0 + 1) (i48 + 1) ls _ _ _ (by rw [es]; exact nI_1 _) (by omega) e48b er9b efb (by omega) X M (lv_sub hl [1, 2, 0] rfl)
                            · skip
                              refine lv_iload_n hx hb d_MenuScreensModel_endLine_227 rfl (lv_at hl 1 rfl) ?_
                              refine lv_if_ne (tgt := 238) hx hb d_MenuScreensModel_endLine_228 (by decide) (fun c16 => ?_) (fun c16 => ?_)
                              · skip
                                have efb : fi = ffS A ns HF (s1 + 1) := by rw [ffS, if_neg (fun z => c16 (ef.trans z.2))]; exact ef
                                refine lv_iinc (v := (s0 + 1)) (lv' := [(2, .int (s0 + 1)), (0, .ref a), (1, .int fi), (3, .int b3), (4, .int k4)]) hx hb d_MenuScreensModel_endLine_238 hl (k := 2) rfl rfl (by decide) rfl (fun ls hl => ?_)
                                refine lv_goto (tgt := 125) hx hb d_MenuScreensModel_endLine_241 (by decide) ?_
                                exact ih_lpE (s1 + 1) (upd r9 (cnt (fun j => !HF (j + 1)) s1) s0) fi (s0 + 1) (i48 + 1) ls _ _ _ (by rw [es]; exact nI_1 _) (by omega) e48b er9b efb (by omega) X M (lv_sub hl [1, 2, 0] rfl)
                              · skip
                                refine lv_aload_n hx hb d_MenuScreensModel_endLine_231 rfl (lv_at hl 0 rfl) ?_
                                refine mm_get C X M 23 f_12_45_13 (.ref (ar 23)) rfl d_MenuScreensModel_endLine_232 ?_
                                refine lv_iload_n hx hb d_MenuScreensModel_endLine_235 rfl (lv_at hl 2 rfl) ?_
                                refine mm_iald C X M 23 31 rfl (A 23) rfl (by decide) (s1 + 1) es (by omega) d_MenuScreensModel_endLine_236 ?_
                                refine lv_istore_n (lv' := [(1, .int ((A 23) (s1 + 1))), (0, .ref a), (2, .int s0), (3, .int b3), (4, .int k4)]) hx hb d_MenuScreensModel_endLine_237 rfl hl (by decide) rfl (fun ls hl => ?_)
                                have efb : ((A 23) (s1 + 1)) = ffS A ns HF (s1 + 1) := by rw [ffS, if_pos ⟨bI_n (fun z => c15 (eb.trans z)), ef.symm.trans c16⟩]
                                refine lv_iinc (v := (s0 + 1)) (lv' := [(2, .int (s0 + 1)), (1, .int ((A 23) (s1 + 1))), (0, .ref a), (3, .int b3), (4, .int k4)]) hx hb d_MenuScreensModel_endLine_238 hl (k := 2) rfl rfl (by decide) rfl (fun ls hl => ?_)
                                refine lv_goto (tgt := 125) hx hb d_MenuScreensModel_endLine_241 (by decide) ?_
                                exact ih_lpE (s1 + 1) (upd r9 (cnt (fun j => !HF (j + 1)) s1) s0) ((A 23) (s1 + 1)) (s0 + 1) (i48 + 1) ls _ _ _ (by rw [es]; exact nI_1 _) (by omega) e48b er9b efb (by omega) X M (lv_sub hl [2, 1, 0] rfl)
                          · skip
                            have hlk : k < 9 := by
                              rcases Nat.lt_or_ge k 9 with q | q
                              · exact q
                              · exact absurd (by rw [ek]; exact nI_le (a := 10) (by omega) (by omega)) c14
                            have iq : 10 * s0 + k4 = nI (10 * (s1 + 1) + (k + 1)) := by rw [es, ek]; exact (congrArg (· + nI (k + 1)) (pk_mul 10 (s1 + 1))).trans (nI_add _ _)
                            have hldn := ldS_le A ns (10 * (s1 + 1) + (k + 1))
                            refine lv_iload_n hx hb d_MenuScreensModel_endLine_182 rfl (lv_at hl 3 rfl) ?_
                            refine lv_if_ne (tgt := 211) hx hb d_MenuScreensModel_endLine_183 (by decide) (fun c17 => ?_) (fun c17 => ?_)
                            · skip
                              refine lv_iconst (v := 1) hx hb d_MenuScreensModel_endLine_211 (by decide) ?_
                              refine lv_goto (tgt := 216) hx hb d_MenuScreensModel_endLine_212 (by decide) ?_
                              refine lv_istore_n (lv' := [(3, .int 1), (0, .ref a), (1, .int fi), (2, .int s0), (4, .int k4)]) hx hb d_MenuScreensModel_endLine_216 rfl hl (by decide) rfl (fun ls hl => ?_)
                              have eb1 : (1 : Int32) = bI (!HF (s1 + 1) || anyK (fun k => decide (0 < A 27 (10 * (s1 + 1) + k)) && decide (ldS A ns (10 * (s1 + 1) + k) = 0)) (k + 1)) := by
                                show _ = bI (!HF (s1 + 1) || (anyK (fun k => decide (0 < A 27 (10 * (s1 + 1) + k)) && decide (ldS A ns (10 * (s1 + 1) + k) = 0)) k || (decide (0 < A 27 (10 * (s1 + 1) + (k + 1))) && decide (ldS A ns (10 * (s1 + 1) + (k + 1)) = 0)))); rw [← Bool.or_assoc]; rw [bI_n (fun z => c17 (eb.trans z))]; rfl
                              refine lv_iinc (v := (k4 + 1)) (lv' := [(4, .int (k4 + 1)), (3, .int 1), (0, .ref a), (1, .int fi), (2, .int s0)]) hx hb d_MenuScreensModel_endLine_217 hl (k := 4) rfl rfl (by decide) rfl (fun ls hl => ?_)
                              refine lv_goto (tgt := 175) hx hb d_MenuScreensModel_endLine_220 (by decide) ?_
                              exact ih_lpF (k + 1) 1 (k4 + 1) ls _ _ (by rw [ek]; exact nI_1 _) (by omega) eb1 (by omega) X (lv_sub hl [2, 3, 4, 1, 0] rfl)
                            · skip
                              refine lv_aload_n hx hb d_MenuScreensModel_endLine_186 rfl (lv_at hl 0 rfl) ?_
                              refine mm_get C X M 27 f_12_57_13 (.ref (ar 27)) rfl d_MenuScreensModel_endLine_187 ?_
                              refine lv_bipush (v := 10) hx hb d_MenuScreensModel_endLine_190 (by decide) ?_
                              refine lv_iload_n hx hb d_MenuScreensModel_endLine_192 rfl (lv_at hl 2 rfl) ?_
                              refine lv_imul hx hb d_MenuScreensModel_endLine_193 ?_
                              refine lv_iload hx hb d_MenuScreensModel_endLine_194 (lv_at hl 4 rfl) ?_
                              refine lv_iadd hx hb d_MenuScreensModel_endLine_196 ?_
                              refine mm_iald C X M 27 310 rfl (A 27) rfl (by decide) (10 * (s1 + 1) + (k + 1)) iq (by omega) d_MenuScreensModel_endLine_197 ?_
                              refine lv_if_le (tgt := 215) hx hb d_MenuScreensModel_endLine_198 (by decide) (fun c18 => ?_) (fun c18 => ?_)
                              · skip
                                refine lv_iconst (v := 0) hx hb d_MenuScreensModel_endLine_215 (by decide) ?_
                                refine lv_istore_n (lv' := [(3, .int 0), (0, .ref a), (1, .int fi), (2, .int s0), (4, .int k4)]) hx hb d_MenuScreensModel_endLine_216 rfl hl (by decide) rfl (fun ls hl => ?_)
                                have eb1 : (0 : Int32) = bI (!HF (s1 + 1) || anyK (fun k => decide (0 < A 27 (10 * (s1 + 1) + k)) && decide (ldS A ns (10 * (s1 + 1) + k) = 0)) (k + 1)) := by
                                  show _ = bI (!HF (s1 + 1) || (anyK (fun k => decide (0 < A 27 (10 * (s1 + 1) + k)) && decide (ldS A ns (10 * (s1 + 1) + k) = 0)) k || (decide (0 < A 27 (10 * (s1 + 1) + (k + 1))) && decide (ldS A ns (10 * (s1 + 1) + (k + 1)) = 0)))); rw [← Bool.or_assoc]; rw [bI_0 (eb.symm.trans c17)]; rw [decide_eq_false (p := 0 < A 27 (10 * (s1 + 1) + (k + 1))) (Int32.not_lt.mpr c18)]; rfl
                                refine lv_iinc (v := (k4 + 1)) (lv' := [(4, .int (k4 + 1)), (3, .int 0), (0, .ref a), (1, .int fi), (2, .int s0)]) hx hb d_MenuScreensModel_endLine_217 hl (k := 4) rfl rfl (by decide) rfl (fun ls hl => ?_)
                                refine lv_goto (tgt := 175) hx hb d_MenuScreensModel_endLine_220 (by decide) ?_
                                exact ih_lpF (k + 1) 0 (k4 + 1) ls _ _ (by rw [ek]; exact nI_1 _) (by omega) eb1 (by omega) X (lv_sub hl [2, 3, 4, 1, 0] rfl)
                              · skip
                                refine lv_aload_n hx hb d_MenuScreensModel_endLine_201 rfl (lv_at hl 0 rfl) ?_
                                refine lv_iload_n hx hb d_MenuScreensModel_endLine_202 rfl (lv_at hl 2 rfl) ?_
                                refine lv_iload hx hb d_MenuScreensModel_endLine_203 (lv_at hl 4 rfl) ?_
                                refine mv_bi X (mv_rV (rest := []) (As := [.int s0, .int k4]) gt_good C X k_12_230 (cm_MenuScreensModel_leads hE M.1 _ _ (s0 := s1 + 1) (k0 := k + 1) (n := ns) es ek (by omega) (by omega) hns hns2 hR (hQ0 (10 * (s1 + 1) + (k + 1)))) M.1.1 rfl rfl ⟨by decide, by decide⟩ rfl hl.1 rfl (Nat.le_of_ble_eq_true rfl) d_MenuScreensModel_endLine_205 ⟨Nat.le_refl _, Nat.le_refl _⟩) (fun r19 hN H locs hp X => ?_)
                                obtain ⟨ehr19, er19⟩ := hp
                                rw [ehr19] at X
                                replace er19 : r19 = nI (ldS A ns (10 * (s1 + 1) + (k + 1))) := er19
                                refine lv_if_ne (tgt := 215) hx hb d_MenuScreensModel_endLine_208 (by decide) (fun c20 => ?_) (fun c20 => ?_)
                                · skip
                                  refine lv_iconst (v := 0) hx hb d_MenuScreensModel_endLine_215 (by decide) ?_
                                  refine lv_istore_n (lv' := [(3, .int 0), (0, .ref a), (1, .int fi), (2, .int s0), (4, .int k4)]) hx hb d_MenuScreensModel_endLine_216 rfl hl (by decide) rfl (fun ls hl => ?_)
                                  have eb1 : (0 : Int32) = bI (!HF (s1 + 1) || anyK (fun k => decide (0 < A 27 (10 * (s1 + 1) + k)) && decide (ldS A ns (10 * (s1 + 1) + k) = 0)) (k + 1)) := by
                                    show _ = bI (!HF (s1 + 1) || (anyK (fun k => decide (0 < A 27 (10 * (s1 + 1) + k)) && decide (ldS A ns (10 * (s1 + 1) + k) = 0)) k || (decide (0 < A 27 (10 * (s1 + 1) + (k + 1))) && decide (ldS A ns (10 * (s1 + 1) + (k + 1)) = 0)))); rw [← Bool.or_assoc]; rw [bI_0 (eb.symm.trans c17)]; rw [decide_eq_true (p := 0 < A 27 (10 * (s1 + 1) + (k + 1))) (Int32.not_le.mp c18)]; rw [decide_eq_false (p := ldS A ns (10 * (s1 + 1) + (k + 1)) = 0) (fun z => c20 (by rw [er19, z]; rfl))]; rfl
                                  refine lv_iinc (v := (k4 + 1)) (lv' := [(4, .int (k4 + 1)), (3, .int 0), (0, .ref a), (1, .int fi), (2, .int s0)]) hx hb d_MenuScreensModel_endLine_217 hl (k := 4) rfl rfl (by decide) rfl (fun ls hl => ?_)
                                  refine lv_goto (tgt := 175) hx hb d_MenuScreensModel_endLine_220 (by decide) ?_
                                  exact ih_lpF (k + 1) 0 (k4 + 1) ls _ _ (by rw [ek]; exact nI_1 _) (by omega) eb1 (by omega) X (lv_sub hl [2, 3, 4, 1, 0] rfl)
                                · skip
                                  refine lv_iconst (v := 1) hx hb d_MenuScreensModel_endLine_211 (by decide) ?_
                                  refine lv_goto (tgt := 216) hx hb d_MenuScreensModel_endLine_212 (by decide) ?_
                                  refine lv_istore_n (lv' := [(3, .int 1), (0, .ref a), (1, .int fi), (2, .int s0), (4, .int k4)]) hx hb d_MenuScreensModel_endLine_216 rfl hl (by decide) rfl (fun ls hl => ?_)
                                  have eb1 : (1 : Int32) = bI (!HF (s1 + 1) || anyK (fun k => decide (0 < A 27 (10 * (s1 + 1) + k)) && decide (ldS A ns (10 * (s1 + 1) + k) = 0)) (k + 1)) := by
                                    show _ = bI (!HF (s1 + 1) || (anyK (fun k => decide (0 < A 27 (10 * (s1 + 1) + k)) && decide (ldS A ns (10 * (s1 + 1) + k) = 0)) k || (decide (0 < A 27 (10 * (s1 + 1) + (k + 1))) && decide (ldS A ns (10 * (s1 + 1) + (k + 1)) = 0)))); rw [← Bool.or_assoc]; rw [bI_0 (eb.symm.trans c17)]; rw [decide_eq_true (p := 0 < A 27 (10 * (s1 + 1) + (k + 1))) (Int32.not_le.mp c18)]; rw [decide_eq_true (p := ldS A ns (10 * (s1 + 1) + (k + 1)) = 0) (nI_eqI (by omega) (by decide) (by rw [← er19]; exact c20))]; rfl
                                  refine lv_iinc (v := (k4 + 1)) (lv' := [(4, .int (k4 + 1)), (3, .int 1), (0, .ref a), (1, .int fi), (2, .int s0)]) hx hb d_MenuScreensModel_endLine_217 hl (k := 4) rfl rfl (by decide) rfl (fun ls hl => ?_)
                                  refine lv_goto (tgt := 175) hx hb d_MenuScreensModel_endLine_220 (by decide) ?_
                                  exact ih_lpF (k + 1) 1 (k4 + 1) ls _ _ (by rw [ek]; exact nI_1 _) (by omega) eb1 (by omega) X (lv_sub hl [2, 3, 4, 1, 0] rfl)
                      exact lpF (9 - 0 + 1) 0 1 1 ls _ _ rfl (by omega) (by rw [hH]; rfl) (Nat.lt_succ_self _) X (lv_sub hl [2, 3, 4, 1, 0] rfl)
              exact lpE (ns - 0 + 1) 0 (A 49) 0 1 (x 48) ls _ _ _ rfl (by omega) hri rfl rfl (Nat.lt_succ_self _) X M (lv_sub hl [2, 1, 0] rfl)
            · skip
              have hlt : t < ns := by
                rcases Nat.lt_or_ge t ns with q | q
                · exact q
                · exact absurd (by rw [hns, et]; exact nI_le q (by omega)) c2
              obtain ⟨HT, hHT⟩ : ∃ z, z = hS (fun s k => ldS A ns (10 * s + k)) ns 1 hm := ⟨_, rfl⟩
              refine lv_iconst (v := 1) hx hb d_MenuScreensModel_endLine_42 (by decide) ?_
              refine lv_istore_n (lv' := [(2, .int 1), (0, .ref a), (1, .int t0)]) hx hb d_MenuScreensModel_endLine_43 rfl hl (by decide) rfl (fun ls hl => ?_)
              have lpC : ∀ (n_lpC : Nat) (s1 : Nat) (g : Nat → Int32) (hm : Nat → Bool) (s0 : Int32) (ls : Array Slot) (h : vH) (H : Heap) (locs : List Loc), (s0 = nI s1) → (1 ≤ s1) → (s1 ≤ ns + 1) → (∀ j, 1 ≤ j → j ≤ ns → g j = bI (hm j)) → (hS (fun s k => ldS A ns (10 * s + k)) (ns + 1 - s1) s1 hm = HT) → (ns + 1 - s1) < n_lpC → vO S0 D vcl h s H locs → MR S0 dT h0 h a ar x y (va_up A 25 g) B → lv_has ls 5 [(0, .ref a), (1, .int t0), (2, .int s0)] → W p l e (vRm 3 100 0 0) s m args below meth c H locs 0 0 Q (F0 m 44 ls []) := by
                intro n_lpC
                induction n_lpC with
                | zero => intros; exact absurd (by assumption) (Nat.not_lt_zero _)
                | succ n_lpC ih_lpC =>
                  intro s1 g hm s0 ls h H locs es hs1 hs2 hg hj hmu_lpC X M hl
                  refine lv_iload_n hx hb d_MenuScreensModel_endLine_44 rfl (lv_at hl 2 rfl) ?_
                  refine lv_aload_n hx hb d_MenuScreensModel_endLine_45 rfl (lv_at hl 0 rfl) ?_
                  refine mm_get C X M 20 f_12_169_13 (.int (x 20)) rfl d_MenuScreensModel_endLine_46 ?_
                  refine lv_icmp_gt (tgt := 115) hx hb d_MenuScreensModel_endLine_49 (by decide) (fun c21 => ?_) (fun c21 => ?_)
                  · skip
                    have hs9 : s1 = ns + 1 := by
                      have := (nI_ltI (a := ns) (b := s1) (by omega) (by omega)).mp (by rw [← es, ← hns]; exact c21)
                      omega
                    rw [hs9, Nat.sub_self, hS] at hj
                    have hi2 : hIt (fun s k => ldS A ns (10 * s + k)) ns (ns - (t + 1)) hm = HF := by rw [hj, hHT, ← hIt_s hlt]; exact hi
                    obtain ⟨hb2, ehb2⟩ : ∃ z, z = hm := ⟨_, rfl⟩
                    rw [← ehb2] at hi2 hg
                    refine lv_iinc (v := (t0 + 1)) (lv' := [(1, .int (t0 + 1)), (0, .ref a), (2, .int s0)]) hx hb d_MenuScreensModel_endLine_115 hl (k := 1) rfl rfl (by decide) rfl (fun ls hl => ?_)
                    refine lv_goto (tgt := 34) hx hb d_MenuScreensModel_endLine_118 (by decide) ?_
                    exact ih_lpB (t + 1) g hb2 (t0 + 1) ls _ _ _ (by rw [et]; exact nI_1 _) (by omega) hg hi2 (by omega) X M (lv_sub hl [1, 0] rfl)
                  · skip
                    have hsn : s1 ≤ ns := by
                      rcases Nat.lt_or_ge ns s1 with q | q
                      · exact absurd (by rw [hns, es]; exact nI_lt q (by omega)) c21
                      · exact q
                    obtain ⟨HS, hHS⟩ : ∃ z, z = hK (fun s k => ldS A ns (10 * s + k)) s1 9 1 hm := ⟨_, rfl⟩
                    refine lv_iconst (v := 1) hx hb d_MenuScreensModel_endLine_52 (by decide) ?_
                    refine lv_istore_n (lv' := [(3, .int 1), (0, .ref a), (1, .int t0), (2, .int s0)]) hx hb d_MenuScreensModel_endLine_53 rfl hl (by decide) rfl (fun ls hl => ?_)
                    have lpD : ∀ (n_lpD : Nat) (k : Nat) (g : Nat → Int32) (hm : Nat → Bool) (k3 : Int32) (ls : Array Slot) (h : vH) (H : Heap) (locs : List Loc), (k3 = nI k) → (1 ≤ k) → (k ≤ 10) → (∀ j, 1 ≤ j → j ≤ ns → g j = bI (hm j)) → (hK (fun s k => ldS A ns (10 * s + k)) s1 (10 - k) k hm = HS) → (10 - k) < n_lpD → vO S0 D vcl h s H locs → MR S0 dT h0 h a ar x y (va_up A 25 g) B → lv_has ls 5 [(0, .ref a), (1, .int t0), (2, .int s0), (3, .int k3)] → W p l e (vRm 3 100 0 0) s m args below meth c H locs 0 0 Q (F0 m 54 ls []) := by
                      intro n_lpD
                      induction n_lpD with
                      | zero => intros; exact absurd (by assumption) (Nat.not_lt_zero _)
                      | succ n_lpD ih_lpD =>
                        intro k g hm k3 ls h H locs ek hk1 hk2 hg hq hmu_lpD X M hl
                        refine lv_iload_n hx hb d_MenuScreensModel_endLine_54 rfl (lv_at hl 3 rfl) ?_
                        refine lv_bipush (v := 10) hx hb d_MenuScreensModel_endLine_55 (by decide) ?_
                        refine lv_icmp_ge (tgt := 109) hx hb d_MenuScreensModel_endLine_57 (by decide) (fun c22 => ?_) (fun c22 => ?_)
                        · skip
                          have hk9 : k = 10 := by
                            have := (nI_leI (a := 10) (b := k) (by decide) (by omega)).mp (by rw [← ek]; exact c22)
                            omega
                          rw [hk9, Nat.sub_self, hK] at hq
                          have hj2 : hS (fun s k => ldS A ns (10 * s + k)) (ns + 1 - (s1 + 1)) (s1 + 1) hm = HT := by rw [hq, hHS, ← hS_s (by omega)]; exact hj
                          obtain ⟨hb2, ehb2⟩ : ∃ z, z = hm := ⟨_, rfl⟩
                          rw [← ehb2] at hj2 hg
                          refine lv_iinc (v := (s0 + 1)) (lv' := [(2, .int (s0 + 1)), (0, .ref a), (1, .int t0), (3, .int k3)]) hx hb d_MenuScreensModel_endLine_109 hl (k := 2) rfl rfl (by decide) rfl (fun ls hl => ?_)
                          refine lv_goto (tgt := 44) hx hb d_MenuScreensModel_endLine_112 (by decide) ?_
                          exact ih_lpC (s1 + 1) g hb2 (s0 + 1) ls _ _ _ (by rw [es]; exact nI_1 _) (by omega) (by omega) hg hj2 (by omega) X M (lv_sub hl [1, 2, 0] rfl)
                        · skip
                          have hlk : k < 10 := by
                            rcases Nat.lt_or_ge k 10 with q | q
                            · exact q
                            · exact absurd (by rw [ek]; exact nI_le (a := 10) q (by omega)) c22
                          have hldn := ldS_le A ns (10 * s1 + k)
                          have j102 : ∀ (v1 : Int32) (ls : Array Slot) (H : Heap) (locs : List Loc), (v1 = bI (hm s1 || (decide (0 < ldS A ns (10 * s1 + k)) && hm (ldS A ns (10 * s1 + k))))) → vO S0 D vcl h s H locs → lv_has ls 5 [(0, .ref a), (1, .int t0), (2, .int s0), (3, .int k3)] → W p l e (vRm 3 100 0 0) s m args below meth c H locs 0 0 Q (F0 m 102 ls [.int v1, .int s0, .ref (ar 25)]) := by
                            intro v1 ls H locs ev1 X hl
                            have hv1 : vp_nar .boolean v1 = v1 := by rw [ev1]; cases (hm s1 || (decide (0 < ldS A ns (10 * s1 + k)) && hm (ldS A ns (10 * s1 + k)))) <;> rfl
                            refine mm_zast C X M 25 31 rfl g rfl (fun _ => rfl) (by decide) hv1 s1 es (by omega) d_MenuScreensModel_endLine_102 (fun h H locs X M => ?_)
                            rw [bx_uu] at M
                            obtain ⟨hb3, ehb3⟩ : ∃ z, z = va_up hm s1 (hm s1 || (decide (0 < ldS A ns (10 * s1 + k)) && hm (ldS A ns (10 * s1 + k)))) := ⟨_, rfl⟩
                            have hq3 : hK (fun s k => ldS A ns (10 * s + k)) s1 (10 - (k + 1)) (k + 1) hb3 = HS := by rw [ehb3, ← hK_s (L := (fun s k => ldS A ns (10 * s + k))) hlk]; exact hq
                            have hg3 : ∀ j, 1 ≤ j → j ≤ ns → (upd g s1 v1) j = bI (hb3 j) := fun j h1 h2 => by
                              by_cases q : j = s1
                              · subst q; rw [pk_us, ehb3, va_up_self]; exact ev1
                              · rw [pk_un q, ehb3, va_up_ne _ _ q]; exact hg j h1 h2
                            refine lv_iinc (v := (k3 + 1)) (lv' := [(3, .int (k3 + 1)), (0, .ref a), (1, .int t0), (2, .int s0)]) hx hb d_MenuScreensModel_endLine_103 hl (k := 3) rfl rfl (by decide) rfl (fun ls hl => ?_)
                            refine lv_goto (tgt := 54) hx hb d_MenuScreensModel_endLine_106 (by decide) ?_
                            exact ih_lpD (k + 1) (upd g s1 v1) hb3 (k3 + 1) ls _ _ _ (by rw [ek]; exact nI_1 _) (by omega) (by omega) hg3 hq3 (by omega) X M (lv_sub hl [1, 2, 3, 0] rfl)
                          refine lv_aload_n hx hb d_MenuScreensModel_endLine_60 rfl (lv_at hl 0 rfl) ?_
                          refine mm_get C X M 25 f_12_51_13 (.ref (ar 25)) rfl d_MenuScreensModel_endLine_61 ?_
                          refine lv_iload_n hx hb d_MenuScreensModel_endLine_64 rfl (lv_at hl 2 rfl) ?_
                          refine lv_aload_n hx hb d_MenuScreensModel_endLine_65 rfl (lv_at hl 0 rfl) ?_
                          refine mm_get C X M 25 f_12_51_13 (.ref (ar 25)) rfl d_MenuScreensModel_endLine_66 ?_
                          refine lv_iload_n hx hb d_MenuScreensModel_endLine_69 rfl (lv_at hl 2 rfl) ?_
                          refine mm_zald C X M 25 31 rfl g rfl (by decide) s1 es (by omega) d_MenuScreensModel_endLine_70 ?_
                          refine lv_if_ne (tgt := 97) hx hb d_MenuScreensModel_endLine_71 (by decide) (fun c23 => ?_) (fun c23 => ?_)
                          · skip
                            refine lv_iconst (v := 1) hx hb d_MenuScreensModel_endLine_97 (by decide) ?_
                            refine lv_goto (tgt := 102) hx hb d_MenuScreensModel_endLine_98 (by decide) ?_
                            exact j102 1 ls _ _ (by rw [bI_n (fun z => c23 ((hg s1 hs1 hsn).trans z))]; rfl) X (lv_sub hl [0, 1, 2, 3] rfl)
                          · skip
                            refine lv_aload_n hx hb d_MenuScreensModel_endLine_74 rfl (lv_at hl 0 rfl) ?_
                            refine lv_iload_n hx hb d_MenuScreensModel_endLine_75 rfl (lv_at hl 2 rfl) ?_
                            refine lv_iload_n hx hb d_MenuScreensModel_endLine_76 rfl (lv_at hl 3 rfl) ?_
                            refine mv_bi X (mv_rV (rest := [.int s0, .ref (ar 25)]) (As := [.int s0, .int k3]) gt_good C X k_12_230 (cm_MenuScreensModel_leads hE M.1 _ _ (s0 := s1) (k0 := k) (n := ns) es ek (by omega) (by omega) hns hns2 hR (hQ0 (10 * s1 + k))) M.1.1 rfl rfl ⟨by decide, by decide⟩ rfl hl.1 rfl (Nat.le_of_ble_eq_true rfl) d_MenuScreensModel_endLine_77 ⟨Nat.le_refl _, Nat.le_refl _⟩) (fun r24 hN H locs hp X => ?_)
                            obtain ⟨ehr24, er24⟩ := hp
                            rw [ehr24] at X
                            replace er24 : r24 = nI (ldS A ns (10 * s1 + k)) := er24
                            refine lv_if_le (tgt := 101) hx hb d_MenuScreensModel_endLine_80 (by decide) (fun c25 => ?_) (fun c25 => ?_)
                            · skip
                              refine lv_iconst (v := 0) hx hb d_MenuScreensModel_endLine_101 (by decide) ?_
                              exact j102 0 ls _ _ (by rw [bI_0 ((hg s1 hs1 hsn).symm.trans c23)]; rw [decide_eq_false (p := 0 < ldS A ns (10 * s1 + k)) (fun z => absurd (by rw [← er24]; exact c25) (nI_nle z (by omega)))]; rfl) X (lv_sub hl [0, 1, 2, 3] rfl)
                            · skip
                              have hl0 : 0 < ldS A ns (10 * s1 + k) := by
                                rcases Nat.eq_zero_or_pos (ldS A ns (10 * s1 + k)) with q | q
                                · exact absurd (by rw [er24, q]; decide) c25
                                · exact q
                              refine lv_aload_n hx hb d_MenuScreensModel_endLine_83 rfl (lv_at hl 0 rfl) ?_
                              refine mm_get C X M 25 f_12_51_13 (.ref (ar 25)) rfl d_MenuScreensModel_endLine_84 ?_
                              refine lv_aload_n hx hb d_MenuScreensModel_endLine_87 rfl (lv_at hl 0 rfl) ?_
                              refine lv_iload_n hx hb d_MenuScreensModel_endLine_88 rfl (lv_at hl 2 rfl) ?_
                              refine lv_iload_n hx hb d_MenuScreensModel_endLine_89 rfl (lv_at hl 3 rfl) ?_
                              refine mv_bi X (mv_rV (rest := [.ref (ar 25), .int s0, .ref (ar 25)]) (As := [.int s0, .int k3]) gt_good C X k_12_230 (cm_MenuScreensModel_leads hE M.1 _ _ (s0 := s1) (k0 := k) (n := ns) es ek (by omega) (by omega) hns hns2 hR (hQ0 (10 * s1 + k))) M.1.1 rfl rfl ⟨by decide, by decide⟩ rfl hl.1 rfl (Nat.le_of_ble_eq_true rfl) d_MenuScreensModel_endLine_90 ⟨Nat.le_refl _, Nat.le_refl _⟩) (fun r26 hN H locs hp X => ?_)
                              obtain ⟨ehr26, er26⟩ := hp
                              rw [ehr26] at X
                              replace er26 : r26 = nI (ldS A ns (10 * s1 + k)) := er26
                              refine mm_zald C X M 25 31 rfl g rfl (by decide) (ldS A ns (10 * s1 + k)) er26 (by omega) d_MenuScreensModel_endLine_93 ?_
                              refine lv_if_eq (tgt := 101) hx hb d_MenuScreensModel_endLine_94 (by decide) (fun c27 => ?_) (fun c27 => ?_)
                              · skip
                                refine lv_iconst (v := 0) hx hb d_MenuScreensModel_endLine_101 (by decide) ?_
                                exact j102 0 ls _ _ (by rw [bI_0 ((hg s1 hs1 hsn).symm.trans c23)]; rw [decide_eq_true (p := 0 < ldS A ns (10 * s1 + k)) hl0]; rw [bI_0 ((hg _ (by omega) hldn).symm.trans c27)]; rfl) X (lv_sub hl [0, 1, 2, 3] rfl)
                              · skip
                                refine lv_iconst (v := 1) hx hb d_MenuScreensModel_endLine_97 (by decide) ?_
                                refine lv_goto (tgt := 102) hx hb d_MenuScreensModel_endLine_98 (by decide) ?_
                                exact j102 1 ls _ _ (by rw [bI_0 ((hg s1 hs1 hsn).symm.trans c23)]; rw [decide_eq_true (p := 0 < ldS A ns (10 * s1 + k)) hl0]; rw [bI_n (fun z => c27 ((hg _ (by omega) hldn).trans z))]; rfl) X (lv_sub hl [0, 1, 2, 3] rfl)
                    exact lpD (10 - 1 + 1) 1 g hm 1 ls _ _ _ rfl (Nat.le_refl _) (by omega) hg hHS.symm (Nat.lt_succ_self _) X M (lv_sub hl [1, 2, 3, 0] rfl)
              exact lpC (ns + 1 - 1 + 1) 1 g hm 1 ls _ _ _ rfl (Nat.le_refl _) (by omega) hg (by rw [Nat.add_sub_cancel]; exact hHT.symm) (Nat.lt_succ_self _) X M (lv_sub hl [1, 2, 0] rfl)
        exact lpB (ns - 0 + 1) 0 g (fun s => decide (s = 1)) 0 ls _ _ _ rfl (by omega) hg hHF.symm (Nat.lt_succ_self _) X M (lv_sub hl [1, 0] rfl)
      · skip
        have hkn : k + 1 ≤ ns := by
          rcases Nat.lt_or_ge ns (k + 1) with q | q
          · exact absurd (by rw [hns, ei]; exact nI_lt q (by omega)) c1
          · exact q
        refine lv_aload_n hx hb d_MenuScreensModel_endLine_10 rfl (lv_at hl 0 rfl) ?_
        refine mm_get C X M 25 f_12_51_13 (.ref (ar 25)) rfl d_MenuScreensModel_endLine_11 ?_
        refine lv_iload_n hx hb d_MenuScreensModel_endLine_14 rfl (lv_at hl 1 rfl) ?_
        refine lv_iload_n hx hb d_MenuScreensModel_endLine_15 rfl (lv_at hl 1 rfl) ?_
        refine lv_iconst (v := 1) hx hb d_MenuScreensModel_endLine_16 (by decide) ?_
        refine lv_icmp_ne (tgt := 24) hx hb d_MenuScreensModel_endLine_17 (by decide) (fun c28 => ?_) (fun c28 => ?_)
        · skip
          refine lv_iconst (v := 0) hx hb d_MenuScreensModel_endLine_24 (by decide) ?_
          refine mm_zast C X M 25 31 rfl g rfl (fun _ => rfl) (by decide) rfl (k + 1) ei (by omega) d_MenuScreensModel_endLine_25 (fun h H locs X M => ?_)
          rw [bx_uu] at M
          have hg1 : ∀ j, 1 ≤ j → j ≤ k + 1 → (upd g (k + 1) 0) j = bI (decide (j = 1)) := fun j h1 h2 => by
            by_cases q : j = k + 1
            · subst q; rw [pk_us]; rw [decide_eq_false (fun z => c28 (by rw [ei, z]; rfl))]; rfl
            · rw [pk_un q]; exact hg j h1 (by omega)
          refine lv_iinc (v := (i + 1)) (lv' := [(1, .int (i + 1)), (0, .ref a)]) hx hb d_MenuScreensModel_endLine_26 hl (k := 1) rfl rfl (by decide) rfl (fun ls hl => ?_)
          refine lv_goto (tgt := 2) hx hb d_MenuScreensModel_endLine_29 (by decide) ?_
          exact ih_lpA (k + 1) (upd g (k + 1) 0) (i + 1) ls _ _ _ (by rw [ei]; exact nI_1 _) (by omega) hg1 (by omega) X M (lv_sub hl [1, 0] rfl)
        · skip
          refine lv_iconst (v := 1) hx hb d_MenuScreensModel_endLine_20 (by decide) ?_
          refine lv_goto (tgt := 25) hx hb d_MenuScreensModel_endLine_21 (by decide) ?_
          refine mm_zast C X M 25 31 rfl g rfl (fun _ => rfl) (by decide) rfl (k + 1) ei (by omega) d_MenuScreensModel_endLine_25 (fun h H locs X M => ?_)
          rw [bx_uu] at M
          have hg1 : ∀ j, 1 ≤ j → j ≤ k + 1 → (upd g (k + 1) 1) j = bI (decide (j = 1)) := fun j h1 h2 => by
            by_cases q : j = k + 1
            · subst q; rw [pk_us]; rw [decide_eq_true (nI_eqI (a := k + 1) (b := 1) (by omega) (by decide) (by rw [← ei]; exact c28))]; rfl
            · rw [pk_un q]; exact hg j h1 (by omega)
          refine lv_iinc (v := (i + 1)) (lv' := [(1, .int (i + 1)), (0, .ref a)]) hx hb d_MenuScreensModel_endLine_26 hl (k := 1) rfl rfl (by decide) rfl (fun ls hl => ?_)
          refine lv_goto (tgt := 2) hx hb d_MenuScreensModel_endLine_29 (by decide) ?_
          exact ih_lpA (k + 1) (upd g (k + 1) 1) (i + 1) ls _ _ _ (by rw [ei]; exact nI_1 _) (by omega) hg1 (by omega) X M (lv_sub hl [1, 0] rfl)
  exact lpA (ns - 0 + 1) 0 (A 25) 1 ls _ _ _ rfl (by omega) (fun j h1 h2 => by omega) (Nat.lt_succ_self _) X M (lv_sub hl [1, 0] rfl)
