theorem d_MenuScreensModel_partAt_0 : decode prog_13_method_30_code 0 = .ok (.aload_n 0, 1) := by decide +kernel
theorem d_MenuScreensModel_partAt_1 : decode prog_13_method_30_code 1 = .ok (.getfield 60, 3) := by decide +kernel
theorem d_MenuScreensModel_partAt_4 : decode prog_13_method_30_code 4 = .ok (.iload_n 1, 1) := by decide +kernel
theorem d_MenuScreensModel_partAt_5 : decode prog_13_method_30_code 5 = .ok (.iaload, 1) := by decide +kernel
theorem d_MenuScreensModel_partAt_6 : decode prog_13_method_30_code 6 = .ok (.aload_n 0, 1) := by decide +kernel
theorem d_MenuScreensModel_partAt_7 : decode prog_13_method_30_code 7 = .ok (.getfield 245, 3) := by decide +kernel
theorem d_MenuScreensModel_partAt_10 : decode prog_13_method_30_code 10 = .ok (.if_icmp .ne 31, 3) := by decide +kernel
theorem d_MenuScreensModel_partAt_13 : decode prog_13_method_30_code 13 = .ok (.aload_n 0, 1) := by decide +kernel
theorem d_MenuScreensModel_partAt_14 : decode prog_13_method_30_code 14 = .ok (.getfield 66, 3) := by decide +kernel
theorem d_MenuScreensModel_partAt_17 : decode prog_13_method_30_code 17 = .ok (.iload_n 1, 1) := by decide +kernel
theorem d_MenuScreensModel_partAt_18 : decode prog_13_method_30_code 18 = .ok (.iaload, 1) := by decide +kernel
theorem d_MenuScreensModel_partAt_19 : decode prog_13_method_30_code 19 = .ok (.iload_n 2, 1) := by decide +kernel
theorem d_MenuScreensModel_partAt_20 : decode prog_13_method_30_code 20 = .ok (.if_icmp .ne 21, 3) := by decide +kernel
theorem d_MenuScreensModel_partAt_23 : decode prog_13_method_30_code 23 = .ok (.iload_n 3, 1) := by decide +kernel
theorem d_MenuScreensModel_partAt_24 : decode prog_13_method_30_code 24 = .ok (.aload_n 0, 1) := by decide +kernel
theorem d_MenuScreensModel_partAt_25 : decode prog_13_method_30_code 25 = .ok (.getfield 69, 3) := by decide +kernel
theorem d_MenuScreensModel_partAt_28 : decode prog_13_method_30_code 28 = .ok (.iload_n 1, 1) := by decide +kernel
theorem d_MenuScreensModel_partAt_29 : decode prog_13_method_30_code 29 = .ok (.iaload, 1) := by decide +kernel
theorem d_MenuScreensModel_partAt_30 : decode prog_13_method_30_code 30 = .ok (.if_icmp .lt 11, 3) := by decide +kernel
theorem d_MenuScreensModel_partAt_33 : decode prog_13_method_30_code 33 = .ok (.aload_n 0, 1) := by decide +kernel
theorem d_MenuScreensModel_partAt_34 : decode prog_13_method_30_code 34 = .ok (.iload_n 1, 1) := by decide +kernel
theorem d_MenuScreensModel_partAt_35 : decode prog_13_method_30_code 35 = .ok (.invokevirtual 257, 3) := by decide +kernel
theorem d_MenuScreensModel_partAt_38 : decode prog_13_method_30_code 38 = .ok (.ifCond .ne 5, 3) := by decide +kernel
theorem d_MenuScreensModel_partAt_41 : decode prog_13_method_30_code 41 = .ok (.iconst (-1), 1) := by decide +kernel
theorem d_MenuScreensModel_partAt_42 : decode prog_13_method_30_code 42 = .ok (.ireturn, 1) := by decide +kernel
theorem d_MenuScreensModel_partAt_43 : decode prog_13_method_30_code 43 = .ok (.iload_n 3, 1) := by decide +kernel
theorem d_MenuScreensModel_partAt_44 : decode prog_13_method_30_code 44 = .ok (.aload_n 0, 1) := by decide +kernel
theorem d_MenuScreensModel_partAt_45 : decode prog_13_method_30_code 45 = .ok (.getfield 69, 3) := by decide +kernel
theorem d_MenuScreensModel_partAt_48 : decode prog_13_method_30_code 48 = .ok (.iload_n 1, 1) := by decide +kernel
theorem d_MenuScreensModel_partAt_49 : decode prog_13_method_30_code 49 = .ok (.iaload, 1) := by decide +kernel
theorem d_MenuScreensModel_partAt_50 : decode prog_13_method_30_code 50 = .ok (.isub, 1) := by decide +kernel
theorem d_MenuScreensModel_partAt_51 : decode prog_13_method_30_code 51 = .ok (.istore 4, 2) := by decide +kernel
theorem d_MenuScreensModel_partAt_53 : decode prog_13_method_30_code 53 = .ok (.aload_n 0, 1) := by decide +kernel
theorem d_MenuScreensModel_partAt_54 : decode prog_13_method_30_code 54 = .ok (.getfield 63, 3) := by decide +kernel
theorem d_MenuScreensModel_partAt_57 : decode prog_13_method_30_code 57 = .ok (.iload_n 1, 1) := by decide +kernel
theorem d_MenuScreensModel_partAt_58 : decode prog_13_method_30_code 58 = .ok (.iaload, 1) := by decide +kernel
theorem d_MenuScreensModel_partAt_59 : decode prog_13_method_30_code 59 = .ok (.iconst 2, 1) := by decide +kernel
theorem d_MenuScreensModel_partAt_60 : decode prog_13_method_30_code 60 = .ok (.if_icmp .ne 37, 3) := by decide +kernel
theorem d_MenuScreensModel_partAt_63 : decode prog_13_method_30_code 63 = .ok (.iload 4, 2) := by decide +kernel
theorem d_MenuScreensModel_partAt_65 : decode prog_13_method_30_code 65 = .ok (.aload_n 0, 1) := by decide +kernel
theorem d_MenuScreensModel_partAt_66 : decode prog_13_method_30_code 66 = .ok (.getfield 75, 3) := by decide +kernel
theorem d_MenuScreensModel_partAt_69 : decode prog_13_method_30_code 69 = .ok (.iload_n 1, 1) := by decide +kernel
theorem d_MenuScreensModel_partAt_70 : decode prog_13_method_30_code 70 = .ok (.iaload, 1) := by decide +kernel
theorem d_MenuScreensModel_partAt_71 : decode prog_13_method_30_code 71 = .ok (.if_icmp .ge 24, 3) := by decide +kernel
theorem d_MenuScreensModel_partAt_74 : decode prog_13_method_30_code 74 = .ok (.aload_n 0, 1) := by decide +kernel
theorem d_MenuScreensModel_partAt_75 : decode prog_13_method_30_code 75 = .ok (.aload_n 0, 1) := by decide +kernel
theorem d_MenuScreensModel_partAt_76 : decode prog_13_method_30_code 76 = .ok (.getfield 72, 3) := by decide +kernel
theorem d_MenuScreensModel_partAt_79 : decode prog_13_method_30_code 79 = .ok (.iload_n 1, 1) := by decide +kernel
theorem d_MenuScreensModel_partAt_80 : decode prog_13_method_30_code 80 = .ok (.iaload, 1) := by decide +kernel
theorem d_MenuScreensModel_partAt_81 : decode prog_13_method_30_code 81 = .ok (.aload_n 0, 1) := by decide +kernel
theorem d_MenuScreensModel_partAt_82 : decode prog_13_method_30_code 82 = .ok (.getfield 75, 3) := by decide +kernel
theorem d_MenuScreensModel_partAt_85 : decode prog_13_method_30_code 85 = .ok (.iload_n 1, 1) := by decide +kernel
theorem d_MenuScreensModel_partAt_86 : decode prog_13_method_30_code 86 = .ok (.iaload, 1) := by decide +kernel
theorem d_MenuScreensModel_partAt_87 : decode prog_13_method_30_code 87 = .ok (.iload 4, 2) := by decide +kernel
theorem d_MenuScreensModel_partAt_89 : decode prog_13_method_30_code 89 = .ok (.invokevirtual 260, 3) := by decide +kernel
theorem d_MenuScreensModel_partAt_92 : decode prog_13_method_30_code 92 = .ok (.goto 4, 3) := by decide +kernel
theorem d_MenuScreensModel_partAt_95 : decode prog_13_method_30_code 95 = .ok (.iconst (-1), 1) := by decide +kernel
theorem d_MenuScreensModel_partAt_96 : decode prog_13_method_30_code 96 = .ok (.ireturn, 1) := by decide +kernel
theorem d_MenuScreensModel_partAt_97 : decode prog_13_method_30_code 97 = .ok (.aload_n 0, 1) := by decide +kernel
theorem d_MenuScreensModel_partAt_98 : decode prog_13_method_30_code 98 = .ok (.getfield 87, 3) := by decide +kernel
theorem d_MenuScreensModel_partAt_101 : decode prog_13_method_30_code 101 = .ok (.iload_n 1, 1) := by decide +kernel
theorem d_MenuScreensModel_partAt_102 : decode prog_13_method_30_code 102 = .ok (.iaload, 1) := by decide +kernel
theorem d_MenuScreensModel_partAt_103 : decode prog_13_method_30_code 103 = .ok (.aload_n 0, 1) := by decide +kernel
theorem d_MenuScreensModel_partAt_104 : decode prog_13_method_30_code 104 = .ok (.getfield 84, 3) := by decide +kernel
theorem d_MenuScreensModel_partAt_107 : decode prog_13_method_30_code 107 = .ok (.iload_n 1, 1) := by decide +kernel
theorem d_MenuScreensModel_partAt_108 : decode prog_13_method_30_code 108 = .ok (.iaload, 1) := by decide +kernel
theorem d_MenuScreensModel_partAt_109 : decode prog_13_method_30_code 109 = .ok (.isub, 1) := by decide +kernel
theorem d_MenuScreensModel_partAt_110 : decode prog_13_method_30_code 110 = .ok (.iconst 1, 1) := by decide +kernel
theorem d_MenuScreensModel_partAt_111 : decode prog_13_method_30_code 111 = .ok (.if_icmp .ne 23, 3) := by decide +kernel
theorem d_MenuScreensModel_partAt_114 : decode prog_13_method_30_code 114 = .ok (.aload_n 0, 1) := by decide +kernel
theorem d_MenuScreensModel_partAt_115 : decode prog_13_method_30_code 115 = .ok (.getfield 13, 3) := by decide +kernel
theorem d_MenuScreensModel_partAt_118 : decode prog_13_method_30_code 118 = .ok (.aload_n 0, 1) := by decide +kernel
theorem d_MenuScreensModel_partAt_119 : decode prog_13_method_30_code 119 = .ok (.getfield 84, 3) := by decide +kernel
theorem d_MenuScreensModel_partAt_122 : decode prog_13_method_30_code 122 = .ok (.iload_n 1, 1) := by decide +kernel
theorem d_MenuScreensModel_partAt_123 : decode prog_13_method_30_code 123 = .ok (.iaload, 1) := by decide +kernel
theorem d_MenuScreensModel_partAt_124 : decode prog_13_method_30_code 124 = .ok (.iaload, 1) := by decide +kernel
theorem d_MenuScreensModel_partAt_125 : decode prog_13_method_30_code 125 = .ok (.bipush 45, 2) := by decide +kernel
theorem d_MenuScreensModel_partAt_127 : decode prog_13_method_30_code 127 = .ok (.if_icmp .ne 7, 3) := by decide +kernel
theorem d_MenuScreensModel_partAt_130 : decode prog_13_method_30_code 130 = .ok (.iconst 1, 1) := by decide +kernel
theorem d_MenuScreensModel_partAt_131 : decode prog_13_method_30_code 131 = .ok (.goto 4, 3) := by decide +kernel
theorem d_MenuScreensModel_partAt_134 : decode prog_13_method_30_code 134 = .ok (.iconst 0, 1) := by decide +kernel
theorem d_MenuScreensModel_partAt_135 : decode prog_13_method_30_code 135 = .ok (.istore 5, 2) := by decide +kernel
theorem d_MenuScreensModel_partAt_137 : decode prog_13_method_30_code 137 = .ok (.aload_n 0, 1) := by decide +kernel
theorem d_MenuScreensModel_partAt_138 : decode prog_13_method_30_code 138 = .ok (.getfield 63, 3) := by decide +kernel
theorem d_MenuScreensModel_partAt_141 : decode prog_13_method_30_code 141 = .ok (.iload_n 1, 1) := by decide +kernel
theorem d_MenuScreensModel_partAt_142 : decode prog_13_method_30_code 142 = .ok (.iaload, 1) := by decide +kernel
theorem d_MenuScreensModel_partAt_143 : decode prog_13_method_30_code 143 = .ok (.iconst 1, 1) := by decide +kernel
theorem d_MenuScreensModel_partAt_144 : decode prog_13_method_30_code 144 = .ok (.if_icmp .ne 20, 3) := by decide +kernel
theorem d_MenuScreensModel_partAt_147 : decode prog_13_method_30_code 147 = .ok (.aload_n 0, 1) := by decide +kernel
theorem d_MenuScreensModel_partAt_148 : decode prog_13_method_30_code 148 = .ok (.getfield 264, 3) := by decide +kernel
theorem d_MenuScreensModel_partAt_151 : decode prog_13_method_30_code 151 = .ok (.iconst 1, 1) := by decide +kernel
theorem d_MenuScreensModel_partAt_152 : decode prog_13_method_30_code 152 = .ok (.if_icmp .ne 12, 3) := by decide +kernel
theorem d_MenuScreensModel_partAt_155 : decode prog_13_method_30_code 155 = .ok (.iload 5, 2) := by decide +kernel
theorem d_MenuScreensModel_partAt_157 : decode prog_13_method_30_code 157 = .ok (.ifCond .ne 7, 3) := by decide +kernel
theorem d_MenuScreensModel_partAt_160 : decode prog_13_method_30_code 160 = .ok (.iconst 1, 1) := by decide +kernel
theorem d_MenuScreensModel_partAt_161 : decode prog_13_method_30_code 161 = .ok (.goto 4, 3) := by decide +kernel
theorem d_MenuScreensModel_partAt_164 : decode prog_13_method_30_code 164 = .ok (.iconst 0, 1) := by decide +kernel
theorem d_MenuScreensModel_partAt_165 : decode prog_13_method_30_code 165 = .ok (.istore 6, 2) := by decide +kernel
theorem d_MenuScreensModel_partAt_167 : decode prog_13_method_30_code 167 = .ok (.iload 6, 2) := by decide +kernel
theorem d_MenuScreensModel_partAt_169 : decode prog_13_method_30_code 169 = .ok (.ifCond .eq 12, 3) := by decide +kernel
theorem d_MenuScreensModel_partAt_172 : decode prog_13_method_30_code 172 = .ok (.aload_n 0, 1) := by decide +kernel
theorem d_MenuScreensModel_partAt_173 : decode prog_13_method_30_code 173 = .ok (.getfield 84, 3) := by decide +kernel
theorem d_MenuScreensModel_partAt_176 : decode prog_13_method_30_code 176 = .ok (.iload_n 1, 1) := by decide +kernel
theorem d_MenuScreensModel_partAt_177 : decode prog_13_method_30_code 177 = .ok (.iaload, 1) := by decide +kernel
theorem d_MenuScreensModel_partAt_178 : decode prog_13_method_30_code 178 = .ok (.goto 9, 3) := by decide +kernel
theorem d_MenuScreensModel_partAt_181 : decode prog_13_method_30_code 181 = .ok (.aload_n 0, 1) := by decide +kernel
theorem d_MenuScreensModel_partAt_182 : decode prog_13_method_30_code 182 = .ok (.getfield 78, 3) := by decide +kernel
theorem d_MenuScreensModel_partAt_185 : decode prog_13_method_30_code 185 = .ok (.iload_n 1, 1) := by decide +kernel
theorem d_MenuScreensModel_partAt_186 : decode prog_13_method_30_code 186 = .ok (.iaload, 1) := by decide +kernel
theorem d_MenuScreensModel_partAt_187 : decode prog_13_method_30_code 187 = .ok (.istore 7, 2) := by decide +kernel
theorem d_MenuScreensModel_partAt_189 : decode prog_13_method_30_code 189 = .ok (.iload 6, 2) := by decide +kernel
theorem d_MenuScreensModel_partAt_191 : decode prog_13_method_30_code 191 = .ok (.ifCond .eq 12, 3) := by decide +kernel
theorem d_MenuScreensModel_partAt_194 : decode prog_13_method_30_code 194 = .ok (.aload_n 0, 1) := by decide +kernel
theorem d_MenuScreensModel_partAt_195 : decode prog_13_method_30_code 195 = .ok (.getfield 87, 3) := by decide +kernel
theorem d_MenuScreensModel_partAt_198 : decode prog_13_method_30_code 198 = .ok (.iload_n 1, 1) := by decide +kernel
theorem d_MenuScreensModel_partAt_199 : decode prog_13_method_30_code 199 = .ok (.iaload, 1) := by decide +kernel
theorem d_MenuScreensModel_partAt_200 : decode prog_13_method_30_code 200 = .ok (.goto 9, 3) := by decide +kernel
theorem d_MenuScreensModel_partAt_203 : decode prog_13_method_30_code 203 = .ok (.aload_n 0, 1) := by decide +kernel
theorem d_MenuScreensModel_partAt_204 : decode prog_13_method_30_code 204 = .ok (.getfield 81, 3) := by decide +kernel
theorem d_MenuScreensModel_partAt_207 : decode prog_13_method_30_code 207 = .ok (.iload_n 1, 1) := by decide +kernel
theorem d_MenuScreensModel_partAt_208 : decode prog_13_method_30_code 208 = .ok (.iaload, 1) := by decide +kernel
theorem d_MenuScreensModel_partAt_209 : decode prog_13_method_30_code 209 = .ok (.istore 8, 2) := by decide +kernel
theorem d_MenuScreensModel_partAt_211 : decode prog_13_method_30_code 211 = .ok (.iload 4, 2) := by decide +kernel
theorem d_MenuScreensModel_partAt_213 : decode prog_13_method_30_code 213 = .ok (.iload 8, 2) := by decide +kernel
theorem d_MenuScreensModel_partAt_215 : decode prog_13_method_30_code 215 = .ok (.iload 7, 2) := by decide +kernel
theorem d_MenuScreensModel_partAt_217 : decode prog_13_method_30_code 217 = .ok (.isub, 1) := by decide +kernel
theorem d_MenuScreensModel_partAt_218 : decode prog_13_method_30_code 218 = .ok (.if_icmp .ge 16, 3) := by decide +kernel
theorem d_MenuScreensModel_partAt_221 : decode prog_13_method_30_code 221 = .ok (.aload_n 0, 1) := by decide +kernel
theorem d_MenuScreensModel_partAt_222 : decode prog_13_method_30_code 222 = .ok (.getfield 13, 3) := by decide +kernel
theorem d_MenuScreensModel_partAt_225 : decode prog_13_method_30_code 225 = .ok (.iload 7, 2) := by decide +kernel
theorem d_MenuScreensModel_partAt_227 : decode prog_13_method_30_code 227 = .ok (.iload 4, 2) := by decide +kernel
theorem d_MenuScreensModel_partAt_229 : decode prog_13_method_30_code 229 = .ok (.iadd, 1) := by decide +kernel
theorem d_MenuScreensModel_partAt_230 : decode prog_13_method_30_code 230 = .ok (.iaload, 1) := by decide +kernel
theorem d_MenuScreensModel_partAt_231 : decode prog_13_method_30_code 231 = .ok (.goto 4, 3) := by decide +kernel
theorem d_MenuScreensModel_partAt_234 : decode prog_13_method_30_code 234 = .ok (.iconst (-1), 1) := by decide +kernel
theorem d_MenuScreensModel_partAt_235 : decode prog_13_method_30_code 235 = .ok (.ireturn, 1) := by decide +kernel
set_option maxRecDepth 100000 in
set_option maxHeartbeats 4000000 in
theorem cm_MenuScreensModel_partAt {l : Launch} {S0 : State} {b : Nat} {D : va_G} {dT : Nat → ClassId} (hE : vEnv S0 b D dT) {h0 : vH} {a : Nat} {ar : Nat → Nat} {x : Nat → Int32} {y : Nat → Int64} {A : Nat → Nat → Int32} {B : Nat → Nat → Int64} (M : MV S0 dT h0 a ar x y A B) (p1 : Int32) (p2 : Int32) (p3 : Int32) {p0 co nc : Nat} (h1 : p1 = nI p0) (hp0 : p0 < 512) (h3 : p3 = nI co) (hco : co ≤ 100) (hP : ptOK A B p0) (hnc : x 39 = nI nc) (hnc2 : nc ≤ 512) (hV : ∀ c, c < nc → ∃ v, A 42 c = nI v ∧ v ≤ 40) : vMi l S0 D vcl GT y_MenuScreensModel_partAt prog_13_method_30_code 9 (some .int) 1 45 0 0 [.ref a, .int p1, .int p2, .int p3] h0 (fun r h' => h' = h0 ∧ r = ptV A B (x 45) (x 46) nc p0 p2 co) := by
  unfold vMi
  refine vM_ofQ hE.1 (by decide) (Nat.le_of_ble_eq_true rfl) (fun p e s m args below meth c ls Q hQ C hr hlk hnm X hl => ?_)
  have C : vC p s m _ c _ _ "MenuScreensModel" GT D vcl (vty dT) := C
  have hx := C.1.1
  have hb := C.1.2.1
  replace M := MR.of M
  obtain ⟨H, eH⟩ : ∃ z, z = s.heap := ⟨_, rfl⟩
  obtain ⟨locs, elocs⟩ : ∃ z : List Loc, z = [] := ⟨_, rfl⟩
  rw [← eH, ← elocs] at X
  rw [← eH, ← elocs]
  clear eH elocs
  have hl : lv_has ls 9 [(0, .ref a), (1, .int p1), (2, .int p2), (3, .int p3)] := hl
  obtain ⟨⟨c0, ec0, hc0⟩, hk2, hkw⟩ := hP
  have ecl : (A 32 p0).toNatClampNeg = c0 := by rw [ec0]; exact nI_clamp (by omega)
  refine lv_aload_n hx hb d_MenuScreensModel_partAt_0 rfl (lv_at hl 0 rfl) ?_
  refine mm_get C X M 29 f_12_60_13 (.ref (ar 29)) rfl d_MenuScreensModel_partAt_1 ?_
  refine lv_iload_n hx hb d_MenuScreensModel_partAt_4 rfl (lv_at hl 1 rfl) ?_
  refine mm_iald C X M 29 512 rfl (A 29) rfl (by decide) p0 h1 (by omega) d_MenuScreensModel_partAt_5 ?_
  refine lv_aload_n hx hb d_MenuScreensModel_partAt_6 rfl (lv_at hl 0 rfl) ?_
  refine mm_get C X M 45 f_12_245_13 (.int (x 45)) rfl d_MenuScreensModel_partAt_7 ?_
  refine lv_icmp_ne (tgt := 41) hx hb d_MenuScreensModel_partAt_10 (by decide) (fun c1 => ?_) (fun c1 => ?_)
  · skip
    refine lv_iconst (v := (-1)) hx hb d_MenuScreensModel_partAt_41 (by decide) ?_
    exact mq_iret hQ C X hr rfl hlk (⟨rfl, by rw [ptV, if_neg (fun z => c1 z.1.1)]⟩) (Nat.le_refl _) (Nat.le_refl _) d_MenuScreensModel_partAt_42
  · skip
    refine lv_aload_n hx hb d_MenuScreensModel_partAt_13 rfl (lv_at hl 0 rfl) ?_
    refine mm_get C X M 31 f_12_66_13 (.ref (ar 31)) rfl d_MenuScreensModel_partAt_14 ?_
    refine lv_iload_n hx hb d_MenuScreensModel_partAt_17 rfl (lv_at hl 1 rfl) ?_
    refine mm_iald C X M 31 512 rfl (A 31) rfl (by decide) p0 h1 (by omega) d_MenuScreensModel_partAt_18 ?_
    refine lv_iload_n hx hb d_MenuScreensModel_partAt_19 rfl (lv_at hl 2 rfl) ?_
    refine lv_icmp_ne (tgt := 41) hx hb d_MenuScreensModel_partAt_20 (by decide) (fun c2 => ?_) (fun c2 => ?_)
    · skip
      refine lv_iconst (v := (-1)) hx hb d_MenuScreensModel_partAt_41 (by decide) ?_
      exact mq_iret hQ C X hr rfl hlk (⟨rfl, by rw [ptV, if_neg (fun z => c2 z.1.2.1)]⟩) (Nat.le_refl _) (Nat.le_refl _) d_MenuScreensModel_partAt_42
    · skip
      refine lv_iload_n hx hb d_MenuScreensModel_partAt_23 rfl (lv_at hl 3 rfl) ?_
      refine lv_aload_n hx hb d_MenuScreensModel_partAt_24 rfl (lv_at hl 0 rfl) ?_
      refine mm_get C X M 32 f_12_69_13 (.ref (ar 32)) rfl d_MenuScreensModel_partAt_25 ?_
      refine lv_iload_n hx hb d_MenuScreensModel_partAt_28 rfl (lv_at hl 1 rfl) ?_
      refine mm_iald C X M 32 512 rfl (A 32) rfl (by decide) p0 h1 (by omega) d_MenuScreensModel_partAt_29 ?_
      refine lv_icmp_lt (tgt := 41) hx hb d_MenuScreensModel_partAt_30 (by decide) (fun c3 => ?_) (fun c3 => ?_)
      · skip
        refine lv_iconst (v := (-1)) hx hb d_MenuScreensModel_partAt_41 (by decide) ?_
        exact mq_iret hQ C X hr rfl hlk (⟨rfl, by rw [ptV, if_neg (fun z => absurd (by rw [h3, ec0, ← ecl]; exact nI_le z.1.2.2 (by omega)) (Int32.not_le.mpr c3))]⟩) (Nat.le_refl _) (Nat.le_refl _) d_MenuScreensModel_partAt_42
      · skip
        refine lv_aload_n hx hb d_MenuScreensModel_partAt_33 rfl (lv_at hl 0 rfl) ?_
        refine lv_iload_n hx hb d_MenuScreensModel_partAt_34 rfl (lv_at hl 1 rfl) ?_
        have hcc : c0 ≤ co := (nI_leI (by omega) (by omega)).mp (by rw [← ec0, ← h3]; exact Int32.not_lt.mp c3)
        refine mv_bi X (mv_rV (rest := []) (As := [.int p1]) gt_good C X k_12_257 (cm_MenuScreensModel_holds hE M.1 _ (n := nc) hnc hnc2 hV) M.1.1 rfl rfl ⟨by decide, by decide⟩ rfl hl.1 rfl (Nat.le_of_ble_eq_true rfl) d_MenuScreensModel_partAt_35 ⟨Nat.le_refl _, Nat.le_refl _⟩) (fun r4 hN H locs hp X => ?_)
        obtain ⟨ehr4, er4⟩ := hp
        rw [ehr4] at X
        rw [h1] at er4
        refine lv_if_ne (tgt := 43) hx hb d_MenuScreensModel_partAt_38 (by decide) (fun c5 => ?_) (fun c5 => ?_)
        · skip
          have hH := bI_n (fun z => c5 (er4.trans z))
          have e4 : p3 - A 32 p0 = nI (co - c0) := by rw [h3, ec0]; exact nI_sub hcc
          have hC : (A 29 p0 = x 45 ∧ A 31 p0 = p2 ∧ (A 32 p0).toNatClampNeg ≤ co) ∧ allB (fun c => decide (¬ A 41 c = nI p0) || cnB A B c) nc = true := ⟨⟨c1, c2, by rw [ecl]; exact hcc⟩, hH⟩
          refine lv_iload_n hx hb d_MenuScreensModel_partAt_43 rfl (lv_at hl 3 rfl) ?_
          refine lv_aload_n hx hb d_MenuScreensModel_partAt_44 rfl (lv_at hl 0 rfl) ?_
          refine mm_get C X M 32 f_12_69_13 (.ref (ar 32)) rfl d_MenuScreensModel_partAt_45 ?_
          refine lv_iload_n hx hb d_MenuScreensModel_partAt_48 rfl (lv_at hl 1 rfl) ?_
          refine mm_iald C X M 32 512 rfl (A 32) rfl (by decide) p0 h1 (by omega) d_MenuScreensModel_partAt_49 ?_
          refine lv_isub hx hb d_MenuScreensModel_partAt_50 ?_
          refine lv_istore (lv' := [(4, .int (p3 - ((A 32) p0))), (0, .ref a), (1, .int p1), (2, .int p2), (3, .int p3)]) hx hb d_MenuScreensModel_partAt_51 hl (by decide) rfl (fun ls hl => ?_)
          refine lv_aload_n hx hb d_MenuScreensModel_partAt_53 rfl (lv_at hl 1 rfl) ?_
          refine mm_get C X M 30 f_12_63_13 (.ref (ar 30)) rfl d_MenuScreensModel_partAt_54 ?_
          refine lv_iload_n hx hb d_MenuScreensModel_partAt_57 rfl (lv_at hl 2 rfl) ?_
          refine mm_iald C X M 30 512 rfl (A 30) rfl (by decide) p0 h1 (by omega) d_MenuScreensModel_partAt_58 ?_
          refine lv_iconst (v := 2) hx hb d_MenuScreensModel_partAt_59 (by decide) ?_
          refine lv_icmp_ne (tgt := 97) hx hb d_MenuScreensModel_partAt_60 (by decide) (fun c6 => ?_) (fun c6 => ?_)
          · skip
            obtain ⟨q1, q2, q3, q4, eq1, eq2, hq12, hq2, eq3, eq4, hq34, hq4⟩ := hkw c6
            have k1 : (A 35 p0).toNatClampNeg = q1 := by rw [eq1]; exact nI_clamp (by omega)
            have k2 : (A 36 p0).toNatClampNeg = q2 := by rw [eq2]; exact nI_clamp (by omega)
            have k3 : (A 37 p0).toNatClampNeg = q3 := by rw [eq3]; exact nI_clamp (by omega)
            have k4 : (A 38 p0).toNatClampNeg = q4 := by rw [eq4]; exact nI_clamp (by omega)
            obtain ⟨bd, hbd⟩ : ∃ z, z = (decide (q4 - q3 = 1) && decide (A 6 q3 = 45)) := ⟨_, rfl⟩
            obtain ⟨bs, hbs⟩ : ∃ z, z = scB A (x 46) p0 := ⟨_, rfl⟩
            have ed : A 38 p0 - A 37 p0 = nI (q4 - q3) := by rw [eq4, eq3]; exact nI_sub hq34
            have hbs2 : bs = (decide (A 30 p0 = 1) && (decide (x 46 = 1) && !bd)) := by rw [hbs, scB, k3, k4, ← hbd]
            have hPV : ptV A B (x 45) (x 46) nc p0 p2 co = wdV A (x 46) p0 (co - c0) := by rw [ptV, if_pos hC, if_neg c6, ecl]
            have j165 : ∀ (ls : Array Slot) (H : Heap) (locs : List Loc), vO S0 D vcl h0 s H locs → lv_has ls 9 [(0, .ref a), (1, .int p1), (2, .int p2), (3, .int p3), (4, .int (p3 - (A 32 p0)))] → W p l e (vRm 1 45 0 0) s m args below meth c H locs 0 0 Q (F0 m 165 ls [.int (bI bs)]) := by
              intro  ls H locs  X hl
              refine lv_istore (lv' := [(6, .int (bI bs)), (0, .ref a), (1, .int p1), (2, .int p2), (3, .int p3), (4, .int (p3 - (A 32 p0)))]) hx hb d_MenuScreensModel_partAt_165 hl (by decide) rfl (fun ls hl => ?_)
              refine lv_iload hx hb d_MenuScreensModel_partAt_167 (lv_at hl 0 rfl) ?_
              refine lv_if_eq (tgt := 181) hx hb d_MenuScreensModel_partAt_169 (by decide) (fun c7 => ?_) (fun c7 => ?_)
              · skip
                refine lv_aload_n hx hb d_MenuScreensModel_partAt_181 rfl (lv_at hl 1 rfl) ?_
                refine mm_get C X M 35 f_12_78_13 (.ref (ar 35)) rfl d_MenuScreensModel_partAt_182 ?_
                refine lv_iload_n hx hb d_MenuScreensModel_partAt_185 rfl (lv_at hl 2 rfl) ?_
                refine mm_iald C X M 35 512 rfl (A 35) rfl (by decide) p0 h1 (by omega) d_MenuScreensModel_partAt_186 ?_
                refine lv_istore (lv' := [(7, .int ((A 35) p0)), (6, .int (bI bs)), (0, .ref a), (1, .int p1), (2, .int p2), (3, .int p3), (4, .int (p3 - (A 32 p0)))]) hx hb d_MenuScreensModel_partAt_187 hl (by decide) rfl (fun ls hl => ?_)
                refine lv_iload hx hb d_MenuScreensModel_partAt_189 (lv_at hl 1 rfl) ?_
                refine lv_if_eq (tgt := 203) hx hb d_MenuScreensModel_partAt_191 (by decide) (fun c8 => ?_) (fun z => absurd c7 z)
                refine lv_aload_n hx hb d_MenuScreensModel_partAt_203 rfl (lv_at hl 2 rfl) ?_
                refine mm_get C X M 36 f_12_81_13 (.ref (ar 36)) rfl d_MenuScreensModel_partAt_204 ?_
                refine lv_iload_n hx hb d_MenuScreensModel_partAt_207 rfl (lv_at hl 3 rfl) ?_
                refine mm_iald C X M 36 512 rfl (A 36) rfl (by decide) p0 h1 (by omega) d_MenuScreensModel_partAt_208 ?_
                refine lv_istore (lv' := [(8, .int ((A 36) p0)), (7, .int ((A 35) p0)), (6, .int (bI bs)), (0, .ref a), (1, .int p1), (2, .int p2), (3, .int p3), (4, .int (p3 - (A 32 p0)))]) hx hb d_MenuScreensModel_partAt_209 hl (by decide) rfl (fun ls hl => ?_)
                have ebs : bs = false := bI_0 c7
                have eab : ((A 36) p0) - ((A 35) p0) = nI (q2 - q1) := by rw [eq2, eq1]; exact nI_sub (by omega)
                have eai : ((A 35) p0) + (p3 - A 32 p0) = nI (q1 + (co - c0)) := by rw [eq1, e4]; exact nI_add _ _
                refine lv_iload hx hb d_MenuScreensModel_partAt_211 (lv_at hl 7 rfl) ?_
                refine lv_iload hx hb d_MenuScreensModel_partAt_213 (lv_at hl 0 rfl) ?_
                refine lv_iload hx hb d_MenuScreensModel_partAt_215 (lv_at hl 1 rfl) ?_
                refine lv_isub hx hb d_MenuScreensModel_partAt_217 ?_
                refine lv_icmp_ge (tgt := 234) hx hb d_MenuScreensModel_partAt_218 (by decide) (fun c9 => ?_) (fun c9 => ?_)
                · skip
                  refine lv_iconst (v := (-1)) hx hb d_MenuScreensModel_partAt_234 (by decide) ?_
                  exact mq_iret hQ C X hr rfl hlk (⟨rfl, by
                      rw [hPV, wdV, ← hbs, ebs, if_neg (by decide)]
                      rw [k1, k2]
                      rw [if_neg (fun z => absurd (by rw [eab, e4]; exact nI_lt z (by omega)) (Int32.not_lt.mpr c9))]⟩) (Nat.le_refl _) (Nat.le_refl _) d_MenuScreensModel_partAt_235
                · skip
                  have hlt : co - c0 < q2 - q1 := by
                    rcases Nat.lt_or_ge (co - c0) (q2 - q1) with q | q
                    · exact q
                    · exact absurd (by rw [eab, e4]; exact nI_le q (by omega)) c9
                  refine lv_aload_n hx hb d_MenuScreensModel_partAt_221 rfl (lv_at hl 3 rfl) ?_
                  refine mm_get C X M 6 f_12_13_13 (.ref (ar 6)) rfl d_MenuScreensModel_partAt_222 ?_
                  refine lv_iload hx hb d_MenuScreensModel_partAt_225 (lv_at hl 1 rfl) ?_
                  refine lv_iload hx hb d_MenuScreensModel_partAt_227 (lv_at hl 7 rfl) ?_
                  refine lv_iadd hx hb d_MenuScreensModel_partAt_229 ?_
                  refine mm_iald C X M 6 4000 rfl (A 6) rfl (by decide) (q1 + (co - c0)) eai (by omega) d_MenuScreensModel_partAt_230 ?_
                  refine lv_goto (tgt := 235) hx hb d_MenuScreensModel_partAt_231 (by decide) ?_
                  exact mq_iret hQ C X hr rfl hlk (⟨rfl, by
                      rw [hPV, wdV, ← hbs, ebs, if_neg (by decide)]
                      rw [k1, k2]
                      rw [if_pos hlt]⟩) (Nat.le_refl _) (Nat.le_refl _) d_MenuScreensModel_partAt_235
              · skip
                refine lv_aload_n hx hb d_MenuScreensModel_partAt_172 rfl (lv_at hl 1 rfl) ?_
                refine mm_get C X M 37 f_12_84_13 (.ref (ar 37)) rfl d_MenuScreensModel_partAt_173 ?_
                refine lv_iload_n hx hb d_MenuScreensModel_partAt_176 rfl (lv_at hl 2 rfl) ?_
                refine mm_iald C X M 37 512 rfl (A 37) rfl (by decide) p0 h1 (by omega) d_MenuScreensModel_partAt_177 ?_
                refine lv_goto (tgt := 187) hx hb d_MenuScreensModel_partAt_178 (by decide) ?_
                refine lv_istore (lv' := [(7, .int ((A 37) p0)), (6, .int (bI bs)), (0, .ref a), (1, .int p1), (2, .int p2), (3, .int p3), (4, .int (p3 - (A 32 p0)))]) hx hb d_MenuScreensModel_partAt_187 hl (by decide) rfl (fun ls hl => ?_)
                refine lv_iload hx hb d_MenuScreensModel_partAt_189 (lv_at hl 1 rfl) ?_
                refine lv_if_eq (tgt := 203) hx hb d_MenuScreensModel_partAt_191 (by decide) (fun z => absurd z c7) (fun c10 => ?_)
                refine lv_aload_n hx hb d_MenuScreensModel_partAt_194 rfl (lv_at hl 2 rfl) ?_
                refine mm_get C X M 38 f_12_87_13 (.ref (ar 38)) rfl d_MenuScreensModel_partAt_195 ?_
                refine lv_iload_n hx hb d_MenuScreensModel_partAt_198 rfl (lv_at hl 3 rfl) ?_
                refine mm_iald C X M 38 512 rfl (A 38) rfl (by decide) p0 h1 (by omega) d_MenuScreensModel_partAt_199 ?_
                refine lv_goto (tgt := 209) hx hb d_MenuScreensModel_partAt_200 (by decide) ?_
                refine lv_istore (lv' := [(8, .int ((A 38) p0)), (7, .int ((A 37) p0)), (6, .int (bI bs)), (0, .ref a), (1, .int p1), (2, .int p2), (3, .int p3), (4, .int (p3 - (A 32 p0)))]) hx hb d_MenuScreensModel_partAt_209 hl (by decide) rfl (fun ls hl => ?_)
                have ebs : bs = true := bI_n c7
                have eab : ((A 38) p0) - ((A 37) p0) = nI (q4 - q3) := by rw [eq4, eq3]; exact nI_sub (by omega)
                have eai : ((A 37) p0) + (p3 - A 32 p0) = nI (q3 + (co - c0)) := by rw [eq3, e4]; exact nI_add _ _
                refine lv_iload hx hb d_MenuScreensModel_partAt_211 (lv_at hl 7 rfl) ?_
                refine lv_iload hx hb d_MenuScreensModel_partAt_213 (lv_at hl 0 rfl) ?_
                refine lv_iload hx hb d_MenuScreensModel_partAt_215 (lv_at hl 1 rfl) ?_
                refine lv_isub hx hb d_MenuScreensModel_partAt_217 ?_
                refine lv_icmp_ge (tgt := 234) hx hb d_MenuScreensModel_partAt_218 (by decide) (fun c11 => ?_) (fun c11 => ?_)
                · skip
                  refine lv_iconst (v := (-1)) hx hb d_MenuScreensModel_partAt_234 (by decide) ?_
                  exact mq_iret hQ C X hr rfl hlk (⟨rfl, by
                      rw [hPV, wdV, ← hbs, ebs, if_pos rfl]
                      rw [k3, k4]
                      rw [if_neg (fun z => absurd (by rw [eab, e4]; exact nI_lt z (by omega)) (Int32.not_lt.mpr c11))]⟩) (Nat.le_refl _) (Nat.le_refl _) d_MenuScreensModel_partAt_235
                · skip
                  have hlt : co - c0 < q4 - q3 := by
                    rcases Nat.lt_or_ge (co - c0) (q4 - q3) with q | q
                    · exact q
                    · exact absurd (by rw [eab, e4]; exact nI_le q (by omega)) c11
                  refine lv_aload_n hx hb d_MenuScreensModel_partAt_221 rfl (lv_at hl 3 rfl) ?_
                  refine mm_get C X M 6 f_12_13_13 (.ref (ar 6)) rfl d_MenuScreensModel_partAt_222 ?_
                  refine lv_iload hx hb d_MenuScreensModel_partAt_225 (lv_at hl 1 rfl) ?_
                  refine lv_iload hx hb d_MenuScreensModel_partAt_227 (lv_at hl 7 rfl) ?_
                  refine lv_iadd hx hb d_MenuScreensModel_partAt_229 ?_
                  refine mm_iald C X M 6 4000 rfl (A 6) rfl (by decide) (q3 + (co - c0)) eai (by omega) d_MenuScreensModel_partAt_230 ?_
                  refine lv_goto (tgt := 235) hx hb d_MenuScreensModel_partAt_231 (by decide) ?_
                  exact mq_iret hQ C X hr rfl hlk (⟨rfl, by
                      rw [hPV, wdV, ← hbs, ebs, if_pos rfl]
                      rw [k3, k4]
                      rw [if_pos hlt]⟩) (Nat.le_refl _) (Nat.le_refl _) d_MenuScreensModel_partAt_235
            have j135 : ∀ (ls : Array Slot) (H : Heap) (locs : List Loc), vO S0 D vcl h0 s H locs → lv_has ls 9 [(0, .ref a), (1, .int p1), (2, .int p2), (3, .int p3), (4, .int (p3 - (A 32 p0)))] → W p l e (vRm 1 45 0 0) s m args below meth c H locs 0 0 Q (F0 m 135 ls [.int (bI bd)]) := by
              intro  ls H locs  X hl
              refine lv_istore (lv' := [(5, .int (bI bd)), (0, .ref a), (1, .int p1), (2, .int p2), (3, .int p3), (4, .int (p3 - (A 32 p0)))]) hx hb d_MenuScreensModel_partAt_135 hl (by decide) rfl (fun ls hl => ?_)
              refine lv_aload_n hx hb d_MenuScreensModel_partAt_137 rfl (lv_at hl 1 rfl) ?_
              refine mm_get C X M 30 f_12_63_13 (.ref (ar 30)) rfl d_MenuScreensModel_partAt_138 ?_
              refine lv_iload_n hx hb d_MenuScreensModel_partAt_141 rfl (lv_at hl 2 rfl) ?_
              refine mm_iald C X M 30 512 rfl (A 30) rfl (by decide) p0 h1 (by omega) d_MenuScreensModel_partAt_142 ?_
              refine lv_iconst (v := 1) hx hb d_MenuScreensModel_partAt_143 (by decide) ?_
              refine lv_icmp_ne (tgt := 164) hx hb d_MenuScreensModel_partAt_144 (by decide) (fun c12 => ?_) (fun c12 => ?_)
              · skip
                refine lv_iconst (v := 0) hx hb d_MenuScreensModel_partAt_164 (by decide) ?_
                rw [show (0 : Int32) = bI bs by rw [hbs2, decide_eq_false c12]; rfl]
                exact j165 ls _ _ X (lv_sub hl [1, 2, 3, 4, 5] rfl)
              · skip
                refine lv_aload_n hx hb d_MenuScreensModel_partAt_147 rfl (lv_at hl 1 rfl) ?_
                refine mm_get C X M 46 f_12_264_13 (.int (x 46)) rfl d_MenuScreensModel_partAt_148 ?_
                refine lv_iconst (v := 1) hx hb d_MenuScreensModel_partAt_151 (by decide) ?_
                refine lv_icmp_ne (tgt := 164) hx hb d_MenuScreensModel_partAt_152 (by decide) (fun c13 => ?_) (fun c13 => ?_)
                · skip
                  refine lv_iconst (v := 0) hx hb d_MenuScreensModel_partAt_164 (by decide) ?_
                  rw [show (0 : Int32) = bI bs by rw [hbs2, decide_eq_true c12, decide_eq_false c13]; rfl]
                  exact j165 ls _ _ X (lv_sub hl [1, 2, 3, 4, 5] rfl)
                · skip
                  refine lv_iload hx hb d_MenuScreensModel_partAt_155 (lv_at hl 0 rfl) ?_
                  refine lv_if_ne (tgt := 164) hx hb d_MenuScreensModel_partAt_157 (by decide) (fun c14 => ?_) (fun c14 => ?_)
                  · skip
                    refine lv_iconst (v := 0) hx hb d_MenuScreensModel_partAt_164 (by decide) ?_
                    rw [show (0 : Int32) = bI bs by rw [hbs2, decide_eq_true c12, decide_eq_true c13, bI_n c14]; rfl]
                    exact j165 ls _ _ X (lv_sub hl [1, 2, 3, 4, 5] rfl)
                  · skip
                    refine lv_iconst (v := 1) hx hb d_MenuScreensModel_partAt_160 (by decide) ?_
                    refine lv_goto (tgt := 165) hx hb d_MenuScreensModel_partAt_161 (by decide) ?_
                    rw [show (1 : Int32) = bI bs by rw [hbs2, decide_eq_true c12, decide_eq_true c13, bI_0 c14]; rfl]
                    exact j165 ls _ _ X (lv_sub hl [1, 2, 3, 4, 5] rfl)
            refine lv_aload_n hx hb d_MenuScreensModel_partAt_97 rfl (lv_at hl 1 rfl) ?_
            refine mm_get C X M 38 f_12_87_13 (.ref (ar 38)) rfl d_MenuScreensModel_partAt_98 ?_
            refine lv_iload_n hx hb d_MenuScreensModel_partAt_101 rfl (lv_at hl 2 rfl) ?_
            refine mm_iald C X M 38 512 rfl (A 38) rfl (by decide) p0 h1 (by omega) d_MenuScreensModel_partAt_102 ?_
            refine lv_aload_n hx hb d_MenuScreensModel_partAt_103 rfl (lv_at hl 1 rfl) ?_
            refine mm_get C X M 37 f_12_84_13 (.ref (ar 37)) rfl d_MenuScreensModel_partAt_104 ?_
            refine lv_iload_n hx hb d_MenuScreensModel_partAt_107 rfl (lv_at hl 2 rfl) ?_
            refine mm_iald C X M 37 512 rfl (A 37) rfl (by decide) p0 h1 (by omega) d_MenuScreensModel_partAt_108 ?_
            refine lv_isub hx hb d_MenuScreensModel_partAt_109 ?_
            refine lv_iconst (v := 1) hx hb d_MenuScreensModel_partAt_110 (by decide) ?_
            refine lv_icmp_ne (tgt := 134) hx hb d_MenuScreensModel_partAt_111 (by decide) (fun c15 => ?_) (fun c15 => ?_)
            · skip
              refine lv_iconst (v := 0) hx hb d_MenuScreensModel_partAt_134 (by decide) ?_
              rw [show (0 : Int32) = bI bd by rw [hbd, decide_eq_false (fun z => c15 (by rw [ed, z]; rfl))]; rfl]
              exact j135 ls _ _ X (lv_sub hl [1, 2, 3, 4, 0] rfl)
            · skip
              refine lv_aload_n hx hb d_MenuScreensModel_partAt_114 rfl (lv_at hl 1 rfl) ?_
              refine mm_get C X M 6 f_12_13_13 (.ref (ar 6)) rfl d_MenuScreensModel_partAt_115 ?_
              refine lv_aload_n hx hb d_MenuScreensModel_partAt_118 rfl (lv_at hl 1 rfl) ?_
              refine mm_get C X M 37 f_12_84_13 (.ref (ar 37)) rfl d_MenuScreensModel_partAt_119 ?_
              refine lv_iload_n hx hb d_MenuScreensModel_partAt_122 rfl (lv_at hl 2 rfl) ?_
              refine mm_iald C X M 37 512 rfl (A 37) rfl (by decide) p0 h1 (by omega) d_MenuScreensModel_partAt_123 ?_
              refine mm_iald C X M 6 4000 rfl (A 6) rfl (by decide) q3 eq3 (by have := nI_eqI (a := q4 - q3) (b := 1) (by omega) (by decide) (by rw [← ed]; assumption); omega) d_MenuScreensModel_partAt_124 ?_
              refine lv_bipush (v := 45) hx hb d_MenuScreensModel_partAt_125 (by decide) ?_
              refine lv_icmp_ne (tgt := 134) hx hb d_MenuScreensModel_partAt_127 (by decide) (fun c16 => ?_) (fun c16 => ?_)
              · skip
                refine lv_iconst (v := 0) hx hb d_MenuScreensModel_partAt_134 (by decide) ?_
                have h41 : q4 - q3 = 1 := nI_eqI (by omega) (by decide) (by rw [← ed]; exact c15)
                rw [show (0 : Int32) = bI bd by rw [hbd, decide_eq_true h41, decide_eq_false c16]; rfl]
                exact j135 ls _ _ X (lv_sub hl [1, 2, 3, 4, 0] rfl)
              · skip
                refine lv_iconst (v := 1) hx hb d_MenuScreensModel_partAt_130 (by decide) ?_
                refine lv_goto (tgt := 135) hx hb d_MenuScreensModel_partAt_131 (by decide) ?_
                have h41 : q4 - q3 = 1 := nI_eqI (by omega) (by decide) (by rw [← ed]; exact c15)
                rw [show (1 : Int32) = bI bd by rw [hbd, decide_eq_true h41, decide_eq_true c16]; rfl]
                exact j135 ls _ _ X (lv_sub hl [1, 2, 3, 4, 0] rfl)
          · skip
            obtain ⟨w9, v9, ew9, hw91, hw92, ev9, hv9, hsm⟩ := hk2 c6
            refine lv_iload hx hb d_MenuScreensModel_partAt_63 (lv_at hl 0 rfl) ?_
            refine lv_aload_n hx hb d_MenuScreensModel_partAt_65 rfl (lv_at hl 1 rfl) ?_
            refine mm_get C X M 34 f_12_75_13 (.ref (ar 34)) rfl d_MenuScreensModel_partAt_66 ?_
            refine lv_iload_n hx hb d_MenuScreensModel_partAt_69 rfl (lv_at hl 2 rfl) ?_
            refine mm_iald C X M 34 512 rfl (A 34) rfl (by decide) p0 h1 (by omega) d_MenuScreensModel_partAt_70 ?_
            refine lv_icmp_ge (tgt := 95) hx hb d_MenuScreensModel_partAt_71 (by decide) (fun c17 => ?_) (fun c17 => ?_)
            · skip
              refine lv_iconst (v := (-1)) hx hb d_MenuScreensModel_partAt_95 (by decide) ?_
              exact mq_iret hQ C X hr rfl hlk (⟨rfl, by
                  rw [ptV, if_pos hC, if_pos c6, ecl, ew9, ev9, nI_clamp (n := w9) (by omega), nI_clamp (n := v9) (by omega)]
                  rw [if_neg (fun z => absurd (by rw [ew9, e4]; exact nI_lt z (by omega)) (Int32.not_lt.mpr c17))]⟩) (Nat.le_refl _) (Nat.le_refl _) d_MenuScreensModel_partAt_96
            · skip
              refine lv_aload_n hx hb d_MenuScreensModel_partAt_74 rfl (lv_at hl 1 rfl) ?_
              refine lv_aload_n hx hb d_MenuScreensModel_partAt_75 rfl (lv_at hl 1 rfl) ?_
              refine mm_get C X M 33 f_12_72_13 (.ref (ar 33)) rfl d_MenuScreensModel_partAt_76 ?_
              refine lv_iload_n hx hb d_MenuScreensModel_partAt_79 rfl (lv_at hl 2 rfl) ?_
              refine mm_iald C X M 33 512 rfl (A 33) rfl (by decide) p0 h1 (by omega) d_MenuScreensModel_partAt_80 ?_
              refine lv_aload_n hx hb d_MenuScreensModel_partAt_81 rfl (lv_at hl 1 rfl) ?_
              refine mm_get C X M 34 f_12_75_13 (.ref (ar 34)) rfl d_MenuScreensModel_partAt_82 ?_
              refine lv_iload_n hx hb d_MenuScreensModel_partAt_85 rfl (lv_at hl 2 rfl) ?_
              refine mm_iald C X M 34 512 rfl (A 34) rfl (by decide) p0 h1 (by omega) d_MenuScreensModel_partAt_86 ?_
              refine lv_iload hx hb d_MenuScreensModel_partAt_87 (lv_at hl 0 rfl) ?_
              have hlt : co - c0 < w9 := by
                rcases Nat.lt_or_ge (co - c0) w9 with q | q
                · exact q
                · exact absurd (by rw [ew9, e4]; exact nI_le q (by omega)) c17
              refine mv_bi X (mv_rV (rest := []) (As := [.int ((A 33) p0), .int ((A 34) p0), .int (p3 - ((A 32) p0))]) gt_good C X k_12_260 (cm_MenuScreensModel_digit hE M.1 _ _ _ (v := v9) (n := w9) (k := co - c0) ev9 ew9 e4 hv9 hw91 hw92 hlt hsm) M.1.1 rfl rfl ⟨by decide, by decide⟩ rfl hl.1 rfl (Nat.le_of_ble_eq_true rfl) d_MenuScreensModel_partAt_89 ⟨Nat.le_refl _, Nat.le_refl _⟩) (fun r18 hN H locs hp X => ?_)
              obtain ⟨ehr18, er18⟩ := hp
              rw [ehr18] at X
              refine lv_goto (tgt := 96) hx hb d_MenuScreensModel_partAt_92 (by decide) ?_
              exact mq_iret hQ C X hr rfl hlk (⟨rfl, by
                  rw [ptV, if_pos hC, if_pos c6, ecl, ew9, ev9, nI_clamp (n := w9) (by omega), nI_clamp (n := v9) (by omega)]
                  rw [if_pos hlt]; exact er18⟩) (Nat.le_refl _) (Nat.le_refl _) d_MenuScreensModel_partAt_96
        · skip
          refine lv_iconst (v := (-1)) hx hb d_MenuScreensModel_partAt_41 (by decide) ?_
          exact mq_iret hQ C X hr rfl hlk (⟨rfl, by rw [ptV, if_neg (fun z => absurd (er4.trans (congrArg bI z.2)) (by rw [c5]; decide))]⟩) (Nat.le_refl _) (Nat.le_refl _) d_MenuScreensModel_partAt_42
