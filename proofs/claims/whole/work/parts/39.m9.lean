theorem d_MenuScreensModel_digit_0 : decode prog_13_method_29_code 0 = .ok (.aload_n 0, 1) := by decide +kernel
theorem d_MenuScreensModel_digit_1 : decode prog_13_method_29_code 1 = .ok (.getfield 36, 3) := by decide +kernel
theorem d_MenuScreensModel_digit_4 : decode prog_13_method_29_code 4 = .ok (.iload_n 1, 1) := by decide +kernel
theorem d_MenuScreensModel_digit_5 : decode prog_13_method_29_code 5 = .ok (.baload, 1) := by decide +kernel
theorem d_MenuScreensModel_digit_6 : decode prog_13_method_29_code 6 = .ok (.ifCond .ne 6, 3) := by decide +kernel
theorem d_MenuScreensModel_digit_9 : decode prog_13_method_29_code 9 = .ok (.bipush 45, 2) := by decide +kernel
theorem d_MenuScreensModel_digit_11 : decode prog_13_method_29_code 11 = .ok (.ireturn, 1) := by decide +kernel
theorem d_MenuScreensModel_digit_12 : decode prog_13_method_29_code 12 = .ok (.aload_n 0, 1) := by decide +kernel
theorem d_MenuScreensModel_digit_13 : decode prog_13_method_29_code 13 = .ok (.getfield 33, 3) := by decide +kernel
theorem d_MenuScreensModel_digit_16 : decode prog_13_method_29_code 16 = .ok (.iload_n 1, 1) := by decide +kernel
theorem d_MenuScreensModel_digit_17 : decode prog_13_method_29_code 17 = .ok (.laload, 1) := by decide +kernel
theorem d_MenuScreensModel_digit_18 : decode prog_13_method_29_code 18 = .ok (.lconst 0, 1) := by decide +kernel
theorem d_MenuScreensModel_digit_19 : decode prog_13_method_29_code 19 = .ok (.lcmp, 1) := by decide +kernel
theorem d_MenuScreensModel_digit_20 : decode prog_13_method_29_code 20 = .ok (.ifCond .ge 13, 3) := by decide +kernel
theorem d_MenuScreensModel_digit_23 : decode prog_13_method_29_code 23 = .ok (.aload_n 0, 1) := by decide +kernel
theorem d_MenuScreensModel_digit_24 : decode prog_13_method_29_code 24 = .ok (.getfield 33, 3) := by decide +kernel
theorem d_MenuScreensModel_digit_27 : decode prog_13_method_29_code 27 = .ok (.iload_n 1, 1) := by decide +kernel
theorem d_MenuScreensModel_digit_28 : decode prog_13_method_29_code 28 = .ok (.laload, 1) := by decide +kernel
theorem d_MenuScreensModel_digit_29 : decode prog_13_method_29_code 29 = .ok (.lneg, 1) := by decide +kernel
theorem d_MenuScreensModel_digit_30 : decode prog_13_method_29_code 30 = .ok (.goto 9, 3) := by decide +kernel
theorem d_MenuScreensModel_digit_33 : decode prog_13_method_29_code 33 = .ok (.aload_n 0, 1) := by decide +kernel
theorem d_MenuScreensModel_digit_34 : decode prog_13_method_29_code 34 = .ok (.getfield 33, 3) := by decide +kernel
theorem d_MenuScreensModel_digit_37 : decode prog_13_method_29_code 37 = .ok (.iload_n 1, 1) := by decide +kernel
theorem d_MenuScreensModel_digit_38 : decode prog_13_method_29_code 38 = .ok (.laload, 1) := by decide +kernel
theorem d_MenuScreensModel_digit_39 : decode prog_13_method_29_code 39 = .ok (.lstore 4, 2) := by decide +kernel
theorem d_MenuScreensModel_digit_41 : decode prog_13_method_29_code 41 = .ok (.iconst 1, 1) := by decide +kernel
theorem d_MenuScreensModel_digit_42 : decode prog_13_method_29_code 42 = .ok (.istore 6, 2) := by decide +kernel
theorem d_MenuScreensModel_digit_44 : decode prog_13_method_29_code 44 = .ok (.ldc2_w 156, 3) := by decide +kernel
theorem d_MenuScreensModel_digit_47 : decode prog_13_method_29_code 47 = .ok (.lstore 7, 2) := by decide +kernel
theorem d_MenuScreensModel_digit_49 : decode prog_13_method_29_code 49 = .ok (.lload 7, 2) := by decide +kernel
theorem d_MenuScreensModel_digit_51 : decode prog_13_method_29_code 51 = .ok (.lload 4, 2) := by decide +kernel
theorem d_MenuScreensModel_digit_53 : decode prog_13_method_29_code 53 = .ok (.lcmp, 1) := by decide +kernel
theorem d_MenuScreensModel_digit_54 : decode prog_13_method_29_code 54 = .ok (.ifCond .gt 17, 3) := by decide +kernel
theorem d_MenuScreensModel_digit_57 : decode prog_13_method_29_code 57 = .ok (.lload 7, 2) := by decide +kernel
theorem d_MenuScreensModel_digit_59 : decode prog_13_method_29_code 59 = .ok (.ldc2_w 156, 3) := by decide +kernel
theorem d_MenuScreensModel_digit_62 : decode prog_13_method_29_code 62 = .ok (.lmul, 1) := by decide +kernel
theorem d_MenuScreensModel_digit_63 : decode prog_13_method_29_code 63 = .ok (.lstore 7, 2) := by decide +kernel
theorem d_MenuScreensModel_digit_65 : decode prog_13_method_29_code 65 = .ok (.iinc 6 1, 3) := by decide +kernel
theorem d_MenuScreensModel_digit_68 : decode prog_13_method_29_code 68 = .ok (.goto (-19), 3) := by decide +kernel
theorem d_MenuScreensModel_digit_71 : decode prog_13_method_29_code 71 = .ok (.aload_n 0, 1) := by decide +kernel
theorem d_MenuScreensModel_digit_72 : decode prog_13_method_29_code 72 = .ok (.getfield 33, 3) := by decide +kernel
theorem d_MenuScreensModel_digit_75 : decode prog_13_method_29_code 75 = .ok (.iload_n 1, 1) := by decide +kernel
theorem d_MenuScreensModel_digit_76 : decode prog_13_method_29_code 76 = .ok (.laload, 1) := by decide +kernel
theorem d_MenuScreensModel_digit_77 : decode prog_13_method_29_code 77 = .ok (.lconst 0, 1) := by decide +kernel
theorem d_MenuScreensModel_digit_78 : decode prog_13_method_29_code 78 = .ok (.lcmp, 1) := by decide +kernel
theorem d_MenuScreensModel_digit_79 : decode prog_13_method_29_code 79 = .ok (.ifCond .ge 10, 3) := by decide +kernel
theorem d_MenuScreensModel_digit_82 : decode prog_13_method_29_code 82 = .ok (.iload 6, 2) := by decide +kernel
theorem d_MenuScreensModel_digit_84 : decode prog_13_method_29_code 84 = .ok (.iconst 1, 1) := by decide +kernel
theorem d_MenuScreensModel_digit_85 : decode prog_13_method_29_code 85 = .ok (.iadd, 1) := by decide +kernel
theorem d_MenuScreensModel_digit_86 : decode prog_13_method_29_code 86 = .ok (.goto 5, 3) := by decide +kernel
theorem d_MenuScreensModel_digit_89 : decode prog_13_method_29_code 89 = .ok (.iload 6, 2) := by decide +kernel
theorem d_MenuScreensModel_digit_91 : decode prog_13_method_29_code 91 = .ok (.istore 9, 2) := by decide +kernel
theorem d_MenuScreensModel_digit_93 : decode prog_13_method_29_code 93 = .ok (.iload 9, 2) := by decide +kernel
theorem d_MenuScreensModel_digit_95 : decode prog_13_method_29_code 95 = .ok (.iload_n 2, 1) := by decide +kernel
theorem d_MenuScreensModel_digit_96 : decode prog_13_method_29_code 96 = .ok (.if_icmp .le 6, 3) := by decide +kernel
theorem d_MenuScreensModel_digit_99 : decode prog_13_method_29_code 99 = .ok (.bipush 35, 2) := by decide +kernel
theorem d_MenuScreensModel_digit_101 : decode prog_13_method_29_code 101 = .ok (.ireturn, 1) := by decide +kernel
theorem d_MenuScreensModel_digit_102 : decode prog_13_method_29_code 102 = .ok (.iload_n 2, 1) := by decide +kernel
theorem d_MenuScreensModel_digit_103 : decode prog_13_method_29_code 103 = .ok (.iconst 1, 1) := by decide +kernel
theorem d_MenuScreensModel_digit_104 : decode prog_13_method_29_code 104 = .ok (.isub, 1) := by decide +kernel
theorem d_MenuScreensModel_digit_105 : decode prog_13_method_29_code 105 = .ok (.iload_n 3, 1) := by decide +kernel
theorem d_MenuScreensModel_digit_106 : decode prog_13_method_29_code 106 = .ok (.isub, 1) := by decide +kernel
theorem d_MenuScreensModel_digit_107 : decode prog_13_method_29_code 107 = .ok (.istore 10, 2) := by decide +kernel
theorem d_MenuScreensModel_digit_109 : decode prog_13_method_29_code 109 = .ok (.iload 10, 2) := by decide +kernel
theorem d_MenuScreensModel_digit_111 : decode prog_13_method_29_code 111 = .ok (.iload 6, 2) := by decide +kernel
theorem d_MenuScreensModel_digit_113 : decode prog_13_method_29_code 113 = .ok (.if_icmp .lt 29, 3) := by decide +kernel
theorem d_MenuScreensModel_digit_116 : decode prog_13_method_29_code 116 = .ok (.iload 10, 2) := by decide +kernel
theorem d_MenuScreensModel_digit_118 : decode prog_13_method_29_code 118 = .ok (.iload 6, 2) := by decide +kernel
theorem d_MenuScreensModel_digit_120 : decode prog_13_method_29_code 120 = .ok (.if_icmp .ne 19, 3) := by decide +kernel
theorem d_MenuScreensModel_digit_123 : decode prog_13_method_29_code 123 = .ok (.aload_n 0, 1) := by decide +kernel
theorem d_MenuScreensModel_digit_124 : decode prog_13_method_29_code 124 = .ok (.getfield 33, 3) := by decide +kernel
theorem d_MenuScreensModel_digit_127 : decode prog_13_method_29_code 127 = .ok (.iload_n 1, 1) := by decide +kernel
theorem d_MenuScreensModel_digit_128 : decode prog_13_method_29_code 128 = .ok (.laload, 1) := by decide +kernel
theorem d_MenuScreensModel_digit_129 : decode prog_13_method_29_code 129 = .ok (.lconst 0, 1) := by decide +kernel
theorem d_MenuScreensModel_digit_130 : decode prog_13_method_29_code 130 = .ok (.lcmp, 1) := by decide +kernel
theorem d_MenuScreensModel_digit_131 : decode prog_13_method_29_code 131 = .ok (.ifCond .ge 8, 3) := by decide +kernel
theorem d_MenuScreensModel_digit_134 : decode prog_13_method_29_code 134 = .ok (.bipush 45, 2) := by decide +kernel
theorem d_MenuScreensModel_digit_136 : decode prog_13_method_29_code 136 = .ok (.goto 5, 3) := by decide +kernel
theorem d_MenuScreensModel_digit_139 : decode prog_13_method_29_code 139 = .ok (.bipush 32, 2) := by decide +kernel
theorem d_MenuScreensModel_digit_141 : decode prog_13_method_29_code 141 = .ok (.ireturn, 1) := by decide +kernel
theorem d_MenuScreensModel_digit_142 : decode prog_13_method_29_code 142 = .ok (.iconst 0, 1) := by decide +kernel
theorem d_MenuScreensModel_digit_143 : decode prog_13_method_29_code 143 = .ok (.istore 11, 2) := by decide +kernel
theorem d_MenuScreensModel_digit_145 : decode prog_13_method_29_code 145 = .ok (.iload 11, 2) := by decide +kernel
theorem d_MenuScreensModel_digit_147 : decode prog_13_method_29_code 147 = .ok (.iload 10, 2) := by decide +kernel
theorem d_MenuScreensModel_digit_149 : decode prog_13_method_29_code 149 = .ok (.if_icmp .ge 17, 3) := by decide +kernel
theorem d_MenuScreensModel_digit_152 : decode prog_13_method_29_code 152 = .ok (.lload 4, 2) := by decide +kernel
theorem d_MenuScreensModel_digit_154 : decode prog_13_method_29_code 154 = .ok (.ldc2_w 156, 3) := by decide +kernel
theorem d_MenuScreensModel_digit_157 : decode prog_13_method_29_code 157 = .ok (.ldiv, 1) := by decide +kernel
theorem d_MenuScreensModel_digit_158 : decode prog_13_method_29_code 158 = .ok (.lstore 4, 2) := by decide +kernel
theorem d_MenuScreensModel_digit_160 : decode prog_13_method_29_code 160 = .ok (.iinc 11 1, 3) := by decide +kernel
theorem d_MenuScreensModel_digit_163 : decode prog_13_method_29_code 163 = .ok (.goto (-18), 3) := by decide +kernel
theorem d_MenuScreensModel_digit_166 : decode prog_13_method_29_code 166 = .ok (.bipush 48, 2) := by decide +kernel
theorem d_MenuScreensModel_digit_168 : decode prog_13_method_29_code 168 = .ok (.lload 4, 2) := by decide +kernel
theorem d_MenuScreensModel_digit_170 : decode prog_13_method_29_code 170 = .ok (.ldc2_w 156, 3) := by decide +kernel
theorem d_MenuScreensModel_digit_173 : decode prog_13_method_29_code 173 = .ok (.lrem, 1) := by decide +kernel
theorem d_MenuScreensModel_digit_174 : decode prog_13_method_29_code 174 = .ok (.l2i, 1) := by decide +kernel
theorem d_MenuScreensModel_digit_175 : decode prog_13_method_29_code 175 = .ok (.iadd, 1) := by decide +kernel
theorem d_MenuScreensModel_digit_176 : decode prog_13_method_29_code 176 = .ok (.ireturn, 1) := by decide +kernel
set_option maxRecDepth 100000 in
set_option maxHeartbeats 4000000 in
theorem cm_MenuScreensModel_digit {l : Launch} {S0 : State} {b : Nat} {D : va_G} {dT : Nat → ClassId} (hE : vEnv S0 b D dT) {h0 : vH} {a : Nat} {ar : Nat → Nat} {x : Nat → Int32} {y : Nat → Int64} {A : Nat → Nat → Int32} {B : Nat → Nat → Int64} (M : MV S0 dT h0 a ar x y A B) (p1 : Int32) (p2 : Int32) (p3 : Int32) {v n k : Nat} (h1 : p1 = nI v) (h2 : p2 = nI n) (h3 : p3 = nI k) (hv : v ≤ 40) (hn1 : 1 ≤ n) (hn2 : n ≤ 9) (hk : k < n) (hs : smL (B 18 v)) : vMi l S0 D vcl GT y_MenuScreensModel_digit prog_13_method_29_code 12 (some .int) 0 0 0 0 [.ref a, .int p1, .int p2, .int p3] h0 (fun r h' => h' = h0 ∧ r = dgF (A 19 v) (B 18 v) n k) := by
  unfold vMi
  refine vM_ofQ hE.1 (by decide) (Nat.le_of_ble_eq_true rfl) (fun p e s m args below meth c ls Q hQ C hr hlk hnm X hl => ?_)
  have C : vC p s m _ c _ _ "MenuScreensModel" GT D vcl (vty dT) := C
  have hx := C.1.1
  have hb := C.1.2.1
  replace M := MR.of M
  obtain ⟨H, eH⟩ : ∃ z, z = s.heap := ⟨_, rfl⟩
  obtain ⟨locs, elocs⟩ : ∃ z : List Loc, z = [] := ⟨_, rfl⟩
  rw [← eH, ← elocs] at X
  rw [← eH, ← elocs]
  clear eH elocs
  have hl : lv_has ls 12 [(0, .ref a), (1, .int p1), (2, .int p2), (3, .int p3)] := hl
  refine lv_aload_n hx hb d_MenuScreensModel_digit_0 rfl (lv_at hl 0 rfl) ?_
  refine mm_get C X M 19 f_12_36_13 (.ref (ar 19)) rfl d_MenuScreensModel_digit_1 ?_
  refine lv_iload_n hx hb d_MenuScreensModel_digit_4 rfl (lv_at hl 1 rfl) ?_
  refine mm_zald C X M 19 41 rfl (A 19) rfl (by decide) v h1 (by omega) d_MenuScreensModel_digit_5 ?_
  refine lv_if_ne (tgt := 12) hx hb d_MenuScreensModel_digit_6 (by decide) (fun c1 => ?_) (fun c1 => ?_)
  · skip
    obtain ⟨z0, hm⟩ : ∃ z, z = (B 18 v).toInt.natAbs := ⟨_, rfl⟩
    have hm6 : z0 ≤ 999999 := by rw [hm]; exact abs6 hs
    have j39 : ∀ (u : Int64) (ls : Array Slot), (u = lN z0) → lv_has ls 12 [(0, .ref a), (1, .int p1), (2, .int p2), (3, .int p3)] → W p l e (vRm 0 0 0 0) s m args below meth c H locs 0 0 Q (F0 m 39 ls [.long u]) := by
      intro u ls eu hl
      refine lv_lstore (lv' := [(4, .long u), (0, .ref a), (1, .int p1), (2, .int p2), (3, .int p3)]) hx hb d_MenuScreensModel_digit_39 hl (by decide) rfl (fun ls hl => ?_)
      refine lv_iconst (v := 1) hx hb d_MenuScreensModel_digit_41 (by decide) ?_
      refine lv_istore (lv' := [(6, .int 1), (4, .long u), (0, .ref a), (1, .int p1), (2, .int p2), (3, .int p3)]) hx hb d_MenuScreensModel_digit_42 hl (by decide) rfl (fun ls hl => ?_)
      refine lv_ldc2 (v := 10) hx hb C.1.2.2.2.1 (C.1.2.2.2.2 _ (gt_6 22 (by decide +kernel) rfl)) d_MenuScreensModel_digit_44 ?_
      refine lv_lstore (lv' := [(7, .long 10), (6, .int 1), (4, .long u), (0, .ref a), (1, .int p1), (2, .int p2), (3, .int p3)]) hx hb d_MenuScreensModel_digit_47 hl (by decide) rfl (fun ls hl => ?_)
      have lp : ∀ (n_lp : Nat) (d : Nat) (e6 : Int32) (w7 : Int64) (ls : Array Slot), (e6 = nI d) → (w7 = lN (10 ^ d)) → (1 ≤ d) → (d ≤ 6) → (d = 1 ∨ 10 ^ d ≤ 10 * z0) → (7 - d) < n_lp → lv_has ls 12 [(0, .ref a), (1, .int p1), (2, .int p2), (3, .int p3), (4, .long u), (6, .int e6), (7, .long w7)] → W p l e (vRm 0 0 0 0) s m args below meth c H locs 0 0 Q (F0 m 49 ls []) := by
        intro n_lp
        induction n_lp with
        | zero => intros; exact absurd (by assumption) (Nat.not_lt_zero _)
        | succ n_lp ih_lp =>
          intro d e6 w7 ls e1 e2 hd1 hd2 hd3 hmu_lp hl
          refine lv_lload hx hb d_MenuScreensModel_digit_49 (lv_at hl 6 rfl) ?_
          refine lv_lload hx hb d_MenuScreensModel_digit_51 (lv_at hl 4 rfl) ?_
          refine W.lcmp hx hb d_MenuScreensModel_digit_53 ?_
          refine lv_if_gt (tgt := 71) hx hb d_MenuScreensModel_digit_54 (by decide) (fun c2 => ?_) (fun c2 => ?_)
          · skip
            have hD : isD z0 d := by
              refine ⟨hd1, hd2, ?_, hd3⟩
              have := (lg_cmp_gt _ _).mp c2
              rw [e2, eu] at this
              exact (pk_lLT (by omega) (by have := p10_6 hd2; omega)).mp this
            have hdd := isD_dgc hD
            have hp := p10_6 hd2
            have j91 : ∀ (s9 : Int32) (ls : Array Slot), (s9 = nI (if B 18 v < 0 then d + 1 else d)) → lv_has ls 12 [(0, .ref a), (1, .int p1), (2, .int p2), (3, .int p3), (4, .long u), (6, .int e6)] → W p l e (vRm 0 0 0 0) s m args below meth c H locs 0 0 Q (F0 m 91 ls [.int s9]) := by
              intro s9 ls es hl
              obtain ⟨sg, hsg⟩ : ∃ z, z = (if B 18 v < 0 then d + 1 else d) := ⟨_, rfl⟩
              rw [← hsg] at es
              have hsg2 : sg ≤ 7 := by rw [hsg]; split <;> omega
              refine lv_istore (lv' := [(9, .int s9), (0, .ref a), (1, .int p1), (2, .int p2), (3, .int p3), (4, .long u), (6, .int e6)]) hx hb d_MenuScreensModel_digit_91 hl (by decide) rfl (fun ls hl => ?_)
              refine lv_iload hx hb d_MenuScreensModel_digit_93 (lv_at hl 0 rfl) ?_
              refine lv_iload_n hx hb d_MenuScreensModel_digit_95 rfl (lv_at hl 3 rfl) ?_
              refine lv_icmp_le (tgt := 102) hx hb d_MenuScreensModel_digit_96 (by decide) (fun c3 => ?_) (fun c3 => ?_)
              · skip
                have hns : sg ≤ n := (nI_leI (by omega) (by omega)).mp (by rw [← es, ← h2]; exact c3)
                have efe : p2 - 1 - p3 = nI (n - 1 - k) := by
                  rw [h2, h3, show nI n - 1 = nI (n - 1) from nI_sub (b := 1) (by omega)]; exact nI_sub (by omega)
                refine lv_iload_n hx hb d_MenuScreensModel_digit_102 rfl (lv_at hl 3 rfl) ?_
                refine lv_iconst (v := 1) hx hb d_MenuScreensModel_digit_103 (by decide) ?_
                refine lv_isub hx hb d_MenuScreensModel_digit_104 ?_
                refine lv_iload_n hx hb d_MenuScreensModel_digit_105 rfl (lv_at hl 4 rfl) ?_
                refine lv_isub hx hb d_MenuScreensModel_digit_106 ?_
                refine lv_istore (lv' := [(10, .int ((p2 - 1) - p3)), (9, .int s9), (0, .ref a), (1, .int p1), (2, .int p2), (3, .int p3), (4, .long u), (6, .int e6)]) hx hb d_MenuScreensModel_digit_107 hl (by decide) rfl (fun ls hl => ?_)
                refine lv_iload hx hb d_MenuScreensModel_digit_109 (lv_at hl 0 rfl) ?_
                refine lv_iload hx hb d_MenuScreensModel_digit_111 (lv_at hl 7 rfl) ?_
                refine lv_icmp_lt (tgt := 142) hx hb d_MenuScreensModel_digit_113 (by decide) (fun c4 => ?_) (fun c4 => ?_)
                · skip
                  refine lv_iconst (v := 0) hx hb d_MenuScreensModel_digit_142 (by decide) ?_
                  refine lv_istore (lv' := [(11, .int 0), (10, .int ((p2 - 1) - p3)), (9, .int s9), (0, .ref a), (1, .int p1), (2, .int p2), (3, .int p3), (4, .long u), (6, .int e6)]) hx hb d_MenuScreensModel_digit_143 hl (by decide) rfl (fun ls hl => ?_)
                  have lp2 : ∀ (n_lp2 : Nat) (j : Nat) (u4 : Int64) (i : Int32) (ls : Array Slot), (i = nI j) → (j ≤ n - 1 - k) → (u4 = lN (z0 / 10 ^ j)) → (n - 1 - k - j) < n_lp2 → lv_has ls 12 [(0, .ref a), (4, .long u4), (10, .int ((p2 - 1) - p3)), (11, .int i)] → W p l e (vRm 0 0 0 0) s m args below meth c H locs 0 0 Q (F0 m 145 ls []) := by
                    intro n_lp2
                    induction n_lp2 with
                    | zero => intros; exact absurd (by assumption) (Nat.not_lt_zero _)
                    | succ n_lp2 ih_lp2 =>
                      intro j u4 i ls ei hj eu4 hmu_lp2 hl
                      refine lv_iload hx hb d_MenuScreensModel_digit_145 (lv_at hl 3 rfl) ?_
                      refine lv_iload hx hb d_MenuScreensModel_digit_147 (lv_at hl 2 rfl) ?_
                      refine lv_icmp_ge (tgt := 166) hx hb d_MenuScreensModel_digit_149 (by decide) (fun c5 => ?_) (fun c5 => ?_)
                      · skip
                        refine lv_bipush (v := 48) hx hb d_MenuScreensModel_digit_166 (by decide) ?_
                        refine lv_lload hx hb d_MenuScreensModel_digit_168 (lv_at hl 1 rfl) ?_
                        refine lv_ldc2 (v := 10) hx hb C.1.2.2.2.1 (C.1.2.2.2.2 _ (gt_6 22 (by decide +kernel) rfl)) d_MenuScreensModel_digit_170 ?_
                        refine lv_lrem hx hb d_MenuScreensModel_digit_173 (by decide) ?_
                        refine lv_l2i (v := ((u4 - (u4 / 10) * 10) : Int64).toInt32) hx hb d_MenuScreensModel_digit_174 rfl ?_
                        refine lv_iadd hx hb d_MenuScreensModel_digit_175 ?_
                        exact mq_iret hQ C X hr rfl hlk (⟨rfl, by
                            rw [dgF, if_neg c1, ← hm, ← hdd, ← hsg]
                            rw [if_neg (Nat.not_lt.mpr hns)]
                            rw [if_neg (fun z => absurd (by rw [efe, e1]; exact nI_le z (by omega)) (Int32.not_le.mpr c4))]
                            have hj2 : j = n - 1 - k := by
                              have := (nI_leI (a := n - 1 - k) (b := j) (by omega) (by omega)).mp (by rw [← efe, ← ei]; exact c5)
                              omega
                            have hq : z0 / 10 ^ j ≤ 999999 := by have := Nat.div_le_self z0 (10 ^ j); omega
                            rw [eu4, show lN (z0 / 10 ^ j) - lN (z0 / 10 ^ j) / 10 * 10 = lN (z0 / 10 ^ j % 10) from pk_lRem (by omega) (by decide) (by decide), lN_i, ← hj2]; exact nI_add 48 _⟩) (Nat.le_refl _) (Nat.le_refl _) d_MenuScreensModel_digit_176
                      · skip
                        have hlt : j < n - 1 - k := by
                          rcases Nat.lt_or_ge j (n - 1 - k) with q | q
                          · exact q
                          · exact absurd (by rw [efe, ei]; exact nI_le q (by omega)) c5
                        refine lv_lload hx hb d_MenuScreensModel_digit_152 (lv_at hl 1 rfl) ?_
                        refine lv_ldc2 (v := 10) hx hb C.1.2.2.2.1 (C.1.2.2.2.2 _ (gt_6 22 (by decide +kernel) rfl)) d_MenuScreensModel_digit_154 ?_
                        refine lv_ldiv hx hb d_MenuScreensModel_digit_157 (by decide) ?_
                        refine lv_lstore (lv' := [(4, .long (u4 / 10)), (0, .ref a), (10, .int ((p2 - 1) - p3)), (11, .int i)]) hx hb d_MenuScreensModel_digit_158 hl (by decide) rfl (fun ls hl => ?_)
                        refine lv_iinc (v := (i + 1)) (lv' := [(11, .int (i + 1)), (4, .long (u4 / 10)), (0, .ref a), (10, .int ((p2 - 1) - p3))]) hx hb d_MenuScreensModel_digit_160 hl (k := 3) rfl rfl (by decide) rfl (fun ls hl => ?_)
                        refine lv_goto (tgt := 145) hx hb d_MenuScreensModel_digit_163 (by decide) ?_
                        exact ih_lp2 (j + 1) (u4 / 10) (i + 1) ls  (by rw [ei]; exact nI_1 j) (by omega) (by rw [eu4, Nat.pow_succ, ← Nat.div_div_eq_div_mul]; exact pk_lDiv (by have := Nat.div_le_self z0 (10 ^ j); omega) (by decide) (by decide)) (by omega) (lv_sub hl [2, 1, 3, 0] rfl)
                  exact lp2 (n - 1 - k - 0 + 1) 0 u 0 ls  rfl (by omega) (by rw [Nat.pow_zero, Nat.div_one]; exact eu) (Nat.lt_succ_self _) (lv_sub hl [3, 7, 1, 0] rfl)
                · skip
                  refine lv_iload hx hb d_MenuScreensModel_digit_116 (lv_at hl 0 rfl) ?_
                  refine lv_iload hx hb d_MenuScreensModel_digit_118 (lv_at hl 7 rfl) ?_
                  refine lv_icmp_ne (tgt := 139) hx hb d_MenuScreensModel_digit_120 (by decide) (fun c6 => ?_) (fun c6 => ?_)
                  · skip
                    refine lv_bipush (v := 32) hx hb d_MenuScreensModel_digit_139 (by decide) ?_
                    exact mq_iret hQ C X hr rfl hlk (⟨rfl, by
                        rw [dgF, if_neg c1, ← hm, ← hdd, ← hsg]
                        rw [if_neg (Nat.not_lt.mpr hns)]
                        rw [if_pos ((nI_leI (a := d) (b := n - 1 - k) (by omega) (by omega)).mp (by rw [← efe, ← e1]; exact Int32.not_lt.mp c4))]
                        rw [if_neg (fun z => c6 (by rw [efe, e1, z.1]))]⟩) (Nat.le_refl _) (Nat.le_refl _) d_MenuScreensModel_digit_141
                  · skip
                    refine lv_aload_n hx hb d_MenuScreensModel_digit_123 rfl (lv_at hl 2 rfl) ?_
                    refine mm_get C X M 18 f_12_33_13 (.ref (ar 18)) rfl d_MenuScreensModel_digit_124 ?_
                    refine lv_iload_n hx hb d_MenuScreensModel_digit_127 rfl (lv_at hl 3 rfl) ?_
                    refine mm_lald C X M 18 41 rfl (B 18) rfl (by decide) v h1 (by omega) d_MenuScreensModel_digit_128 ?_
                    refine lv_lconst (v := 0) hx hb d_MenuScreensModel_digit_129 (by decide) ?_
                    refine W.lcmp hx hb d_MenuScreensModel_digit_130 ?_
                    refine lv_if_ge (tgt := 139) hx hb d_MenuScreensModel_digit_131 (by decide) (fun c7 => ?_) (fun c7 => ?_)
                    · skip
                      refine lv_bipush (v := 32) hx hb d_MenuScreensModel_digit_139 (by decide) ?_
                      exact mq_iret hQ C X hr rfl hlk (⟨rfl, by
                          rw [dgF, if_neg c1, ← hm, ← hdd, ← hsg]
                          rw [if_neg (Nat.not_lt.mpr hns)]
                          rw [if_pos ((nI_leI (a := d) (b := n - 1 - k) (by omega) (by omega)).mp (by rw [← efe, ← e1]; exact Int32.not_lt.mp c4))]
                          rw [if_neg (fun z => absurd ((lg_cmp_ge _ _).mp c7) (Int64.not_le.mpr z.2))]⟩) (Nat.le_refl _) (Nat.le_refl _) d_MenuScreensModel_digit_141
                    · skip
                      refine lv_bipush (v := 45) hx hb d_MenuScreensModel_digit_134 (by decide) ?_
                      refine lv_goto (tgt := 141) hx hb d_MenuScreensModel_digit_136 (by decide) ?_
                      exact mq_iret hQ C X hr rfl hlk (⟨rfl, by
                          rw [dgF, if_neg c1, ← hm, ← hdd, ← hsg]
                          rw [if_neg (Nat.not_lt.mpr hns)]
                          rw [if_pos ((nI_leI (a := d) (b := n - 1 - k) (by omega) (by omega)).mp (by rw [← efe, ← e1]; exact Int32.not_lt.mp c4))]
                          rw [if_pos ⟨nI_eqI (by omega) (by omega) (by rw [← efe, ← e1]; exact c6), Int64.not_le.mp (fun z => c7 ((lg_cmp_ge _ _).mpr z))⟩]⟩) (Nat.le_refl _) (Nat.le_refl _) d_MenuScreensModel_digit_141
              · skip
                refine lv_bipush (v := 35) hx hb d_MenuScreensModel_digit_99 (by decide) ?_
                exact mq_iret hQ C X hr rfl hlk (⟨rfl, by
                    rw [dgF, if_neg c1, ← hm, ← hdd, ← hsg]
                    rw [if_pos ((nI_ltI (by omega) (by omega)).mp (by rw [← es, ← h2]; exact Int32.not_le.mp c3))]⟩) (Nat.le_refl _) (Nat.le_refl _) d_MenuScreensModel_digit_101
            refine lv_aload_n hx hb d_MenuScreensModel_digit_71 rfl (lv_at hl 0 rfl) ?_
            refine mm_get C X M 18 f_12_33_13 (.ref (ar 18)) rfl d_MenuScreensModel_digit_72 ?_
            refine lv_iload_n hx hb d_MenuScreensModel_digit_75 rfl (lv_at hl 1 rfl) ?_
            refine mm_lald C X M 18 41 rfl (B 18) rfl (by decide) v h1 (by omega) d_MenuScreensModel_digit_76 ?_
            refine lv_lconst (v := 0) hx hb d_MenuScreensModel_digit_77 (by decide) ?_
            refine W.lcmp hx hb d_MenuScreensModel_digit_78 ?_
            refine lv_if_ge (tgt := 89) hx hb d_MenuScreensModel_digit_79 (by decide) (fun c8 => ?_) (fun c8 => ?_)
            · skip
              refine lv_iload hx hb d_MenuScreensModel_digit_89 (lv_at hl 5 rfl) ?_
              exact j91 e6 ls (by rw [if_neg (Int64.not_lt.mpr ((lg_cmp_ge _ _).mp c8)), e1]) (lv_sub hl [0, 1, 2, 3, 4, 5] rfl)
            · skip
              refine lv_iload hx hb d_MenuScreensModel_digit_82 (lv_at hl 5 rfl) ?_
              refine lv_iconst (v := 1) hx hb d_MenuScreensModel_digit_84 (by decide) ?_
              refine lv_iadd hx hb d_MenuScreensModel_digit_85 ?_
              refine lv_goto (tgt := 91) hx hb d_MenuScreensModel_digit_86 (by decide) ?_
              exact j91 (e6 + 1) ls (by rw [if_pos (Int64.not_le.mp (fun z => c8 ((lg_cmp_ge _ _).mpr z))), e1]; exact nI_1 d) (lv_sub hl [0, 1, 2, 3, 4, 5] rfl)
          · skip
            have hle : 10 ^ d ≤ z0 := by
              have := Int64.not_lt.mp (fun z => c2 ((lg_cmp_gt _ _).mpr z))
              rw [e2, eu] at this
              exact (pk_lLE (by have := p10_6 hd2; omega) (by omega)).mp this
            have hd5 : d ≤ 5 := by
              rcases Nat.lt_or_ge 5 d with q | q
              · have q6 : d = 6 := by omega
                rw [q6] at hle
                omega
              · exact q
            refine lv_lload hx hb d_MenuScreensModel_digit_57 (lv_at hl 6 rfl) ?_
            refine lv_ldc2 (v := 10) hx hb C.1.2.2.2.1 (C.1.2.2.2.2 _ (gt_6 22 (by decide +kernel) rfl)) d_MenuScreensModel_digit_59 ?_
            refine lv_lmul hx hb d_MenuScreensModel_digit_62 ?_
            refine lv_lstore (lv' := [(7, .long (w7 * 10)), (0, .ref a), (1, .int p1), (2, .int p2), (3, .int p3), (4, .long u), (6, .int e6)]) hx hb d_MenuScreensModel_digit_63 hl (by decide) rfl (fun ls hl => ?_)
            refine lv_iinc (v := (e6 + 1)) (lv' := [(6, .int (e6 + 1)), (7, .long (w7 * 10)), (0, .ref a), (1, .int p1), (2, .int p2), (3, .int p3), (4, .long u)]) hx hb d_MenuScreensModel_digit_65 hl (k := 6) rfl rfl (by decide) rfl (fun ls hl => ?_)
            refine lv_goto (tgt := 49) hx hb d_MenuScreensModel_digit_68 (by decide) ?_
            exact ih_lp (d + 1) (e6 + 1) (w7 * 10) ls  (by rw [e1]; exact nI_1 d) (by rw [e2, Nat.pow_succ]; exact lN_mul _ 10) (by omega) (by omega) (Or.inr (by rw [Nat.pow_succ]; omega)) (by omega) (lv_sub hl [2, 3, 4, 5, 6, 0, 1] rfl)
      exact lp (7 - 1 + 1) 1 1 10 ls  rfl rfl (Nat.le_refl _) (by omega) (Or.inl rfl) (Nat.lt_succ_self _) (lv_sub hl [3, 4, 5, 6, 2, 1, 0] rfl)
    refine lv_aload_n hx hb d_MenuScreensModel_digit_12 rfl (lv_at hl 0 rfl) ?_
    refine mm_get C X M 18 f_12_33_13 (.ref (ar 18)) rfl d_MenuScreensModel_digit_13 ?_
    refine lv_iload_n hx hb d_MenuScreensModel_digit_16 rfl (lv_at hl 1 rfl) ?_
    refine mm_lald C X M 18 41 rfl (B 18) rfl (by decide) v h1 (by omega) d_MenuScreensModel_digit_17 ?_
    refine lv_lconst (v := 0) hx hb d_MenuScreensModel_digit_18 (by decide) ?_
    refine W.lcmp hx hb d_MenuScreensModel_digit_19 ?_
    refine lv_if_ge (tgt := 33) hx hb d_MenuScreensModel_digit_20 (by decide) (fun c9 => ?_) (fun c9 => ?_)
    · skip
      refine lv_aload_n hx hb d_MenuScreensModel_digit_33 rfl (lv_at hl 0 rfl) ?_
      refine mm_get C X M 18 f_12_33_13 (.ref (ar 18)) rfl d_MenuScreensModel_digit_34 ?_
      refine lv_iload_n hx hb d_MenuScreensModel_digit_37 rfl (lv_at hl 1 rfl) ?_
      refine mm_lald C X M 18 41 rfl (B 18) rfl (by decide) v h1 (by omega) d_MenuScreensModel_digit_38 ?_
      exact j39 ((B 18) v) ls (by rw [hm]; exact absP (fun z => absurd ((lg_cmp_ge _ _).mp c9) (Int64.not_le.mpr z)) hs) (lv_sub hl [0, 1, 2, 3] rfl)
    · skip
      refine lv_aload_n hx hb d_MenuScreensModel_digit_23 rfl (lv_at hl 0 rfl) ?_
      refine mm_get C X M 18 f_12_33_13 (.ref (ar 18)) rfl d_MenuScreensModel_digit_24 ?_
      refine lv_iload_n hx hb d_MenuScreensModel_digit_27 rfl (lv_at hl 1 rfl) ?_
      refine mm_lald C X M 18 41 rfl (B 18) rfl (by decide) v h1 (by omega) d_MenuScreensModel_digit_28 ?_
      refine lv_lneg hx hb d_MenuScreensModel_digit_29 ?_
      refine lv_goto (tgt := 39) hx hb d_MenuScreensModel_digit_30 (by decide) ?_
      exact j39 (-((B 18) v)) ls (by rw [hm]; exact absN (Int64.not_le.mp (fun z => c9 ((lg_cmp_ge _ _).mpr z))) hs) (lv_sub hl [0, 1, 2, 3] rfl)
  · skip
    refine lv_bipush (v := 45) hx hb d_MenuScreensModel_digit_9 (by decide) ?_
    exact mq_iret hQ C X hr rfl hlk (⟨rfl, by rw [dgF, if_pos c1]⟩) (Nat.le_refl _) (Nat.le_refl _) d_MenuScreensModel_digit_11
