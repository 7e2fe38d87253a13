theorem d_MenuScreensModel_name_0 : decode prog_13_method_7_code 0 = .ok (.aload_n 0, 1) := by decide +kernel
theorem d_MenuScreensModel_name_1 : decode prog_13_method_7_code 1 = .ok (.invokevirtual 145, 3) := by decide +kernel
theorem d_MenuScreensModel_name_4 : decode prog_13_method_7_code 4 = .ok (.ifCond .eq 14, 3) := by decide +kernel
theorem d_MenuScreensModel_name_7 : decode prog_13_method_7_code 7 = .ok (.aload_n 0, 1) := by decide +kernel
theorem d_MenuScreensModel_name_8 : decode prog_13_method_7_code 8 = .ok (.invokevirtual 149, 3) := by decide +kernel
theorem d_MenuScreensModel_name_11 : decode prog_13_method_7_code 11 = .ok (.ifCond .eq 7, 3) := by decide +kernel
theorem d_MenuScreensModel_name_14 : decode prog_13_method_7_code 14 = .ok (.iconst 1, 1) := by decide +kernel
theorem d_MenuScreensModel_name_15 : decode prog_13_method_7_code 15 = .ok (.goto 4, 3) := by decide +kernel
theorem d_MenuScreensModel_name_18 : decode prog_13_method_7_code 18 = .ok (.iconst 0, 1) := by decide +kernel
theorem d_MenuScreensModel_name_19 : decode prog_13_method_7_code 19 = .ok (.ireturn, 1) := by decide +kernel
set_option maxRecDepth 100000 in
set_option maxHeartbeats 4000000 in
theorem cm_MenuScreensModel_name {l : Launch} {S0 : State} {b : Nat} {D : va_G} {dT : Nat → ClassId} (hE : vEnv S0 b D dT) {h0 : vH} {a : Nat} {ar : Nat → Nat} {x : Nat → Int32} {y : Nat → Int64} {A : Nat → Nat → Int32} {B : Nat → Nat → Int64} (M : MV S0 dT h0 a ar x y A B) {i0 e0 : Nat} (hat : x 7 = nI i0) (hend : x 8 = nI e0) (hle : i0 ≤ e0) (he : e0 ≤ 4000) : vMi l S0 D vcl GT y_MenuScreensModel_name prog_13_method_7_code 1 (some .boolean) 2 60 0 0 [.ref a] h0 (fun r h' => ∃ x', MR S0 dT h0 h' a ar x' y A B ∧ x' = upd (upd (upd x 7 (nI (nT (A 6) e0 i0))) 9 (nI (nF (A 6) e0 i0))) 10 (nI (nT (A 6) e0 i0)) ∧ r = bI (decide ((nF (A 6) e0 i0) < (nT (A 6) e0 i0)) && isNm (A 6) (nF (A 6) e0 i0) (nT (A 6) e0 i0))) := by
  unfold vMi
  refine vM_ofQ hE.1 (by decide) (Nat.le_of_ble_eq_true rfl) (fun p e s m args below meth c ls Q hQ C hr hlk hnm X hl => ?_)
  have C : vC p s m _ c _ _ "MenuScreensModel" GT D vcl (vty dT) := C
  have hx := C.1.1
  have hb := C.1.2.1
  replace M := MR.of M
  obtain ⟨H, eH⟩ : ∃ z, z = s.heap := ⟨_, rfl⟩
  obtain ⟨locs, elocs⟩ : ∃ z : List Loc, z = [] := ⟨_, rfl⟩
  rw [← eH, ← elocs] at X
  rw [← eH, ← elocs]
  clear eH elocs
  have hl : lv_has ls 1 [(0, .ref a)] := hl
  refine lv_aload_n hx hb d_MenuScreensModel_name_0 rfl (lv_at hl 0 rfl) ?_
  refine mv_bi X (mv_rV (rest := []) (As := []) gt_good C X k_12_145 (cm_MenuScreensModel_next hE M.1 (i0 := i0) (e0 := e0) (F := nF (A 6) e0 i0) (T := nT (A 6) e0 i0) hat hend hle he rfl rfl) M.1.1 rfl rfl ⟨by decide, by decide⟩ rfl hl.1 rfl (Nat.le_of_ble_eq_true rfl) d_MenuScreensModel_name_1 ⟨Nat.le_refl _, Nat.le_refl _⟩) (fun r1 hN H locs hp X => ?_)
  obtain ⟨x1, M1, rfl, er1⟩ := hp
  replace M := M.trans M1
  refine lv_if_eq (tgt := 18) hx hb d_MenuScreensModel_name_4 (by decide) (fun c2 => ?_) (fun c2 => ?_)
  · skip
    refine lv_iconst (v := 0) hx hb d_MenuScreensModel_name_18 (by decide) ?_
    exact mq_iret hQ C X hr rfl hlk (⟨_, M, rfl, by
        have q : ¬ (nF (A 6) e0 i0) < (nT (A 6) e0 i0) := fun q => absurd ((er1.trans (if_pos q)).symm.trans c2) (by decide)
        rw [decide_eq_false q]; rfl⟩) (Nat.le_refl _) (Nat.le_refl _) d_MenuScreensModel_name_19
  · skip
    refine lv_aload_n hx hb d_MenuScreensModel_name_7 rfl (lv_at hl 0 rfl) ?_
    refine mv_bi X (mv_rV (rest := []) (As := []) gt_good C X k_12_149 (cm_MenuScreensModel_isName hE M.1 (F := (nF (A 6) e0 i0)) (T := (nT (A 6) e0 i0)) rfl rfl (nT_in _ hle).1 (Nat.le_trans (nT_in _ hle).2 he)) M.1.1 rfl rfl ⟨by decide, by decide⟩ rfl hl.1 rfl (Nat.le_of_ble_eq_true rfl) d_MenuScreensModel_name_8 ⟨Nat.le_refl _, Nat.le_refl _⟩) (fun r3 hN H locs hp X => ?_)
    obtain ⟨ehr3, er3⟩ := hp
    rw [ehr3] at X
    refine lv_if_eq (tgt := 18) hx hb d_MenuScreensModel_name_11 (by decide) (fun c4 => ?_) (fun c4 => ?_)
    · skip
      refine lv_iconst (v := 0) hx hb d_MenuScreensModel_name_18 (by decide) ?_
      exact mq_iret hQ C X hr rfl hlk (⟨_, M, rfl, by
          have q : (nF (A 6) e0 i0) < (nT (A 6) e0 i0) := by
            apply Classical.byContradiction
            intro q
            exact c2 (er1.trans (if_neg q))
          rw [decide_eq_true q]
          rw [bI_0 (er3.symm.trans c4)]; rfl⟩) (Nat.le_refl _) (Nat.le_refl _) d_MenuScreensModel_name_19
    · skip
      refine lv_iconst (v := 1) hx hb d_MenuScreensModel_name_14 (by decide) ?_
      refine lv_goto (tgt := 19) hx hb d_MenuScreensModel_name_15 (by decide) ?_
      exact mq_iret hQ C X hr rfl hlk (⟨_, M, rfl, by
          have q : (nF (A 6) e0 i0) < (nT (A 6) e0 i0) := by
            apply Classical.byContradiction
            intro q
            exact c2 (er1.trans (if_neg q))
          rw [decide_eq_true q]
          rw [bI_n (fun z => c4 (er3.trans z))]; rfl⟩) (Nat.le_refl _) (Nat.le_refl _) d_MenuScreensModel_name_19
theorem d_MenuScreensModel_number_0 : decode prog_13_method_8_code 0 = .ok (.aload_n 0, 1) := by decide +kernel
theorem d_MenuScreensModel_number_1 : decode prog_13_method_8_code 1 = .ok (.invokevirtual 145, 3) := by decide +kernel
theorem d_MenuScreensModel_number_4 : decode prog_13_method_8_code 4 = .ok (.ifCond .ne 5, 3) := by decide +kernel
theorem d_MenuScreensModel_number_7 : decode prog_13_method_8_code 7 = .ok (.iconst 0, 1) := by decide +kernel
theorem d_MenuScreensModel_number_8 : decode prog_13_method_8_code 8 = .ok (.ireturn, 1) := by decide +kernel
theorem d_MenuScreensModel_number_9 : decode prog_13_method_8_code 9 = .ok (.aload_n 0, 1) := by decide +kernel
theorem d_MenuScreensModel_number_10 : decode prog_13_method_8_code 10 = .ok (.getfield 13, 3) := by decide +kernel
theorem d_MenuScreensModel_number_13 : decode prog_13_method_8_code 13 = .ok (.aload_n 0, 1) := by decide +kernel
theorem d_MenuScreensModel_number_14 : decode prog_13_method_8_code 14 = .ok (.getfield 139, 3) := by decide +kernel
theorem d_MenuScreensModel_number_17 : decode prog_13_method_8_code 17 = .ok (.iaload, 1) := by decide +kernel
theorem d_MenuScreensModel_number_18 : decode prog_13_method_8_code 18 = .ok (.bipush 45, 2) := by decide +kernel
theorem d_MenuScreensModel_number_20 : decode prog_13_method_8_code 20 = .ok (.if_icmp .ne 7, 3) := by decide +kernel
theorem d_MenuScreensModel_number_23 : decode prog_13_method_8_code 23 = .ok (.iconst 1, 1) := by decide +kernel
theorem d_MenuScreensModel_number_24 : decode prog_13_method_8_code 24 = .ok (.goto 4, 3) := by decide +kernel
theorem d_MenuScreensModel_number_27 : decode prog_13_method_8_code 27 = .ok (.iconst 0, 1) := by decide +kernel
theorem d_MenuScreensModel_number_28 : decode prog_13_method_8_code 28 = .ok (.istore 5, 2) := by decide +kernel
theorem d_MenuScreensModel_number_30 : decode prog_13_method_8_code 30 = .ok (.iload 5, 2) := by decide +kernel
theorem d_MenuScreensModel_number_32 : decode prog_13_method_8_code 32 = .ok (.ifCond .eq 12, 3) := by decide +kernel
theorem d_MenuScreensModel_number_35 : decode prog_13_method_8_code 35 = .ok (.aload_n 0, 1) := by decide +kernel
theorem d_MenuScreensModel_number_36 : decode prog_13_method_8_code 36 = .ok (.getfield 139, 3) := by decide +kernel
theorem d_MenuScreensModel_number_39 : decode prog_13_method_8_code 39 = .ok (.iconst 1, 1) := by decide +kernel
theorem d_MenuScreensModel_number_40 : decode prog_13_method_8_code 40 = .ok (.iadd, 1) := by decide +kernel
theorem d_MenuScreensModel_number_41 : decode prog_13_method_8_code 41 = .ok (.goto 7, 3) := by decide +kernel
theorem d_MenuScreensModel_number_44 : decode prog_13_method_8_code 44 = .ok (.aload_n 0, 1) := by decide +kernel
theorem d_MenuScreensModel_number_45 : decode prog_13_method_8_code 45 = .ok (.getfield 139, 3) := by decide +kernel
theorem d_MenuScreensModel_number_48 : decode prog_13_method_8_code 48 = .ok (.istore 6, 2) := by decide +kernel
theorem d_MenuScreensModel_number_50 : decode prog_13_method_8_code 50 = .ok (.aload_n 0, 1) := by decide +kernel
theorem d_MenuScreensModel_number_51 : decode prog_13_method_8_code 51 = .ok (.getfield 142, 3) := by decide +kernel
theorem d_MenuScreensModel_number_54 : decode prog_13_method_8_code 54 = .ok (.iload 6, 2) := by decide +kernel
theorem d_MenuScreensModel_number_56 : decode prog_13_method_8_code 56 = .ok (.if_icmp .le 19, 3) := by decide +kernel
theorem d_MenuScreensModel_number_59 : decode prog_13_method_8_code 59 = .ok (.aload_n 0, 1) := by decide +kernel
theorem d_MenuScreensModel_number_60 : decode prog_13_method_8_code 60 = .ok (.getfield 142, 3) := by decide +kernel
theorem d_MenuScreensModel_number_63 : decode prog_13_method_8_code 63 = .ok (.iload 6, 2) := by decide +kernel
theorem d_MenuScreensModel_number_65 : decode prog_13_method_8_code 65 = .ok (.isub, 1) := by decide +kernel
theorem d_MenuScreensModel_number_66 : decode prog_13_method_8_code 66 = .ok (.bipush 7, 2) := by decide +kernel
theorem d_MenuScreensModel_number_68 : decode prog_13_method_8_code 68 = .ok (.if_icmp .ge 7, 3) := by decide +kernel
theorem d_MenuScreensModel_number_71 : decode prog_13_method_8_code 71 = .ok (.iconst 1, 1) := by decide +kernel
theorem d_MenuScreensModel_number_72 : decode prog_13_method_8_code 72 = .ok (.goto 4, 3) := by decide +kernel
theorem d_MenuScreensModel_number_75 : decode prog_13_method_8_code 75 = .ok (.iconst 0, 1) := by decide +kernel
theorem d_MenuScreensModel_number_76 : decode prog_13_method_8_code 76 = .ok (.istore 7, 2) := by decide +kernel
theorem d_MenuScreensModel_number_78 : decode prog_13_method_8_code 78 = .ok (.aload_n 0, 1) := by decide +kernel
theorem d_MenuScreensModel_number_79 : decode prog_13_method_8_code 79 = .ok (.lconst 0, 1) := by decide +kernel
theorem d_MenuScreensModel_number_80 : decode prog_13_method_8_code 80 = .ok (.putfield 152, 3) := by decide +kernel
theorem d_MenuScreensModel_number_83 : decode prog_13_method_8_code 83 = .ok (.iload 6, 2) := by decide +kernel
theorem d_MenuScreensModel_number_85 : decode prog_13_method_8_code 85 = .ok (.istore 8, 2) := by decide +kernel
theorem d_MenuScreensModel_number_87 : decode prog_13_method_8_code 87 = .ok (.iload 8, 2) := by decide +kernel
theorem d_MenuScreensModel_number_89 : decode prog_13_method_8_code 89 = .ok (.aload_n 0, 1) := by decide +kernel
theorem d_MenuScreensModel_number_90 : decode prog_13_method_8_code 90 = .ok (.getfield 142, 3) := by decide +kernel
theorem d_MenuScreensModel_number_93 : decode prog_13_method_8_code 93 = .ok (.if_icmp .ge 70, 3) := by decide +kernel
theorem d_MenuScreensModel_number_96 : decode prog_13_method_8_code 96 = .ok (.iload 7, 2) := by decide +kernel
theorem d_MenuScreensModel_number_98 : decode prog_13_method_8_code 98 = .ok (.ifCond .eq 65, 3) := by decide +kernel
theorem d_MenuScreensModel_number_101 : decode prog_13_method_8_code 101 = .ok (.aload_n 0, 1) := by decide +kernel
theorem d_MenuScreensModel_number_102 : decode prog_13_method_8_code 102 = .ok (.getfield 13, 3) := by decide +kernel
theorem d_MenuScreensModel_number_105 : decode prog_13_method_8_code 105 = .ok (.iload 8, 2) := by decide +kernel
theorem d_MenuScreensModel_number_107 : decode prog_13_method_8_code 107 = .ok (.iaload, 1) := by decide +kernel
theorem d_MenuScreensModel_number_108 : decode prog_13_method_8_code 108 = .ok (.bipush 48, 2) := by decide +kernel
theorem d_MenuScreensModel_number_110 : decode prog_13_method_8_code 110 = .ok (.if_icmp .lt 19, 3) := by decide +kernel
theorem d_MenuScreensModel_number_113 : decode prog_13_method_8_code 113 = .ok (.aload_n 0, 1) := by decide +kernel
theorem d_MenuScreensModel_number_114 : decode prog_13_method_8_code 114 = .ok (.getfield 13, 3) := by decide +kernel
theorem d_MenuScreensModel_number_117 : decode prog_13_method_8_code 117 = .ok (.iload 8, 2) := by decide +kernel
theorem d_MenuScreensModel_number_119 : decode prog_13_method_8_code 119 = .ok (.iaload, 1) := by decide +kernel
theorem d_MenuScreensModel_number_120 : decode prog_13_method_8_code 120 = .ok (.bipush 57, 2) := by decide +kernel
theorem d_MenuScreensModel_number_122 : decode prog_13_method_8_code 122 = .ok (.if_icmp .gt 7, 3) := by decide +kernel
theorem d_MenuScreensModel_number_125 : decode prog_13_method_8_code 125 = .ok (.iconst 1, 1) := by decide +kernel
theorem d_MenuScreensModel_number_126 : decode prog_13_method_8_code 126 = .ok (.goto 4, 3) := by decide +kernel
theorem d_MenuScreensModel_number_129 : decode prog_13_method_8_code 129 = .ok (.iconst 0, 1) := by decide +kernel
theorem d_MenuScreensModel_number_130 : decode prog_13_method_8_code 130 = .ok (.istore 7, 2) := by decide +kernel
theorem d_MenuScreensModel_number_132 : decode prog_13_method_8_code 132 = .ok (.aload_n 0, 1) := by decide +kernel
theorem d_MenuScreensModel_number_133 : decode prog_13_method_8_code 133 = .ok (.aload_n 0, 1) := by decide +kernel
theorem d_MenuScreensModel_number_134 : decode prog_13_method_8_code 134 = .ok (.getfield 152, 3) := by decide +kernel
theorem d_MenuScreensModel_number_137 : decode prog_13_method_8_code 137 = .ok (.ldc2_w 156, 3) := by decide +kernel
theorem d_MenuScreensModel_number_140 : decode prog_13_method_8_code 140 = .ok (.lmul, 1) := by decide +kernel
theorem d_MenuScreensModel_number_141 : decode prog_13_method_8_code 141 = .ok (.aload_n 0, 1) := by decide +kernel
theorem d_MenuScreensModel_number_142 : decode prog_13_method_8_code 142 = .ok (.getfield 13, 3) := by decide +kernel
theorem d_MenuScreensModel_number_145 : decode prog_13_method_8_code 145 = .ok (.iload 8, 2) := by decide +kernel
theorem d_MenuScreensModel_number_147 : decode prog_13_method_8_code 147 = .ok (.iaload, 1) := by decide +kernel
theorem d_MenuScreensModel_number_148 : decode prog_13_method_8_code 148 = .ok (.i2l, 1) := by decide +kernel
theorem d_MenuScreensModel_number_149 : decode prog_13_method_8_code 149 = .ok (.ladd, 1) := by decide +kernel
theorem d_MenuScreensModel_number_150 : decode prog_13_method_8_code 150 = .ok (.ldc2_w 158, 3) := by decide +kernel
theorem d_MenuScreensModel_number_153 : decode prog_13_method_8_code 153 = .ok (.lsub, 1) := by decide +kernel
theorem d_MenuScreensModel_number_154 : decode prog_13_method_8_code 154 = .ok (.putfield 152, 3) := by decide +kernel
theorem d_MenuScreensModel_number_157 : decode prog_13_method_8_code 157 = .ok (.iinc 8 1, 3) := by decide +kernel
theorem d_MenuScreensModel_number_160 : decode prog_13_method_8_code 160 = .ok (.goto (-73), 3) := by decide +kernel
theorem d_MenuScreensModel_number_163 : decode prog_13_method_8_code 163 = .ok (.aload_n 0, 1) := by decide +kernel
theorem d_MenuScreensModel_number_164 : decode prog_13_method_8_code 164 = .ok (.iload 5, 2) := by decide +kernel
theorem d_MenuScreensModel_number_166 : decode prog_13_method_8_code 166 = .ok (.ifCond .eq 11, 3) := by decide +kernel
theorem d_MenuScreensModel_number_169 : decode prog_13_method_8_code 169 = .ok (.aload_n 0, 1) := by decide +kernel
theorem d_MenuScreensModel_number_170 : decode prog_13_method_8_code 170 = .ok (.getfield 152, 3) := by decide +kernel
theorem d_MenuScreensModel_number_173 : decode prog_13_method_8_code 173 = .ok (.lneg, 1) := by decide +kernel
theorem d_MenuScreensModel_number_174 : decode prog_13_method_8_code 174 = .ok (.goto 7, 3) := by decide +kernel
theorem d_MenuScreensModel_number_177 : decode prog_13_method_8_code 177 = .ok (.aload_n 0, 1) := by decide +kernel
theorem d_MenuScreensModel_number_178 : decode prog_13_method_8_code 178 = .ok (.getfield 152, 3) := by decide +kernel
theorem d_MenuScreensModel_number_181 : decode prog_13_method_8_code 181 = .ok (.putfield 152, 3) := by decide +kernel
theorem d_MenuScreensModel_number_184 : decode prog_13_method_8_code 184 = .ok (.iload 7, 2) := by decide +kernel
theorem d_MenuScreensModel_number_186 : decode prog_13_method_8_code 186 = .ok (.ifCond .eq 25, 3) := by decide +kernel
theorem d_MenuScreensModel_number_189 : decode prog_13_method_8_code 189 = .ok (.aload_n 0, 1) := by decide +kernel
theorem d_MenuScreensModel_number_190 : decode prog_13_method_8_code 190 = .ok (.getfield 152, 3) := by decide +kernel
theorem d_MenuScreensModel_number_193 : decode prog_13_method_8_code 193 = .ok (.lload_n 1, 1) := by decide +kernel
theorem d_MenuScreensModel_number_194 : decode prog_13_method_8_code 194 = .ok (.lcmp, 1) := by decide +kernel
theorem d_MenuScreensModel_number_195 : decode prog_13_method_8_code 195 = .ok (.ifCond .lt 16, 3) := by decide +kernel
theorem d_MenuScreensModel_number_198 : decode prog_13_method_8_code 198 = .ok (.aload_n 0, 1) := by decide +kernel
theorem d_MenuScreensModel_number_199 : decode prog_13_method_8_code 199 = .ok (.getfield 152, 3) := by decide +kernel
theorem d_MenuScreensModel_number_202 : decode prog_13_method_8_code 202 = .ok (.lload_n 3, 1) := by decide +kernel
theorem d_MenuScreensModel_number_203 : decode prog_13_method_8_code 203 = .ok (.lcmp, 1) := by decide +kernel
theorem d_MenuScreensModel_number_204 : decode prog_13_method_8_code 204 = .ok (.ifCond .gt 7, 3) := by decide +kernel
theorem d_MenuScreensModel_number_207 : decode prog_13_method_8_code 207 = .ok (.iconst 1, 1) := by decide +kernel
theorem d_MenuScreensModel_number_208 : decode prog_13_method_8_code 208 = .ok (.goto 4, 3) := by decide +kernel
theorem d_MenuScreensModel_number_211 : decode prog_13_method_8_code 211 = .ok (.iconst 0, 1) := by decide +kernel
theorem d_MenuScreensModel_number_212 : decode prog_13_method_8_code 212 = .ok (.ireturn, 1) := by decide +kernel
set_option maxRecDepth 100000 in
set_option maxHeartbeats 4000000 in
theorem cm_MenuScreensModel_number {l : Launch} {S0 : State} {b : Nat} {D : va_G} {dT : Nat → ClassId} (hE : vEnv S0 b D dT) {h0 : vH} {a : Nat} {ar : Nat → Nat} {x : Nat → Int32} {y : Nat → Int64} {A : Nat → Nat → Int32} {B : Nat → Nat → Int64} (M : MV S0 dT h0 a ar x y A B) (p1 : Int64) (p2 : Int64) {i0 e0 : Nat} (hat : x 7 = nI i0) (hend : x 8 = nI e0) (hle : i0 ≤ e0) (he : e0 ≤ 4000) : vMi l S0 D vcl GT y_MenuScreensModel_number prog_13_method_8_code 9 (some .boolean) 1 20 0 0 [.ref a, .long p1, .long p2] h0 (fun r h' => ∃ x' y', MR S0 dT h0 h' a ar x' y' A B ∧ x' = upd (upd (upd x 7 (nI (nT (A 6) e0 i0))) 9 (nI (nF (A 6) e0 i0))) 10 (nI (nT (A 6) e0 i0)) ∧ (∀ k, k ≠ 11 → y' k = y k) ∧ (r = 1 → y' 11 = nuV (A 6) (nF (A 6) e0 i0) (nT (A 6) e0 i0)) ∧ r = bI (decide ((nF (A 6) e0 i0) < (nT (A 6) e0 i0)) && (isNu (A 6) (nF (A 6) e0 i0) (nT (A 6) e0 i0) && (decide (p1 ≤ nuV (A 6) (nF (A 6) e0 i0) (nT (A 6) e0 i0)) && decide (nuV (A 6) (nF (A 6) e0 i0) (nT (A 6) e0 i0) ≤ p2))))) := by
  unfold vMi
  refine vM_ofQ hE.1 (by decide) (Nat.le_of_ble_eq_true rfl) (fun p e s m args below meth c ls Q hQ C hr hlk hnm X hl => ?_)
  have C : vC p s m _ c _ _ "MenuScreensModel" GT D vcl (vty dT) := C
  have hx := C.1.1
  have hb := C.1.2.1
  replace M := MR.of M
  obtain ⟨H, eH⟩ : ∃ z, z = s.heap := ⟨_, rfl⟩
  obtain ⟨locs, elocs⟩ : ∃ z : List Loc, z = [] := ⟨_, rfl⟩
  rw [← eH, ← elocs] at X
  rw [← eH, ← elocs]
  clear eH elocs
  have hl : lv_has ls 9 [(0, .ref a), (1, .long p1), (3, .long p2)] := hl
  refine lv_aload_n hx hb d_MenuScreensModel_number_0 rfl (lv_at hl 0 rfl) ?_
  refine mv_bi X (mv_rV (rest := []) (As := []) gt_good C X k_12_145 (cm_MenuScreensModel_next hE M.1 (i0 := i0) (e0 := e0) (F := nF (A 6) e0 i0) (T := nT (A 6) e0 i0) hat hend hle he rfl rfl) M.1.1 rfl rfl ⟨by decide, by decide⟩ rfl hl.1 rfl (Nat.le_of_ble_eq_true rfl) d_MenuScreensModel_number_1 ⟨Nat.le_refl _, Nat.le_refl _⟩) (fun r1 hN H locs hp X => ?_)
  obtain ⟨x1, M1, rfl, er1⟩ := hp
  replace M := M.trans M1
  refine lv_if_ne (tgt := 9) hx hb d_MenuScreensModel_number_4 (by decide) (fun c2 => ?_) (fun c2 => ?_)
  · skip
    have hlt : (nF (A 6) e0 i0) < (nT (A 6) e0 i0) := by
      apply Classical.byContradiction
      intro q
      exact c2 (er1.trans (if_neg q))
    have hFT := hlt
    have hTe := (nT_in (A 6) hle).2
    obtain ⟨F, hF⟩ : ∃ z, z = (nF (A 6) e0 i0) := ⟨_, rfl⟩
    obtain ⟨T, hT⟩ : ∃ z, z = (nT (A 6) e0 i0) := ⟨_, rfl⟩
    rw [← hF, ← hT] at hFT
    rw [← hT] at hTe
    rw [← hF, ← hT] at M
    rw [← hF, ← hT] at er1
    obtain ⟨d, hd⟩ : ∃ z, z = dg1 (A 6) F := ⟨_, rfl⟩
    have hd1 : F ≤ d ∧ d ≤ F + 1 := by rw [hd]; unfold dg1; split <;> omega
    have j50 : ∀ (bl : Int32) (i1 : Int32) (ls : Array Slot), (bl = bI (decide (A 6 F = 45))) → (i1 = nI d) → lv_has ls 9 [(0, .ref a), (1, .long p1), (3, .long p2), (5, .int bl), (6, .int i1)] → W p l e (vRm 1 20 0 0) s m args below meth c H locs 0 0 Q (F0 m 50 ls []) := by
      intro bl i1 ls ebl e1 hl
      obtain ⟨g0, hg0⟩ : ∃ z, z = (decide (d < T) && decide (T - d < 7)) := ⟨_, rfl⟩
      have hTd : d ≤ T → nI T - i1 = nI (T - d) := fun q => by rw [e1]; exact nI_sub q
      have j76 : ∀ (ls : Array Slot), lv_has ls 9 [(0, .ref a), (1, .long p1), (3, .long p2), (5, .int bl), (6, .int i1)] → W p l e (vRm 1 20 0 0) s m args below meth c H locs 0 0 Q (F0 m 76 ls [.int (bI g0)]) := by
        intro  ls  hl
        refine lv_istore (lv' := [(7, .int (bI g0)), (0, .ref a), (1, .long p1), (3, .long p2), (5, .int bl), (6, .int i1)]) hx hb d_MenuScreensModel_number_76 hl (by decide) rfl (fun ls hl => ?_)
        refine lv_aload_n hx hb d_MenuScreensModel_number_78 rfl (lv_at hl 1 rfl) ?_
        refine lv_lconst (v := 0) hx hb d_MenuScreensModel_number_79 (by decide) ?_
        refine mm_put C X M 11 p_12_152_13 (upd (upd (upd x 7 (nI T)) 9 (nI F)) 10 (nI T)) (vp_updL y 11 0) rfl rfl rfl (by decide) d_MenuScreensModel_number_80 (fun h H locs X M => ?_)
        refine lv_iload hx hb d_MenuScreensModel_number_83 (lv_at hl 5 rfl) ?_
        refine lv_istore (lv' := [(8, .int i1), (7, .int (bI g0)), (0, .ref a), (1, .long p1), (3, .long p2), (5, .int bl), (6, .int i1)]) hx hb d_MenuScreensModel_number_85 hl (by decide) rfl (fun ls hl => ?_)
        have j163 : ∀ (g : Int32) (v : Int64) (ls : Array Slot) (h : vH) (H : Heap) (locs : List Loc), (g = bI (isNu (A 6) F T)) → (isNu (A 6) F T = true → v = dvL (A 6) d (T - d)) → vO S0 D vcl h s H locs → MR S0 dT h0 h a ar (upd (upd (upd x 7 (nI T)) 9 (nI F)) 10 (nI T)) (vp_updL y 11 v) A B → lv_has ls 9 [(0, .ref a), (1, .long p1), (3, .long p2), (5, .int bl), (7, .int g)] → W p l e (vRm 1 20 0 0) s m args below meth c H locs 0 0 Q (F0 m 163 ls []) := by
          intro g v ls h H locs eg hv X M hl
          have j184 : ∀ (v : Int64) (ls : Array Slot) (h : vH) (H : Heap) (locs : List Loc), (isNu (A 6) F T = true → v = nuV (A 6) F T) → vO S0 D vcl h s H locs → MR S0 dT h0 h a ar (upd (upd (upd x 7 (nI T)) 9 (nI F)) 10 (nI T)) (vp_updL y 11 v) A B → lv_has ls 9 [(0, .ref a), (1, .long p1), (3, .long p2), (7, .int g)] → W p l e (vRm 1 20 0 0) s m args below meth c H locs 0 0 Q (F0 m 184 ls []) := by
            intro v ls h H locs hv X M hl
            refine lv_iload hx hb d_MenuScreensModel_number_184 (lv_at hl 3 rfl) ?_
            refine lv_if_eq (tgt := 211) hx hb d_MenuScreensModel_number_186 (by decide) (fun c3 => ?_) (fun c3 => ?_)
            · skip
              refine lv_iconst (v := 0) hx hb d_MenuScreensModel_number_211 (by decide) ?_
              exact mq_iret hQ C X hr rfl hlk (⟨_, _, M, by rw [← hF, ← hT], fun k hk => if_neg hk, fun z => absurd z (by decide), by
                  rw [← hF, ← hT, decide_eq_true hFT, Bool.true_and]
                  rw [bI_0 (eg.symm.trans c3)]; rfl⟩) (Nat.le_refl _) (Nat.le_refl _) d_MenuScreensModel_number_212
            · skip
              refine lv_aload_n hx hb d_MenuScreensModel_number_189 rfl (lv_at hl 0 rfl) ?_
              refine mm_get C X M 11 f_12_152_13 (.long v) rfl d_MenuScreensModel_number_190 ?_
              refine lv_lload_n hx hb d_MenuScreensModel_number_193 rfl (lv_at hl 1 rfl) ?_
              refine W.lcmp hx hb d_MenuScreensModel_number_194 ?_
              refine lv_if_lt (tgt := 211) hx hb d_MenuScreensModel_number_195 (by decide) (fun c4 => ?_) (fun c4 => ?_)
              · skip
                refine lv_iconst (v := 0) hx hb d_MenuScreensModel_number_211 (by decide) ?_
                exact mq_iret hQ C X hr rfl hlk (⟨_, _, M, by rw [← hF, ← hT], fun k hk => if_neg hk, fun z => absurd z (by decide), by
                    rw [← hF, ← hT, decide_eq_true hFT, Bool.true_and]
                    have q0 : isNu (A 6) F T = true := bI_n (fun z => c3 (eg.trans z))
                    rw [q0, ← hv q0, decide_eq_false (Int64.not_le.mpr ((lg_cmp_lt _ _).mp c4))]; rfl⟩) (Nat.le_refl _) (Nat.le_refl _) d_MenuScreensModel_number_212
              · skip
                refine lv_aload_n hx hb d_MenuScreensModel_number_198 rfl (lv_at hl 0 rfl) ?_
                refine mm_get C X M 11 f_12_152_13 (.long v) rfl d_MenuScreensModel_number_199 ?_
                refine lv_lload_n hx hb d_MenuScreensModel_number_202 rfl (lv_at hl 2 rfl) ?_
                refine W.lcmp hx hb d_MenuScreensModel_number_203 ?_
                refine lv_if_gt (tgt := 211) hx hb d_MenuScreensModel_number_204 (by decide) (fun c5 => ?_) (fun c5 => ?_)
                · skip
                  refine lv_iconst (v := 0) hx hb d_MenuScreensModel_number_211 (by decide) ?_
                  exact mq_iret hQ C X hr rfl hlk (⟨_, _, M, by rw [← hF, ← hT], fun k hk => if_neg hk, fun z => absurd z (by decide), by
                      rw [← hF, ← hT, decide_eq_true hFT, Bool.true_and]
                      have q0 : isNu (A 6) F T = true := bI_n (fun z => c3 (eg.trans z))
                      rw [q0, ← hv q0, decide_eq_false (Int64.not_le.mpr ((lg_cmp_gt _ _).mp c5)), Bool.and_false, Bool.and_false]; rfl⟩) (Nat.le_refl _) (Nat.le_refl _) d_MenuScreensModel_number_212
                · skip
                  refine lv_iconst (v := 1) hx hb d_MenuScreensModel_number_207 (by decide) ?_
                  refine lv_goto (tgt := 212) hx hb d_MenuScreensModel_number_208 (by decide) ?_
                  exact mq_iret hQ C X hr rfl hlk (⟨_, _, M, by rw [← hF, ← hT], fun k hk => if_neg hk, fun _ => by
                      rw [← hF, ← hT]; exact hv (bI_n (fun z => c3 (eg.trans z))), by
                      rw [← hF, ← hT, decide_eq_true hFT, Bool.true_and]
                      have q0 : isNu (A 6) F T = true := bI_n (fun z => c3 (eg.trans z))
                      rw [q0, ← hv q0, decide_eq_true (Int64.not_lt.mp (fun z => c4 ((lg_cmp_lt _ _).mpr z))), decide_eq_true (Int64.not_lt.mp (fun z => c5 ((lg_cmp_gt _ _).mpr z)))]; rfl⟩) (Nat.le_refl _) (Nat.le_refl _) d_MenuScreensModel_number_212
          refine lv_aload_n hx hb d_MenuScreensModel_number_163 rfl (lv_at hl 0 rfl) ?_
          refine lv_iload hx hb d_MenuScreensModel_number_164 (lv_at hl 3 rfl) ?_
          refine lv_if_eq (tgt := 177) hx hb d_MenuScreensModel_number_166 (by decide) (fun c6 => ?_) (fun c6 => ?_)
          · skip
            refine lv_aload_n hx hb d_MenuScreensModel_number_177 rfl (lv_at hl 0 rfl) ?_
            refine mm_get C X M 11 f_12_152_13 (.long v) rfl d_MenuScreensModel_number_178 ?_
            refine mm_put C X M 11 p_12_152_13 (upd (upd (upd x 7 (nI T)) 9 (nI F)) 10 (nI T)) (vp_updL y 11 v) rfl rfl rfl (by decide) d_MenuScreensModel_number_181 (fun h H locs X M => ?_)
            have hv2 : isNu (A 6) F T = true → v = nuV (A 6) F T := fun q => by
              have q1 : (decide (A 6 F = 45)) = false := bI_0 (ebl.symm.trans c6)
              unfold nuV
              rw [if_neg (of_decide_eq_false q1), hv q, hd, dg1, if_neg (of_decide_eq_false q1)]
            exact j184 v ls _ _ _ hv2 X M (lv_sub hl [0, 1, 2, 4] rfl)
          · skip
            refine lv_aload_n hx hb d_MenuScreensModel_number_169 rfl (lv_at hl 0 rfl) ?_
            refine mm_get C X M 11 f_12_152_13 (.long v) rfl d_MenuScreensModel_number_170 ?_
            refine lv_lneg hx hb d_MenuScreensModel_number_173 ?_
            refine lv_goto (tgt := 181) hx hb d_MenuScreensModel_number_174 (by decide) ?_
            refine mm_put C X M 11 p_12_152_13 (upd (upd (upd x 7 (nI T)) 9 (nI F)) 10 (nI T)) (vp_updL y 11 (-v)) rfl rfl rfl (by decide) d_MenuScreensModel_number_181 (fun h H locs X M => ?_)
            have hv2 : isNu (A 6) F T = true → (-v) = nuV (A 6) F T := fun q => by
              have q1 : (decide (A 6 F = 45)) = true := bI_n (fun z => c6 (ebl.trans z))
              unfold nuV
              rw [if_pos (of_decide_eq_true q1), hv q, hd, dg1, if_pos (of_decide_eq_true q1)]
            exact j184 (-v) ls _ _ _ hv2 X M (lv_sub hl [0, 1, 2, 4] rfl)
        have lp : ∀ (n_lp : Nat) (k : Nat) (g : Int32) (i : Int32) (v : Int64) (ls : Array Slot) (h : vH) (H : Heap) (locs : List Loc), (i = nI k) → (d ≤ k) → (k ≤ T) → (g = bI (g0 && dgB (A 6) d (k - d))) → ((g0 && dgB (A 6) d (k - d)) = true → v = dvL (A 6) d (k - d)) → (T - k) < n_lp → vO S0 D vcl h s H locs → MR S0 dT h0 h a ar (upd (upd (upd x 7 (nI T)) 9 (nI F)) 10 (nI T)) (vp_updL y 11 v) A B → lv_has ls 9 [(0, .ref a), (1, .long p1), (3, .long p2), (5, .int bl), (6, .int i1), (7, .int g), (8, .int i)] → W p l e (vRm 1 20 0 0) s m args below meth c H locs 0 0 Q (F0 m 87 ls []) := by
          intro n_lp
          induction n_lp with
          | zero => intros; exact absurd (by assumption) (Nat.not_lt_zero _)
          | succ n_lp ih_lp =>
            intro k g i v ls h H locs ei hk1 hk2 eg hv hmu_lp X M hl
            refine lv_iload hx hb d_MenuScreensModel_number_87 (lv_at hl 6 rfl) ?_
            refine lv_aload_n hx hb d_MenuScreensModel_number_89 rfl (lv_at hl 0 rfl) ?_
            refine mm_get C X M 10 f_12_142_13 (.int (nI T)) rfl d_MenuScreensModel_number_90 ?_
            refine lv_icmp_ge (tgt := 163) hx hb d_MenuScreensModel_number_93 (by decide) (fun c7 => ?_) (fun c7 => ?_)
            · skip
              have hkT : k = T := by
                have := (nI_leI (a := T) (b := k) (by omega) (by omega)).mp (by rw [← ei]; exact c7)
                omega
              have qn : isNu (A 6) F T = (g0 && dgB (A 6) d (k - d)) := by
                unfold isNu
                rw [← hd, ← hg0, hkT]
              have eg2 : g = bI (isNu (A 6) F T) := by rw [qn]; exact eg
              have hv2 : isNu (A 6) F T = true → v = dvL (A 6) d (T - d) := fun q => by rw [qn] at q; rw [hv q, hkT]
              exact j163 g v ls _ _ _ eg2 hv2 X M (lv_sub hl [0, 1, 2, 3, 5] rfl)
            · skip
              have hlt : k < T := by
                rcases Nat.lt_or_ge k T with q | q
                · exact q
                · exact absurd (by rw [ei]; exact nI_le q (by omega)) c7
              refine lv_iload hx hb d_MenuScreensModel_number_96 (lv_at hl 5 rfl) ?_
              refine lv_if_eq (tgt := 163) hx hb d_MenuScreensModel_number_98 (by decide) (fun c8 => ?_) (fun c8 => ?_)
              · skip
                have q0 : (g0 && dgB (A 6) d (k - d)) = false := bI_0 (eg.symm.trans c8)
                have qn : isNu (A 6) F T = false := by
                  unfold isNu
                  rw [← hd, ← hg0]
                  rcases Bool.and_eq_false_iff.mp q0 with q | q
                  · rw [q]; rfl
                  · rw [dgB_mono (by omega) q, Bool.and_false]
                have eg2 : g = bI (isNu (A 6) F T) := by rw [qn]; exact c8
                have hv2 : isNu (A 6) F T = true → v = dvL (A 6) d (T - d) := fun q => by rw [qn] at q; cases q
                exact j163 g v ls _ _ _ eg2 hv2 X M (lv_sub hl [0, 1, 2, 3, 5] rfl)
              · skip
                have q0 : (g0 && dgB (A 6) d (k - d)) = true := bI_n (fun q => c8 (eg.trans q))
                refine lv_aload_n hx hb d_MenuScreensModel_number_101 rfl (lv_at hl 0 rfl) ?_
                refine mm_get C X M 6 f_12_13_13 (.ref (ar 6)) rfl d_MenuScreensModel_number_102 ?_
                refine lv_iload hx hb d_MenuScreensModel_number_105 (lv_at hl 6 rfl) ?_
                refine mm_iald C X M 6 4000 rfl (A 6) rfl (by decide) k ei (by omega) d_MenuScreensModel_number_107 ?_
                refine lv_bipush (v := 48) hx hb d_MenuScreensModel_number_108 (by decide) ?_
                refine lv_icmp_lt (tgt := 129) hx hb d_MenuScreensModel_number_110 (by decide) (fun c9 => ?_) (fun c9 => ?_)
                · skip
                  refine lv_iconst (v := 0) hx hb d_MenuScreensModel_number_129 (by decide) ?_
                  refine lv_istore (lv' := [(7, .int 0), (0, .ref a), (1, .long p1), (3, .long p2), (5, .int bl), (6, .int i1), (8, .int i)]) hx hb d_MenuScreensModel_number_130 hl (by decide) rfl (fun ls hl => ?_)
                  refine lv_aload_n hx hb d_MenuScreensModel_number_132 rfl (lv_at hl 1 rfl) ?_
                  refine lv_aload_n hx hb d_MenuScreensModel_number_133 rfl (lv_at hl 1 rfl) ?_
                  refine mm_get C X M 11 f_12_152_13 (.long v) rfl d_MenuScreensModel_number_134 ?_
                  refine lv_ldc2 (v := 10) hx hb C.1.2.2.2.1 (C.1.2.2.2.2 _ (gt_6 22 (by decide +kernel) rfl)) d_MenuScreensModel_number_137 ?_
                  refine lv_lmul hx hb d_MenuScreensModel_number_140 ?_
                  refine lv_aload_n hx hb d_MenuScreensModel_number_141 rfl (lv_at hl 1 rfl) ?_
                  refine mm_get C X M 6 f_12_13_13 (.ref (ar 6)) rfl d_MenuScreensModel_number_142 ?_
                  refine lv_iload hx hb d_MenuScreensModel_number_145 (lv_at hl 6 rfl) ?_
                  refine mm_iald C X M 6 4000 rfl (A 6) rfl (by decide) k ei (by omega) d_MenuScreensModel_number_147 ?_
                  refine lv_i2l (v := (((A 6) k) : Int32).toInt64) hx hb d_MenuScreensModel_number_148 rfl ?_
                  refine lv_ladd hx hb d_MenuScreensModel_number_149 ?_
                  refine lv_ldc2 (v := 48) hx hb C.1.2.2.2.1 (C.1.2.2.2.2 _ (gt_6 23 (by decide +kernel) rfl)) d_MenuScreensModel_number_150 ?_
                  refine lv_lsub hx hb d_MenuScreensModel_number_153 ?_
                  refine mm_put C X M 11 p_12_152_13 (upd (upd (upd x 7 (nI T)) 9 (nI F)) 10 (nI T)) (vp_updL y 11 (((v * 10) + ((((A 6) k) : Int32).toInt64)) - 48)) rfl rfl rfl (by decide) d_MenuScreensModel_number_154 (fun h H locs X M => ?_)
                  have eg1 : (0 : Int32) = bI (g0 && dgB (A 6) d (k + 1 - d)) := by
                    rw [dgB_s hk1, decide_eq_false (Int32.not_le.mpr c9), Bool.false_and, Bool.and_false, Bool.and_false]; rfl
                  have hv1 : (g0 && dgB (A 6) d (k + 1 - d)) = true → (((v * 10) + ((((A 6) k) : Int32).toInt64)) - 48) = dvL (A 6) d (k + 1 - d) := fun _ => by rw [dvL_s hk1, hv q0]
                  refine lv_iinc (v := (i + 1)) (lv' := [(8, .int (i + 1)), (7, .int 0), (0, .ref a), (1, .long p1), (3, .long p2), (5, .int bl), (6, .int i1)]) hx hb d_MenuScreensModel_number_157 hl (k := 6) rfl rfl (by decide) rfl (fun ls hl => ?_)
                  refine lv_goto (tgt := 87) hx hb d_MenuScreensModel_number_160 (by decide) ?_
                  exact ih_lp (k + 1) 0 (i + 1) (((v * 10) + ((((A 6) k) : Int32).toInt64)) - 48) ls _ _ _ (by rw [ei]; exact nI_1 k) (by omega) (by omega) eg1 hv1 (by omega) X M (lv_sub hl [2, 3, 4, 5, 6, 1, 0] rfl)
                · skip
                  refine lv_aload_n hx hb d_MenuScreensModel_number_113 rfl (lv_at hl 0 rfl) ?_
                  refine mm_get C X M 6 f_12_13_13 (.ref (ar 6)) rfl d_MenuScreensModel_number_114 ?_
                  refine lv_iload hx hb d_MenuScreensModel_number_117 (lv_at hl 6 rfl) ?_
                  refine mm_iald C X M 6 4000 rfl (A 6) rfl (by decide) k ei (by omega) d_MenuScreensModel_number_119 ?_
                  refine lv_bipush (v := 57) hx hb d_MenuScreensModel_number_120 (by decide) ?_
                  refine lv_icmp_gt (tgt := 129) hx hb d_MenuScreensModel_number_122 (by decide) (fun c10 => ?_) (fun c10 => ?_)
                  · skip
                    refine lv_iconst (v := 0) hx hb d_MenuScreensModel_number_129 (by decide) ?_
                    refine lv_istore (lv' := [(7, .int 0), (0, .ref a), (1, .long p1), (3, .long p2), (5, .int bl), (6, .int i1), (8, .int i)]) hx hb d_MenuScreensModel_number_130 hl (by decide) rfl (fun ls hl => ?_)
                    refine lv_aload_n hx hb d_MenuScreensModel_number_132 rfl (lv_at hl 1 rfl) ?_
                    refine lv_aload_n hx hb d_MenuScreensModel_number_133 rfl (lv_at hl 1 rfl) ?_
                    refine mm_get C X M 11 f_12_152_13 (.long v) rfl d_MenuScreensModel_number_134 ?_
                    refine lv_ldc2 (v := 10) hx hb C.1.2.2.2.1 (C.1.2.2.2.2 _ (gt_6 22 (by decide +kernel) rfl)) d_MenuScreensModel_number_137 ?_
                    refine lv_lmul hx hb d_MenuScreensModel_number_140 ?_
                    refine lv_aload_n hx hb d_MenuScreensModel_number_141 rfl (lv_at hl 1 rfl) ?_
                    refine mm_get C X M 6 f_12_13_13 (.ref (ar 6)) rfl d_MenuScreensModel_number_142 ?_
                    refine lv_iload hx hb d_MenuScreensModel_number_145 (lv_at hl 6 rfl) ?_
                    refine mm_iald C X M 6 4000 rfl (A 6) rfl (by decide) k ei (by omega) d_MenuScreensModel_number_147 ?_
                    refine lv_i2l (v := (((A 6) k) : Int32).toInt64) hx hb d_MenuScreensModel_number_148 rfl ?_
                    refine lv_ladd hx hb d_MenuScreensModel_number_149 ?_
                    refine lv_ldc2 (v := 48) hx hb C.1.2.2.2.1 (C.1.2.2.2.2 _ (gt_6 23 (by decide +kernel) rfl)) d_MenuScreensModel_number_150 ?_
                    refine lv_lsub hx hb d_MenuScreensModel_number_153 ?_
                    refine mm_put C X M 11 p_12_152_13 (upd (upd (upd x 7 (nI T)) 9 (nI F)) 10 (nI T)) (vp_updL y 11 (((v * 10) + ((((A 6) k) : Int32).toInt64)) - 48)) rfl rfl rfl (by decide) d_MenuScreensModel_number_154 (fun h H locs X M => ?_)
                    have eg1 : (0 : Int32) = bI (g0 && dgB (A 6) d (k + 1 - d)) := by
                      rw [dgB_s hk1, decide_eq_false (Int32.not_le.mpr c10), Bool.and_false, Bool.and_false, Bool.and_false]; rfl
                    have hv1 : (g0 && dgB (A 6) d (k + 1 - d)) = true → (((v * 10) + ((((A 6) k) : Int32).toInt64)) - 48) = dvL (A 6) d (k + 1 - d) := fun _ => by rw [dvL_s hk1, hv q0]
                    refine lv_iinc (v := (i + 1)) (lv' := [(8, .int (i + 1)), (7, .int 0), (0, .ref a), (1, .long p1), (3, .long p2), (5, .int bl), (6, .int i1)]) hx hb d_MenuScreensModel_number_157 hl (k := 6) rfl rfl (by decide) rfl (fun ls hl => ?_)
                    refine lv_goto (tgt := 87) hx hb d_MenuScreensModel_number_160 (by decide) ?_
                    exact ih_lp (k + 1) 0 (i + 1) (((v * 10) + ((((A 6) k) : Int32).toInt64)) - 48) ls _ _ _ (by rw [ei]; exact nI_1 k) (by omega) (by omega) eg1 hv1 (by omega) X M (lv_sub hl [2, 3, 4, 5, 6, 1, 0] rfl)
                  · skip
                    refine lv_iconst (v := 1) hx hb d_MenuScreensModel_number_125 (by decide) ?_
                    refine lv_goto (tgt := 130) hx hb d_MenuScreensModel_number_126 (by decide) ?_
                    refine lv_istore (lv' := [(7, .int 1), (0, .ref a), (1, .long p1), (3, .long p2), (5, .int bl), (6, .int i1), (8, .int i)]) hx hb d_MenuScreensModel_number_130 hl (by decide) rfl (fun ls hl => ?_)
                    refine lv_aload_n hx hb d_MenuScreensModel_number_132 rfl (lv_at hl 1 rfl) ?_
                    refine lv_aload_n hx hb d_MenuScreensModel_number_133 rfl (lv_at hl 1 rfl) ?_
                    refine mm_get C X M 11 f_12_152_13 (.long v) rfl d_MenuScreensModel_number_134 ?_
                    refine lv_ldc2 (v := 10) hx hb C.1.2.2.2.1 (C.1.2.2.2.2 _ (gt_6 22 (by decide +kernel) rfl)) d_MenuScreensModel_number_137 ?_
                    refine lv_lmul hx hb d_MenuScreensModel_number_140 ?_
                    refine lv_aload_n hx hb d_MenuScreensModel_number_141 rfl (lv_at hl 1 rfl) ?_
                    refine mm_get C X M 6 f_12_13_13 (.ref (ar 6)) rfl d_MenuScreensModel_number_142 ?_
                    refine lv_iload hx hb d_MenuScreensModel_number_145 (lv_at hl 6 rfl) ?_
                    refine mm_iald C X M 6 4000 rfl (A 6) rfl (by decide) k ei (by omega) d_MenuScreensModel_number_147 ?_
                    refine lv_i2l (v := (((A 6) k) : Int32).toInt64) hx hb d_MenuScreensModel_number_148 rfl ?_
                    refine lv_ladd hx hb d_MenuScreensModel_number_149 ?_
                    refine lv_ldc2 (v := 48) hx hb C.1.2.2.2.1 (C.1.2.2.2.2 _ (gt_6 23 (by decide +kernel) rfl)) d_MenuScreensModel_number_150 ?_
                    refine lv_lsub hx hb d_MenuScreensModel_number_153 ?_
                    refine mm_put C X M 11 p_12_152_13 (upd (upd (upd x 7 (nI T)) 9 (nI F)) 10 (nI T)) (vp_updL y 11 (((v * 10) + ((((A 6) k) : Int32).toInt64)) - 48)) rfl rfl rfl (by decide) d_MenuScreensModel_number_154 (fun h H locs X M => ?_)
                    have eg1 : (1 : Int32) = bI (g0 && dgB (A 6) d (k + 1 - d)) := by
                      rw [dgB_s hk1, ← Bool.and_assoc, q0, decide_eq_true (Int32.not_lt.mp c9), decide_eq_true (Int32.not_lt.mp c10)]; rfl
                    have hv1 : (g0 && dgB (A 6) d (k + 1 - d)) = true → (((v * 10) + ((((A 6) k) : Int32).toInt64)) - 48) = dvL (A 6) d (k + 1 - d) := fun _ => by rw [dvL_s hk1, hv q0]
                    refine lv_iinc (v := (i + 1)) (lv' := [(8, .int (i + 1)), (7, .int 1), (0, .ref a), (1, .long p1), (3, .long p2), (5, .int bl), (6, .int i1)]) hx hb d_MenuScreensModel_number_157 hl (k := 6) rfl rfl (by decide) rfl (fun ls hl => ?_)
                    refine lv_goto (tgt := 87) hx hb d_MenuScreensModel_number_160 (by decide) ?_
                    exact ih_lp (k + 1) 1 (i + 1) (((v * 10) + ((((A 6) k) : Int32).toInt64)) - 48) ls _ _ _ (by rw [ei]; exact nI_1 k) (by omega) (by omega) eg1 hv1 (by omega) X M (lv_sub hl [2, 3, 4, 5, 6, 1, 0] rfl)
        exact lp (T - d + 1) d (bI g0) i1 0 ls _ _ _ e1 (Nat.le_refl _) (by omega) (by rw [Nat.sub_self]; simp [dgB]) (fun _ => by rw [Nat.sub_self]; rfl) (Nat.lt_succ_self _) X M (lv_sub hl [2, 3, 4, 5, 6, 1, 0] rfl)
      refine lv_aload_n hx hb d_MenuScreensModel_number_50 rfl (lv_at hl 0 rfl) ?_
      refine mm_get C X M 10 f_12_142_13 (.int (nI T)) rfl d_MenuScreensModel_number_51 ?_
      refine lv_iload hx hb d_MenuScreensModel_number_54 (lv_at hl 4 rfl) ?_
      refine lv_icmp_le (tgt := 75) hx hb d_MenuScreensModel_number_56 (by decide) (fun c11 => ?_) (fun c11 => ?_)
      · skip
        refine lv_iconst (v := 0) hx hb d_MenuScreensModel_number_75 (by decide) ?_
        have eb : g0 = false := by
          have : ¬ d < T := fun q => absurd (by rw [e1]; exact nI_lt q (by omega)) (Int32.not_lt.mpr c11)
          rw [hg0, decide_eq_false this]; rfl
        rw [show (0 : Int32) = bI g0 by rw [eb]; rfl]
        exact j76 ls (lv_sub hl [0, 1, 2, 3, 4] rfl)
      · skip
        refine lv_aload_n hx hb d_MenuScreensModel_number_59 rfl (lv_at hl 0 rfl) ?_
        refine mm_get C X M 10 f_12_142_13 (.int (nI T)) rfl d_MenuScreensModel_number_60 ?_
        refine lv_iload hx hb d_MenuScreensModel_number_63 (lv_at hl 4 rfl) ?_
        refine lv_isub hx hb d_MenuScreensModel_number_65 ?_
        refine lv_bipush (v := 7) hx hb d_MenuScreensModel_number_66 (by decide) ?_
        refine lv_icmp_ge (tgt := 75) hx hb d_MenuScreensModel_number_68 (by decide) (fun c12 => ?_) (fun c12 => ?_)
        · skip
          refine lv_iconst (v := 0) hx hb d_MenuScreensModel_number_75 (by decide) ?_
          have hdT : d < T := by
            rcases Nat.lt_or_ge d T with q | q
            · exact q
            · exact absurd (by rw [e1]; exact nI_le q (by omega)) c11
          have eb : g0 = false := by
            rw [hg0, decide_eq_true hdT, Bool.true_and, decide_eq_false_iff_not]
            intro q
            exact absurd (by rw [hTd (by omega)]; exact nI_lt (b := 7) q (by decide)) (Int32.not_lt.mpr c12)
          rw [show (0 : Int32) = bI g0 by rw [eb]; rfl]
          exact j76 ls (lv_sub hl [0, 1, 2, 3, 4] rfl)
        · skip
          refine lv_iconst (v := 1) hx hb d_MenuScreensModel_number_71 (by decide) ?_
          refine lv_goto (tgt := 76) hx hb d_MenuScreensModel_number_72 (by decide) ?_
          have hdT : d < T := by
            rcases Nat.lt_or_ge d T with q | q
            · exact q
            · exact absurd (by rw [e1]; exact nI_le q (by omega)) c11
          have eb : g0 = true := by
            rw [hg0, decide_eq_true hdT, Bool.true_and, decide_eq_true_eq]
            rcases Nat.lt_or_ge (T - d) 7 with q | q
            · exact q
            · exact absurd (by rw [hTd (by omega)]; exact nI_le (a := 7) q (by omega)) c12
          rw [show (1 : Int32) = bI g0 by rw [eb]; rfl]
          exact j76 ls (lv_sub hl [0, 1, 2, 3, 4] rfl)
    refine lv_aload_n hx hb d_MenuScreensModel_number_9 rfl (lv_at hl 0 rfl) ?_
    refine mm_get C X M 6 f_12_13_13 (.ref (ar 6)) rfl d_MenuScreensModel_number_10 ?_
    refine lv_aload_n hx hb d_MenuScreensModel_number_13 rfl (lv_at hl 0 rfl) ?_
    refine mm_get C X M 9 f_12_139_13 (.int (nI F)) rfl d_MenuScreensModel_number_14 ?_
    refine mm_iald C X M 6 4000 rfl (A 6) rfl (by decide) F rfl (by omega) d_MenuScreensModel_number_17 ?_
    refine lv_bipush (v := 45) hx hb d_MenuScreensModel_number_18 (by decide) ?_
    refine lv_icmp_ne (tgt := 27) hx hb d_MenuScreensModel_number_20 (by decide) (fun c13 => ?_) (fun c13 => ?_)
    · skip
      refine lv_iconst (v := 0) hx hb d_MenuScreensModel_number_27 (by decide) ?_
      refine lv_istore (lv' := [(5, .int 0), (0, .ref a), (1, .long p1), (3, .long p2)]) hx hb d_MenuScreensModel_number_28 hl (by decide) rfl (fun ls hl => ?_)
      refine lv_iload hx hb d_MenuScreensModel_number_30 (lv_at hl 0 rfl) ?_
      refine lv_if_eq (tgt := 44) hx hb d_MenuScreensModel_number_32 (by decide) (fun c14 => ?_) (fun z => absurd rfl z)
      refine lv_aload_n hx hb d_MenuScreensModel_number_44 rfl (lv_at hl 1 rfl) ?_
      refine mm_get C X M 9 f_12_139_13 (.int (nI F)) rfl d_MenuScreensModel_number_45 ?_
      refine lv_istore (lv' := [(6, .int (nI F)), (5, .int 0), (0, .ref a), (1, .long p1), (3, .long p2)]) hx hb d_MenuScreensModel_number_48 hl (by decide) rfl (fun ls hl => ?_)
      exact j50 0 (nI F) ls  (by rw [decide_eq_false c13]; rfl) (by rw [hd, dg1, if_neg c13]) (lv_sub hl [2, 3, 4, 1, 0] rfl)
    · skip
      refine lv_iconst (v := 1) hx hb d_MenuScreensModel_number_23 (by decide) ?_
      refine lv_goto (tgt := 28) hx hb d_MenuScreensModel_number_24 (by decide) ?_
      refine lv_istore (lv' := [(5, .int 1), (0, .ref a), (1, .long p1), (3, .long p2)]) hx hb d_MenuScreensModel_number_28 hl (by decide) rfl (fun ls hl => ?_)
      refine lv_iload hx hb d_MenuScreensModel_number_30 (lv_at hl 0 rfl) ?_
      refine lv_if_eq (tgt := 44) hx hb d_MenuScreensModel_number_32 (by decide) (fun z => absurd z (by decide)) (fun c15 => ?_)
      refine lv_aload_n hx hb d_MenuScreensModel_number_35 rfl (lv_at hl 1 rfl) ?_
      refine mm_get C X M 9 f_12_139_13 (.int (nI F)) rfl d_MenuScreensModel_number_36 ?_
      refine lv_iconst (v := 1) hx hb d_MenuScreensModel_number_39 (by decide) ?_
      refine lv_iadd hx hb d_MenuScreensModel_number_40 ?_
      refine lv_goto (tgt := 48) hx hb d_MenuScreensModel_number_41 (by decide) ?_
      refine lv_istore (lv' := [(6, .int ((nI F) + 1)), (5, .int 1), (0, .ref a), (1, .long p1), (3, .long p2)]) hx hb d_MenuScreensModel_number_48 hl (by decide) rfl (fun ls hl => ?_)
      exact j50 1 ((nI F) + 1) ls  (by rw [decide_eq_true c13]; rfl) (by rw [hd, dg1, if_pos c13]; exact nI_1 F) (lv_sub hl [2, 3, 4, 1, 0] rfl)
  · skip
    refine lv_iconst (v := 0) hx hb d_MenuScreensModel_number_7 (by decide) ?_
    exact mq_iret hQ C X hr rfl hlk (⟨_, _, M, rfl, fun k hk => rfl, fun z => absurd z (by decide), by
        have q : ¬ (nF (A 6) e0 i0) < (nT (A 6) e0 i0) := fun q => absurd ((er1.trans (if_pos q)).symm.trans c2) (by decide)
        rw [decide_eq_false q]; rfl⟩) (Nat.le_refl _) (Nat.le_refl _) d_MenuScreensModel_number_8
