theorem d_MenuScreensModel_addValue_0 : decode prog_13_method_15_code 0 = .ok (.aload_n 0, 1) := by decide +kernel
theorem d_MenuScreensModel_addValue_1 : decode prog_13_method_15_code 1 = .ok (.invokevirtual 205, 3) := by decide +kernel
theorem d_MenuScreensModel_addValue_4 : decode prog_13_method_15_code 4 = .ok (.ifCond .eq 19, 3) := by decide +kernel
theorem d_MenuScreensModel_addValue_7 : decode prog_13_method_15_code 7 = .ok (.aload_n 0, 1) := by decide +kernel
theorem d_MenuScreensModel_addValue_8 : decode prog_13_method_15_code 8 = .ok (.invokevirtual 208, 3) := by decide +kernel
theorem d_MenuScreensModel_addValue_11 : decode prog_13_method_15_code 11 = .ok (.ifCond .gt 12, 3) := by decide +kernel
theorem d_MenuScreensModel_addValue_14 : decode prog_13_method_15_code 14 = .ok (.aload_n 0, 1) := by decide +kernel
theorem d_MenuScreensModel_addValue_15 : decode prog_13_method_15_code 15 = .ok (.getfield 162, 3) := by decide +kernel
theorem d_MenuScreensModel_addValue_18 : decode prog_13_method_15_code 18 = .ok (.bipush 40, 2) := by decide +kernel
theorem d_MenuScreensModel_addValue_20 : decode prog_13_method_15_code 20 = .ok (.if_icmp .ne 5, 3) := by decide +kernel
theorem d_MenuScreensModel_addValue_23 : decode prog_13_method_15_code 23 = .ok (.iconst 0, 1) := by decide +kernel
theorem d_MenuScreensModel_addValue_24 : decode prog_13_method_15_code 24 = .ok (.ireturn, 1) := by decide +kernel
theorem d_MenuScreensModel_addValue_25 : decode prog_13_method_15_code 25 = .ok (.aload_n 0, 1) := by decide +kernel
theorem d_MenuScreensModel_addValue_26 : decode prog_13_method_15_code 26 = .ok (.getfield 139, 3) := by decide +kernel
theorem d_MenuScreensModel_addValue_29 : decode prog_13_method_15_code 29 = .ok (.istore_n 2, 1) := by decide +kernel
theorem d_MenuScreensModel_addValue_30 : decode prog_13_method_15_code 30 = .ok (.aload_n 0, 1) := by decide +kernel
theorem d_MenuScreensModel_addValue_31 : decode prog_13_method_15_code 31 = .ok (.getfield 142, 3) := by decide +kernel
theorem d_MenuScreensModel_addValue_34 : decode prog_13_method_15_code 34 = .ok (.istore_n 3, 1) := by decide +kernel
theorem d_MenuScreensModel_addValue_35 : decode prog_13_method_15_code 35 = .ok (.lconst 0, 1) := by decide +kernel
theorem d_MenuScreensModel_addValue_36 : decode prog_13_method_15_code 36 = .ok (.lstore 4, 2) := by decide +kernel
theorem d_MenuScreensModel_addValue_38 : decode prog_13_method_15_code 38 = .ok (.lconst 0, 1) := by decide +kernel
theorem d_MenuScreensModel_addValue_39 : decode prog_13_method_15_code 39 = .ok (.lstore 6, 2) := by decide +kernel
theorem d_MenuScreensModel_addValue_41 : decode prog_13_method_15_code 41 = .ok (.lconst 0, 1) := by decide +kernel
theorem d_MenuScreensModel_addValue_42 : decode prog_13_method_15_code 42 = .ok (.lstore 8, 2) := by decide +kernel
theorem d_MenuScreensModel_addValue_44 : decode prog_13_method_15_code 44 = .ok (.iload_n 1, 1) := by decide +kernel
theorem d_MenuScreensModel_addValue_45 : decode prog_13_method_15_code 45 = .ok (.ifCond .eq 63, 3) := by decide +kernel
theorem d_MenuScreensModel_addValue_48 : decode prog_13_method_15_code 48 = .ok (.aload_n 0, 1) := by decide +kernel
theorem d_MenuScreensModel_addValue_49 : decode prog_13_method_15_code 49 = .ok (.ldc2_w 212, 3) := by decide +kernel
theorem d_MenuScreensModel_addValue_52 : decode prog_13_method_15_code 52 = .ok (.ldc2_w 214, 3) := by decide +kernel
theorem d_MenuScreensModel_addValue_55 : decode prog_13_method_15_code 55 = .ok (.invokevirtual 199, 3) := by decide +kernel
theorem d_MenuScreensModel_addValue_58 : decode prog_13_method_15_code 58 = .ok (.ifCond .ne 5, 3) := by decide +kernel
theorem d_MenuScreensModel_addValue_61 : decode prog_13_method_15_code 61 = .ok (.iconst 0, 1) := by decide +kernel
theorem d_MenuScreensModel_addValue_62 : decode prog_13_method_15_code 62 = .ok (.ireturn, 1) := by decide +kernel
theorem d_MenuScreensModel_addValue_63 : decode prog_13_method_15_code 63 = .ok (.aload_n 0, 1) := by decide +kernel
theorem d_MenuScreensModel_addValue_64 : decode prog_13_method_15_code 64 = .ok (.getfield 152, 3) := by decide +kernel
theorem d_MenuScreensModel_addValue_67 : decode prog_13_method_15_code 67 = .ok (.lstore 4, 2) := by decide +kernel
theorem d_MenuScreensModel_addValue_69 : decode prog_13_method_15_code 69 = .ok (.aload_n 0, 1) := by decide +kernel
theorem d_MenuScreensModel_addValue_70 : decode prog_13_method_15_code 70 = .ok (.lload 4, 2) := by decide +kernel
theorem d_MenuScreensModel_addValue_72 : decode prog_13_method_15_code 72 = .ok (.ldc2_w 214, 3) := by decide +kernel
theorem d_MenuScreensModel_addValue_75 : decode prog_13_method_15_code 75 = .ok (.invokevirtual 199, 3) := by decide +kernel
theorem d_MenuScreensModel_addValue_78 : decode prog_13_method_15_code 78 = .ok (.ifCond .ne 5, 3) := by decide +kernel
theorem d_MenuScreensModel_addValue_81 : decode prog_13_method_15_code 81 = .ok (.iconst 0, 1) := by decide +kernel
theorem d_MenuScreensModel_addValue_82 : decode prog_13_method_15_code 82 = .ok (.ireturn, 1) := by decide +kernel
theorem d_MenuScreensModel_addValue_83 : decode prog_13_method_15_code 83 = .ok (.aload_n 0, 1) := by decide +kernel
theorem d_MenuScreensModel_addValue_84 : decode prog_13_method_15_code 84 = .ok (.getfield 152, 3) := by decide +kernel
theorem d_MenuScreensModel_addValue_87 : decode prog_13_method_15_code 87 = .ok (.lstore 6, 2) := by decide +kernel
theorem d_MenuScreensModel_addValue_89 : decode prog_13_method_15_code 89 = .ok (.aload_n 0, 1) := by decide +kernel
theorem d_MenuScreensModel_addValue_90 : decode prog_13_method_15_code 90 = .ok (.lload 4, 2) := by decide +kernel
theorem d_MenuScreensModel_addValue_92 : decode prog_13_method_15_code 92 = .ok (.lload 6, 2) := by decide +kernel
theorem d_MenuScreensModel_addValue_94 : decode prog_13_method_15_code 94 = .ok (.invokevirtual 199, 3) := by decide +kernel
theorem d_MenuScreensModel_addValue_97 : decode prog_13_method_15_code 97 = .ok (.ifCond .ne 5, 3) := by decide +kernel
theorem d_MenuScreensModel_addValue_100 : decode prog_13_method_15_code 100 = .ok (.iconst 0, 1) := by decide +kernel
theorem d_MenuScreensModel_addValue_101 : decode prog_13_method_15_code 101 = .ok (.ireturn, 1) := by decide +kernel
theorem d_MenuScreensModel_addValue_102 : decode prog_13_method_15_code 102 = .ok (.aload_n 0, 1) := by decide +kernel
theorem d_MenuScreensModel_addValue_103 : decode prog_13_method_15_code 103 = .ok (.getfield 152, 3) := by decide +kernel
theorem d_MenuScreensModel_addValue_106 : decode prog_13_method_15_code 106 = .ok (.lstore 8, 2) := by decide +kernel
theorem d_MenuScreensModel_addValue_108 : decode prog_13_method_15_code 108 = .ok (.aload_n 0, 1) := by decide +kernel
theorem d_MenuScreensModel_addValue_109 : decode prog_13_method_15_code 109 = .ok (.invokevirtual 202, 3) := by decide +kernel
theorem d_MenuScreensModel_addValue_112 : decode prog_13_method_15_code 112 = .ok (.ifCond .ne 5, 3) := by decide +kernel
theorem d_MenuScreensModel_addValue_115 : decode prog_13_method_15_code 115 = .ok (.iconst 0, 1) := by decide +kernel
theorem d_MenuScreensModel_addValue_116 : decode prog_13_method_15_code 116 = .ok (.ireturn, 1) := by decide +kernel
theorem d_MenuScreensModel_addValue_117 : decode prog_13_method_15_code 117 = .ok (.aload_n 0, 1) := by decide +kernel
theorem d_MenuScreensModel_addValue_118 : decode prog_13_method_15_code 118 = .ok (.dup, 1) := by decide +kernel
theorem d_MenuScreensModel_addValue_119 : decode prog_13_method_15_code 119 = .ok (.getfield 162, 3) := by decide +kernel
theorem d_MenuScreensModel_addValue_122 : decode prog_13_method_15_code 122 = .ok (.iconst 1, 1) := by decide +kernel
theorem d_MenuScreensModel_addValue_123 : decode prog_13_method_15_code 123 = .ok (.iadd, 1) := by decide +kernel
theorem d_MenuScreensModel_addValue_124 : decode prog_13_method_15_code 124 = .ok (.putfield 162, 3) := by decide +kernel
theorem d_MenuScreensModel_addValue_127 : decode prog_13_method_15_code 127 = .ok (.aload_n 0, 1) := by decide +kernel
theorem d_MenuScreensModel_addValue_128 : decode prog_13_method_15_code 128 = .ok (.getfield 16, 3) := by decide +kernel
theorem d_MenuScreensModel_addValue_131 : decode prog_13_method_15_code 131 = .ok (.aload_n 0, 1) := by decide +kernel
theorem d_MenuScreensModel_addValue_132 : decode prog_13_method_15_code 132 = .ok (.getfield 162, 3) := by decide +kernel
theorem d_MenuScreensModel_addValue_135 : decode prog_13_method_15_code 135 = .ok (.iload_n 2, 1) := by decide +kernel
theorem d_MenuScreensModel_addValue_136 : decode prog_13_method_15_code 136 = .ok (.iastore, 1) := by decide +kernel
theorem d_MenuScreensModel_addValue_137 : decode prog_13_method_15_code 137 = .ok (.aload_n 0, 1) := by decide +kernel
theorem d_MenuScreensModel_addValue_138 : decode prog_13_method_15_code 138 = .ok (.getfield 19, 3) := by decide +kernel
theorem d_MenuScreensModel_addValue_141 : decode prog_13_method_15_code 141 = .ok (.aload_n 0, 1) := by decide +kernel
theorem d_MenuScreensModel_addValue_142 : decode prog_13_method_15_code 142 = .ok (.getfield 162, 3) := by decide +kernel
theorem d_MenuScreensModel_addValue_145 : decode prog_13_method_15_code 145 = .ok (.iload_n 3, 1) := by decide +kernel
theorem d_MenuScreensModel_addValue_146 : decode prog_13_method_15_code 146 = .ok (.iastore, 1) := by decide +kernel
theorem d_MenuScreensModel_addValue_147 : decode prog_13_method_15_code 147 = .ok (.aload_n 0, 1) := by decide +kernel
theorem d_MenuScreensModel_addValue_148 : decode prog_13_method_15_code 148 = .ok (.getfield 22, 3) := by decide +kernel
theorem d_MenuScreensModel_addValue_151 : decode prog_13_method_15_code 151 = .ok (.aload_n 0, 1) := by decide +kernel
theorem d_MenuScreensModel_addValue_152 : decode prog_13_method_15_code 152 = .ok (.getfield 162, 3) := by decide +kernel
theorem d_MenuScreensModel_addValue_155 : decode prog_13_method_15_code 155 = .ok (.iload_n 1, 1) := by decide +kernel
theorem d_MenuScreensModel_addValue_156 : decode prog_13_method_15_code 156 = .ok (.bastore, 1) := by decide +kernel
theorem d_MenuScreensModel_addValue_157 : decode prog_13_method_15_code 157 = .ok (.aload_n 0, 1) := by decide +kernel
theorem d_MenuScreensModel_addValue_158 : decode prog_13_method_15_code 158 = .ok (.getfield 26, 3) := by decide +kernel
theorem d_MenuScreensModel_addValue_161 : decode prog_13_method_15_code 161 = .ok (.aload_n 0, 1) := by decide +kernel
theorem d_MenuScreensModel_addValue_162 : decode prog_13_method_15_code 162 = .ok (.getfield 162, 3) := by decide +kernel
theorem d_MenuScreensModel_addValue_165 : decode prog_13_method_15_code 165 = .ok (.lload 4, 2) := by decide +kernel
theorem d_MenuScreensModel_addValue_167 : decode prog_13_method_15_code 167 = .ok (.lastore, 1) := by decide +kernel
theorem d_MenuScreensModel_addValue_168 : decode prog_13_method_15_code 168 = .ok (.aload_n 0, 1) := by decide +kernel
theorem d_MenuScreensModel_addValue_169 : decode prog_13_method_15_code 169 = .ok (.getfield 30, 3) := by decide +kernel
theorem d_MenuScreensModel_addValue_172 : decode prog_13_method_15_code 172 = .ok (.aload_n 0, 1) := by decide +kernel
theorem d_MenuScreensModel_addValue_173 : decode prog_13_method_15_code 173 = .ok (.getfield 162, 3) := by decide +kernel
theorem d_MenuScreensModel_addValue_176 : decode prog_13_method_15_code 176 = .ok (.lload 6, 2) := by decide +kernel
theorem d_MenuScreensModel_addValue_178 : decode prog_13_method_15_code 178 = .ok (.lastore, 1) := by decide +kernel
theorem d_MenuScreensModel_addValue_179 : decode prog_13_method_15_code 179 = .ok (.aload_n 0, 1) := by decide +kernel
theorem d_MenuScreensModel_addValue_180 : decode prog_13_method_15_code 180 = .ok (.getfield 33, 3) := by decide +kernel
theorem d_MenuScreensModel_addValue_183 : decode prog_13_method_15_code 183 = .ok (.aload_n 0, 1) := by decide +kernel
theorem d_MenuScreensModel_addValue_184 : decode prog_13_method_15_code 184 = .ok (.getfield 162, 3) := by decide +kernel
theorem d_MenuScreensModel_addValue_187 : decode prog_13_method_15_code 187 = .ok (.lload 8, 2) := by decide +kernel
theorem d_MenuScreensModel_addValue_189 : decode prog_13_method_15_code 189 = .ok (.lastore, 1) := by decide +kernel
theorem d_MenuScreensModel_addValue_190 : decode prog_13_method_15_code 190 = .ok (.aload_n 0, 1) := by decide +kernel
theorem d_MenuScreensModel_addValue_191 : decode prog_13_method_15_code 191 = .ok (.getfield 36, 3) := by decide +kernel
theorem d_MenuScreensModel_addValue_194 : decode prog_13_method_15_code 194 = .ok (.aload_n 0, 1) := by decide +kernel
theorem d_MenuScreensModel_addValue_195 : decode prog_13_method_15_code 195 = .ok (.getfield 162, 3) := by decide +kernel
theorem d_MenuScreensModel_addValue_198 : decode prog_13_method_15_code 198 = .ok (.iload_n 1, 1) := by decide +kernel
theorem d_MenuScreensModel_addValue_199 : decode prog_13_method_15_code 199 = .ok (.bastore, 1) := by decide +kernel
theorem d_MenuScreensModel_addValue_200 : decode prog_13_method_15_code 200 = .ok (.iconst 1, 1) := by decide +kernel
theorem d_MenuScreensModel_addValue_201 : decode prog_13_method_15_code 201 = .ok (.ireturn, 1) := by decide +kernel
set_option maxRecDepth 100000 in
set_option maxHeartbeats 4000000 in
theorem cm_MenuScreensModel_addValue {l : Launch} {S0 : State} {b : Nat} {D : va_G} {dT : Nat → ClassId} (hE : vEnv S0 b D dT) {h0 : vH} {a : Nat} {ar : Nat → Nat} {x : Nat → Int32} {y : Nat → Int64} {A : Nat → Nat → Int32} {B : Nat → Nat → Int64} (M : MV S0 dT h0 a ar x y A B) (p1 : Int32) {i0 e0 : Nat} (hat : x 7 = nI i0) (hend : x 8 = nI e0) (hle : i0 ≤ e0) (he : e0 ≤ 4000) {nv : Nat} (hnv : x 12 = nI nv) (hnv2 : nv ≤ 40) (hRV : ∀ v, 1 ≤ v → v ≤ nv → ∃ p q, A 13 v = nI p ∧ A 14 v = nI q ∧ p ≤ q ∧ q ≤ 4000) (hb1 : vp_nar .boolean p1 = p1) : vMi l S0 D vcl GT y_MenuScreensModel_addValue prog_13_method_15_code 10 (some .boolean) 3 100 0 0 [.ref a, .int p1] h0 (fun r h' => ∃ x' y' A' B', MR S0 dT h0 h' a ar x' y' A' B' ∧ (∀ k, k ≠ 7 → k ≠ 9 → k ≠ 10 → k ≠ 12 → x' k = x k) ∧ (∀ k, k ≠ 11 → y' k = y k) ∧ (okVa A e0 i0 nv p1 = true ∧ r = 1 ∧ x' 12 = nI (nv + 1) ∧ A' = va_up (va_up (va_up (va_up A 13 (upd (A 13) (nv + 1) (nI (nF (A 6) e0 i0)))) 14 (upd (A 14) (nv + 1) (nI (nT (A 6) e0 i0)))) 15 (upd (A 15) (nv + 1) p1)) 19 (upd (A 19) (nv + 1) p1) ∧ B' = va_up (va_up (va_up B 16 (vp_updL (B 16) (nv + 1) (if p1 = 0 then 0 else (vNu (A 6) e0 (nT (A 6) e0 i0))))) 17 (vp_updL (B 17) (nv + 1) (if p1 = 0 then 0 else (vNu (A 6) e0 (nT2 (A 6) e0 i0))))) 18 (vp_updL (B 18) (nv + 1) (if p1 = 0 then 0 else (vNu (A 6) e0 (nT3 (A 6) e0 i0)))) ∨ okVa A e0 i0 nv p1 = false ∧ r = 0 ∧ x' 12 = x 12 ∧ A' = A ∧ B' = B)) := by
  unfold vMi
  refine vM_ofQ hE.1 (by decide) (Nat.le_of_ble_eq_true rfl) (fun p e s m args below meth c ls Q hQ C hr hlk hnm X hl => ?_)
  have C : vC p s m _ c _ _ "MenuScreensModel" GT D vcl (vty dT) := C
  have hx := C.1.1
  have hb := C.1.2.1
  replace M := MR.of M
  obtain ⟨H, eH⟩ : ∃ z, z = s.heap := ⟨_, rfl⟩
  obtain ⟨locs, elocs⟩ : ∃ z : List Loc, z = [] := ⟨_, rfl⟩
  rw [← eH, ← elocs] at X
  rw [← eH, ← elocs]
  clear eH elocs
  have hl : lv_has ls 10 [(0, .ref a), (1, .int p1)] := hl
  refine lv_aload_n hx hb d_MenuScreensModel_addValue_0 rfl (lv_at hl 0 rfl) ?_
  refine mv_bi X (mv_rV (rest := []) (As := []) gt_good C X k_12_205 (cm_MenuScreensModel_name hE M.1 (i0 := i0) (e0 := e0) hat hend hle he) M.1.1 rfl rfl ⟨by decide, by decide⟩ rfl hl.1 rfl (Nat.le_of_ble_eq_true rfl) d_MenuScreensModel_addValue_1 ⟨Nat.le_refl _, Nat.le_refl _⟩) (fun r1 hN H locs hp X => ?_)
  obtain ⟨x1, M1, rfl, er1⟩ := hp
  replace M := M.trans M1
  replace er1 : r1 = bI (cNm (A 6) e0 i0) := er1
  have hT1 := (nT_in (A 6) hle)
  have hT2 : (nT2 (A 6) e0 i0) ≤ e0 := (nT_in (A 6) hT1.2).2
  have hT3 : (nT3 (A 6) e0 i0) ≤ e0 := (nT_in (A 6) hT2).2
  have hT4 : (nT4 (A 6) e0 i0) ≤ e0 := (nT_in (A 6) hT3).2
  refine lv_if_eq (tgt := 23) hx hb d_MenuScreensModel_addValue_4 (by decide) (fun c2 => ?_) (fun c2 => ?_)
  · skip
    refine lv_iconst (v := 0) hx hb d_MenuScreensModel_addValue_23 (by decide) ?_
    exact mq_iret hQ C X hr rfl hlk (⟨(upd (upd (upd x 7 (nI (nT (A 6) e0 i0))) 9 (nI (nF (A 6) e0 i0))) 10 (nI (nT (A 6) e0 i0))), y, A, B, M, (fun k q7 q9 q10 q12 => by simp [upd, q7, q9, q10, q12]), (fun k q11 => rfl), Or.inr ⟨by unfold okVa; rw [show cNm (A 6) e0 i0 = false from bI_0 (er1.symm.trans c2)]; rfl, rfl, rfl, rfl, rfl⟩⟩) (Nat.le_refl _) (Nat.le_refl _) d_MenuScreensModel_addValue_24
  · skip
    refine lv_aload_n hx hb d_MenuScreensModel_addValue_7 rfl (lv_at hl 0 rfl) ?_
    have a1 : cNm (A 6) e0 i0 = true := bI_n (fun z => c2 (er1.trans z))
    refine mv_bi X (mv_rV (rest := []) (As := []) gt_good C X k_12_208 (cm_MenuScreensModel_findValue hE M.1 (n := nv) hnv hnv2 hRV (F := (nF (A 6) e0 i0)) (T := (nT (A 6) e0 i0)) rfl rfl hT1.1 (by omega)) M.1.1 rfl rfl ⟨by decide, by decide⟩ rfl hl.1 rfl (Nat.le_of_ble_eq_true rfl) d_MenuScreensModel_addValue_8 ⟨Nat.le_refl _, Nat.le_refl _⟩) (fun r3 hN H locs hp X => ?_)
    obtain ⟨ehr3, er3⟩ := hp
    rw [ehr3] at X
    replace er3 : r3 = nI (fV A nv (nF (A 6) e0 i0) (nT (A 6) e0 i0)) := er3
    have hfv : fV A nv (nF (A 6) e0 i0) (nT (A 6) e0 i0) ≤ 1 + nv := fnd_le _ _ _
    refine lv_if_gt (tgt := 23) hx hb d_MenuScreensModel_addValue_11 (by decide) (fun c4 => ?_) (fun c4 => ?_)
    · skip
      refine lv_iconst (v := 0) hx hb d_MenuScreensModel_addValue_23 (by decide) ?_
      exact mq_iret hQ C X hr rfl hlk (⟨(upd (upd (upd x 7 (nI (nT (A 6) e0 i0))) 9 (nI (nF (A 6) e0 i0))) 10 (nI (nT (A 6) e0 i0))), y, A, B, M, (fun k q7 q9 q10 q12 => by simp [upd, q7, q9, q10, q12]), (fun k q11 => rfl), Or.inr ⟨by unfold okVa; rw [decide_eq_false (p := fV A nv (nF (A 6) e0 i0) (nT (A 6) e0 i0) = 0) (fun z => by have := c4; rw [er3, z] at this; exact absurd this (by decide))]; simp, rfl, rfl, rfl, rfl⟩⟩) (Nat.le_refl _) (Nat.le_refl _) d_MenuScreensModel_addValue_24
    · skip
      have a2 : fV A nv (nF (A 6) e0 i0) (nT (A 6) e0 i0) = 0 := by
        rcases Nat.eq_zero_or_pos (fV A nv (nF (A 6) e0 i0) (nT (A 6) e0 i0)) with q | q
        · exact q
        · exact absurd (by rw [er3]; exact nI_lt (a := 0) q (by omega)) c4
      refine lv_aload_n hx hb d_MenuScreensModel_addValue_14 rfl (lv_at hl 0 rfl) ?_
      refine mm_get C X M 12 f_12_162_13 (.int (x 12)) rfl d_MenuScreensModel_addValue_15 ?_
      refine lv_bipush (v := 40) hx hb d_MenuScreensModel_addValue_18 (by decide) ?_
      refine lv_icmp_ne (tgt := 25) hx hb d_MenuScreensModel_addValue_20 (by decide) (fun c5 => ?_) (fun c5 => ?_)
      · skip
        have a3 : nv ≠ 40 := fun z => c5 (by rw [hnv, z]; rfl)
        refine lv_aload_n hx hb d_MenuScreensModel_addValue_25 rfl (lv_at hl 0 rfl) ?_
        refine mm_get C X M 9 f_12_139_13 (.int (nI (nF (A 6) e0 i0))) rfl d_MenuScreensModel_addValue_26 ?_
        refine lv_istore_n (lv' := [(2, .int (nI (nF (A 6) e0 i0))), (0, .ref a), (1, .int p1)]) hx hb d_MenuScreensModel_addValue_29 rfl hl (by decide) rfl (fun ls hl => ?_)
        refine lv_aload_n hx hb d_MenuScreensModel_addValue_30 rfl (lv_at hl 1 rfl) ?_
        refine mm_get C X M 10 f_12_142_13 (.int (nI (nT (A 6) e0 i0))) rfl d_MenuScreensModel_addValue_31 ?_
        refine lv_istore_n (lv' := [(3, .int (nI (nT (A 6) e0 i0))), (2, .int (nI (nF (A 6) e0 i0))), (0, .ref a), (1, .int p1)]) hx hb d_MenuScreensModel_addValue_34 rfl hl (by decide) rfl (fun ls hl => ?_)
        refine lv_lconst (v := 0) hx hb d_MenuScreensModel_addValue_35 (by decide) ?_
        refine lv_lstore (lv' := [(4, .long 0), (3, .int (nI (nT (A 6) e0 i0))), (2, .int (nI (nF (A 6) e0 i0))), (0, .ref a), (1, .int p1)]) hx hb d_MenuScreensModel_addValue_36 hl (by decide) rfl (fun ls hl => ?_)
        refine lv_lconst (v := 0) hx hb d_MenuScreensModel_addValue_38 (by decide) ?_
        refine lv_lstore (lv' := [(6, .long 0), (4, .long 0), (3, .int (nI (nT (A 6) e0 i0))), (2, .int (nI (nF (A 6) e0 i0))), (0, .ref a), (1, .int p1)]) hx hb d_MenuScreensModel_addValue_39 hl (by decide) rfl (fun ls hl => ?_)
        refine lv_lconst (v := 0) hx hb d_MenuScreensModel_addValue_41 (by decide) ?_
        refine lv_lstore (lv' := [(8, .long 0), (6, .long 0), (4, .long 0), (3, .int (nI (nT (A 6) e0 i0))), (2, .int (nI (nF (A 6) e0 i0))), (0, .ref a), (1, .int p1)]) hx hb d_MenuScreensModel_addValue_42 hl (by decide) rfl (fun ls hl => ?_)
        refine lv_iload_n hx hb d_MenuScreensModel_addValue_44 rfl (lv_at hl 6 rfl) ?_
        refine lv_if_eq (tgt := 108) hx hb d_MenuScreensModel_addValue_45 (by decide) (fun c6 => ?_) (fun c6 => ?_)
        · skip
          refine lv_aload_n hx hb d_MenuScreensModel_addValue_108 rfl (lv_at hl 5 rfl) ?_
          refine mv_bi X (mv_rV (rest := []) (As := []) gt_good C X k_12_202 (cm_MenuScreensModel_through hE M.1 (i0 := (nT (A 6) e0 i0)) (e0 := e0) rfl hend hT1.2 he) M.1.1 rfl rfl ⟨by decide, by decide⟩ rfl hl.1 rfl (Nat.le_of_ble_eq_true rfl) d_MenuScreensModel_addValue_109 ⟨Nat.le_refl _, Nat.le_refl _⟩) (fun r7 hN H locs hp X => ?_)
          obtain ⟨x1, M1, rfl, er7⟩ := hp
          replace M := M.trans M1
          replace er7 : r7 = bI (cEnd (A 6) e0 (nT (A 6) e0 i0)) := er7
          refine lv_if_ne (tgt := 117) hx hb d_MenuScreensModel_addValue_112 (by decide) (fun c8 => ?_) (fun c8 => ?_)
          · skip
            have a4 : cEnd (A 6) e0 (nT (A 6) e0 i0) = true := bI_n (fun z => c8 (er7.trans z))
            have e12 : x 12 + 1 = nI (nv + 1) := by rw [hnv]; exact nI_1 nv
            refine lv_aload_n hx hb d_MenuScreensModel_addValue_117 rfl (lv_at hl 5 rfl) ?_
            refine lv_dup hx hb d_MenuScreensModel_addValue_118 rfl ?_
            refine mm_get C X M 12 f_12_162_13 (.int (x 12)) rfl d_MenuScreensModel_addValue_119 ?_
            refine lv_iconst (v := 1) hx hb d_MenuScreensModel_addValue_122 (by decide) ?_
            refine lv_iadd hx hb d_MenuScreensModel_addValue_123 ?_
            refine mm_put C X M 12 p_12_162_13 (upd (upd (upd (upd x 7 (nI (nT (A 6) e0 (nT (A 6) e0 i0)))) 9 (nI (nF (A 6) e0 (nT (A 6) e0 i0)))) 10 (nI (nT (A 6) e0 (nT (A 6) e0 i0)))) 12 ((x 12) + 1)) y rfl rfl rfl (by decide) d_MenuScreensModel_addValue_124 (fun h H locs X M => ?_)
            refine lv_aload_n hx hb d_MenuScreensModel_addValue_127 rfl (lv_at hl 5 rfl) ?_
            refine mm_get C X M 13 f_12_16_13 (.ref (ar 13)) rfl d_MenuScreensModel_addValue_128 ?_
            refine lv_aload_n hx hb d_MenuScreensModel_addValue_131 rfl (lv_at hl 5 rfl) ?_
            refine mm_get C X M 12 f_12_162_13 (.int ((x 12) + 1)) rfl d_MenuScreensModel_addValue_132 ?_
            refine lv_iload_n hx hb d_MenuScreensModel_addValue_135 rfl (lv_at hl 4 rfl) ?_
            refine mm_iast C X M 13 41 rfl (A 13) rfl (fun _ => rfl) (by decide) (nv + 1) e12 (by omega) d_MenuScreensModel_addValue_136 (fun h H locs X M => ?_)
            refine lv_aload_n hx hb d_MenuScreensModel_addValue_137 rfl (lv_at hl 5 rfl) ?_
            refine mm_get C X M 14 f_12_19_13 (.ref (ar 14)) rfl d_MenuScreensModel_addValue_138 ?_
            refine lv_aload_n hx hb d_MenuScreensModel_addValue_141 rfl (lv_at hl 5 rfl) ?_
            refine mm_get C X M 12 f_12_162_13 (.int ((x 12) + 1)) rfl d_MenuScreensModel_addValue_142 ?_
            refine lv_iload_n hx hb d_MenuScreensModel_addValue_145 rfl (lv_at hl 3 rfl) ?_
            refine mm_iast C X M 14 41 rfl (A 14) rfl (fun _ => rfl) (by decide) (nv + 1) e12 (by omega) d_MenuScreensModel_addValue_146 (fun h H locs X M => ?_)
            refine lv_aload_n hx hb d_MenuScreensModel_addValue_147 rfl (lv_at hl 5 rfl) ?_
            refine mm_get C X M 15 f_12_22_13 (.ref (ar 15)) rfl d_MenuScreensModel_addValue_148 ?_
            refine lv_aload_n hx hb d_MenuScreensModel_addValue_151 rfl (lv_at hl 5 rfl) ?_
            refine mm_get C X M 12 f_12_162_13 (.int ((x 12) + 1)) rfl d_MenuScreensModel_addValue_152 ?_
            refine lv_iload_n hx hb d_MenuScreensModel_addValue_155 rfl (lv_at hl 6 rfl) ?_
            refine mm_zast C X M 15 41 rfl (A 15) rfl (fun _ => rfl) (by decide) hb1 (nv + 1) e12 (by omega) d_MenuScreensModel_addValue_156 (fun h H locs X M => ?_)
            refine lv_aload_n hx hb d_MenuScreensModel_addValue_157 rfl (lv_at hl 5 rfl) ?_
            refine mm_get C X M 16 f_12_26_13 (.ref (ar 16)) rfl d_MenuScreensModel_addValue_158 ?_
            refine lv_aload_n hx hb d_MenuScreensModel_addValue_161 rfl (lv_at hl 5 rfl) ?_
            refine mm_get C X M 12 f_12_162_13 (.int ((x 12) + 1)) rfl d_MenuScreensModel_addValue_162 ?_
            refine lv_lload hx hb d_MenuScreensModel_addValue_165 (lv_at hl 2 rfl) ?_
            refine mm_last C X M 16 41 rfl (B 16) rfl (fun _ => rfl) (by decide) (nv + 1) e12 (by omega) d_MenuScreensModel_addValue_167 (fun h H locs X M => ?_)
            refine lv_aload_n hx hb d_MenuScreensModel_addValue_168 rfl (lv_at hl 5 rfl) ?_
            refine mm_get C X M 17 f_12_30_13 (.ref (ar 17)) rfl d_MenuScreensModel_addValue_169 ?_
            refine lv_aload_n hx hb d_MenuScreensModel_addValue_172 rfl (lv_at hl 5 rfl) ?_
            refine mm_get C X M 12 f_12_162_13 (.int ((x 12) + 1)) rfl d_MenuScreensModel_addValue_173 ?_
            refine lv_lload hx hb d_MenuScreensModel_addValue_176 (lv_at hl 1 rfl) ?_
            refine mm_last C X M 17 41 rfl (B 17) rfl (fun _ => rfl) (by decide) (nv + 1) e12 (by omega) d_MenuScreensModel_addValue_178 (fun h H locs X M => ?_)
            refine lv_aload_n hx hb d_MenuScreensModel_addValue_179 rfl (lv_at hl 5 rfl) ?_
            refine mm_get C X M 18 f_12_33_13 (.ref (ar 18)) rfl d_MenuScreensModel_addValue_180 ?_
            refine lv_aload_n hx hb d_MenuScreensModel_addValue_183 rfl (lv_at hl 5 rfl) ?_
            refine mm_get C X M 12 f_12_162_13 (.int ((x 12) + 1)) rfl d_MenuScreensModel_addValue_184 ?_
            refine lv_lload hx hb d_MenuScreensModel_addValue_187 (lv_at hl 0 rfl) ?_
            refine mm_last C X M 18 41 rfl (B 18) rfl (fun _ => rfl) (by decide) (nv + 1) e12 (by omega) d_MenuScreensModel_addValue_189 (fun h H locs X M => ?_)
            refine lv_aload_n hx hb d_MenuScreensModel_addValue_190 rfl (lv_at hl 5 rfl) ?_
            refine mm_get C X M 19 f_12_36_13 (.ref (ar 19)) rfl d_MenuScreensModel_addValue_191 ?_
            refine lv_aload_n hx hb d_MenuScreensModel_addValue_194 rfl (lv_at hl 5 rfl) ?_
            refine mm_get C X M 12 f_12_162_13 (.int ((x 12) + 1)) rfl d_MenuScreensModel_addValue_195 ?_
            refine lv_iload_n hx hb d_MenuScreensModel_addValue_198 rfl (lv_at hl 6 rfl) ?_
            refine mm_zast C X M 19 41 rfl (A 19) rfl (fun _ => rfl) (by decide) hb1 (nv + 1) e12 (by omega) d_MenuScreensModel_addValue_199 (fun h H locs X M => ?_)
            refine lv_iconst (v := 1) hx hb d_MenuScreensModel_addValue_200 (by decide) ?_
            exact mq_iret hQ C X hr rfl hlk (⟨(upd (upd (upd (upd x 7 (nI (nT (A 6) e0 (nT (A 6) e0 i0)))) 9 (nI (nF (A 6) e0 (nT (A 6) e0 i0)))) 10 (nI (nT (A 6) e0 (nT (A 6) e0 i0)))) 12 ((x 12) + 1)), y, (va_up (va_up (va_up (va_up A 13 (upd (A 13) (nv + 1) (nI (nF (A 6) e0 i0)))) 14 (upd (A 14) (nv + 1) (nI (nT (A 6) e0 i0)))) 15 (upd (A 15) (nv + 1) p1)) 19 (upd (A 19) (nv + 1) p1)), (va_up (va_up (va_up B 16 (vp_updL (B 16) (nv + 1) 0)) 17 (vp_updL (B 17) (nv + 1) 0)) 18 (vp_updL (B 18) (nv + 1) 0)), M, (fun k q7 q9 q10 q12 => by simp [upd, q7, q9, q10, q12]), (fun k q11 => rfl), Or.inl ⟨by unfold okVa; rw [if_pos c6]; rw [a1, decide_eq_true a2, decide_eq_true a3, a4]; rfl, rfl, e12, rfl, by rw [if_pos c6, if_pos c6, if_pos c6]⟩⟩) (Nat.le_refl _) (Nat.le_refl _) d_MenuScreensModel_addValue_201
          · skip
            refine lv_iconst (v := 0) hx hb d_MenuScreensModel_addValue_115 (by decide) ?_
            exact mq_iret hQ C X hr rfl hlk (⟨(upd (upd (upd x 7 (nI (nT (A 6) e0 (nT (A 6) e0 i0)))) 9 (nI (nF (A 6) e0 (nT (A 6) e0 i0)))) 10 (nI (nT (A 6) e0 (nT (A 6) e0 i0)))), y, A, B, M, (fun k q7 q9 q10 q12 => by simp [upd, q7, q9, q10, q12]), (fun k q11 => rfl), Or.inr ⟨by unfold okVa; rw [if_pos c6]; rw [show cEnd (A 6) e0 (nT (A 6) e0 i0) = false from bI_0 (er7.symm.trans c8)]; simp, rfl, rfl, rfl, rfl⟩⟩) (Nat.le_refl _) (Nat.le_refl _) d_MenuScreensModel_addValue_116
        · skip
          refine lv_aload_n hx hb d_MenuScreensModel_addValue_48 rfl (lv_at hl 5 rfl) ?_
          refine lv_ldc2 (v := (-999999)) hx hb C.1.2.2.2.1 (C.1.2.2.2.2 _ (gt_6 16 (by decide +kernel) rfl)) d_MenuScreensModel_addValue_49 ?_
          refine lv_ldc2 (v := 999999) hx hb C.1.2.2.2.1 (C.1.2.2.2.2 _ (gt_6 17 (by decide +kernel) rfl)) d_MenuScreensModel_addValue_52 ?_
          refine mv_bi X (mv_rV (rest := []) (As := [.long (-999999), .long 999999]) gt_good C X k_12_199 (cm_MenuScreensModel_number hE M.1 _ _ (i0 := (nT (A 6) e0 i0)) (e0 := e0) rfl hend hT1.2 he) M.1.1 rfl rfl ⟨by decide, by decide⟩ rfl hl.1 rfl (Nat.le_of_ble_eq_true rfl) d_MenuScreensModel_addValue_55 ⟨Nat.le_refl _, Nat.le_refl _⟩) (fun r9 hN H locs hp X => ?_)
          obtain ⟨x1, yn10, M1, rfl, kyn10, vyn10, er9⟩ := hp
          replace M := M.trans M1
          replace er9 : r9 = bI (cNu (A 6) e0 (nT (A 6) e0 i0) (-999999) 999999) := er9
          replace vyn10 : r9 = 1 → yn10 11 = vNu (A 6) e0 (nT (A 6) e0 i0) := vyn10
          refine lv_if_ne (tgt := 63) hx hb d_MenuScreensModel_addValue_58 (by decide) (fun c11 => ?_) (fun c11 => ?_)
          · skip
            have b1 : cNu (A 6) e0 (nT (A 6) e0 i0) (-999999) 999999 = true := bI_n (fun z => c11 (er9.trans z))
            have v1 := vyn10 (by rw [er9, b1]; rfl)
            refine lv_aload_n hx hb d_MenuScreensModel_addValue_63 rfl (lv_at hl 5 rfl) ?_
            refine mm_get C X M 11 f_12_152_13 (.long (yn10 11)) rfl d_MenuScreensModel_addValue_64 ?_
            rw [v1]
            skip
            refine lv_lstore (lv' := [(4, .long (vNu (A 6) e0 (nT (A 6) e0 i0))), (8, .long 0), (6, .long 0), (3, .int (nI (nT (A 6) e0 i0))), (2, .int (nI (nF (A 6) e0 i0))), (0, .ref a), (1, .int p1)]) hx hb d_MenuScreensModel_addValue_67 hl (by decide) rfl (fun ls hl => ?_)
            refine lv_aload_n hx hb d_MenuScreensModel_addValue_69 rfl (lv_at hl 5 rfl) ?_
            refine lv_lload hx hb d_MenuScreensModel_addValue_70 (lv_at hl 0 rfl) ?_
            refine lv_ldc2 (v := 999999) hx hb C.1.2.2.2.1 (C.1.2.2.2.2 _ (gt_6 17 (by decide +kernel) rfl)) d_MenuScreensModel_addValue_72 ?_
            refine mv_bi X (mv_rV (rest := []) (As := [.long (vNu (A 6) e0 (nT (A 6) e0 i0)), .long 999999]) gt_good C X k_12_199 (cm_MenuScreensModel_number hE M.1 _ _ (i0 := (nT2 (A 6) e0 i0)) (e0 := e0) rfl hend hT2 he) M.1.1 rfl rfl ⟨by decide, by decide⟩ rfl hl.1 rfl (Nat.le_of_ble_eq_true rfl) d_MenuScreensModel_addValue_75 ⟨Nat.le_refl _, Nat.le_refl _⟩) (fun r12 hN H locs hp X => ?_)
            obtain ⟨x1, yn13, M1, rfl, kyn13, vyn13, er12⟩ := hp
            replace M := M.trans M1
            replace er12 : r12 = bI (cNu (A 6) e0 (nT2 (A 6) e0 i0) (vNu (A 6) e0 (nT (A 6) e0 i0)) 999999) := er12
            replace vyn13 : r12 = 1 → yn13 11 = vNu (A 6) e0 (nT2 (A 6) e0 i0) := vyn13
            refine lv_if_ne (tgt := 83) hx hb d_MenuScreensModel_addValue_78 (by decide) (fun c14 => ?_) (fun c14 => ?_)
            · skip
              have b2 : cNu (A 6) e0 (nT2 (A 6) e0 i0) (vNu (A 6) e0 (nT (A 6) e0 i0)) 999999 = true := bI_n (fun z => c14 (er12.trans z))
              have v2 := vyn13 (by rw [er12, b2]; rfl)
              refine lv_aload_n hx hb d_MenuScreensModel_addValue_83 rfl (lv_at hl 5 rfl) ?_
              refine mm_get C X M 11 f_12_152_13 (.long (yn13 11)) rfl d_MenuScreensModel_addValue_84 ?_
              rw [v2]
              skip
              refine lv_lstore (lv' := [(6, .long (vNu (A 6) e0 (nT2 (A 6) e0 i0))), (4, .long (vNu (A 6) e0 (nT (A 6) e0 i0))), (8, .long 0), (3, .int (nI (nT (A 6) e0 i0))), (2, .int (nI (nF (A 6) e0 i0))), (0, .ref a), (1, .int p1)]) hx hb d_MenuScreensModel_addValue_87 hl (by decide) rfl (fun ls hl => ?_)
              refine lv_aload_n hx hb d_MenuScreensModel_addValue_89 rfl (lv_at hl 5 rfl) ?_
              refine lv_lload hx hb d_MenuScreensModel_addValue_90 (lv_at hl 1 rfl) ?_
              refine lv_lload hx hb d_MenuScreensModel_addValue_92 (lv_at hl 0 rfl) ?_
              refine mv_bi X (mv_rV (rest := []) (As := [.long (vNu (A 6) e0 (nT (A 6) e0 i0)), .long (vNu (A 6) e0 (nT2 (A 6) e0 i0))]) gt_good C X k_12_199 (cm_MenuScreensModel_number hE M.1 _ _ (i0 := (nT3 (A 6) e0 i0)) (e0 := e0) rfl hend hT3 he) M.1.1 rfl rfl ⟨by decide, by decide⟩ rfl hl.1 rfl (Nat.le_of_ble_eq_true rfl) d_MenuScreensModel_addValue_94 ⟨Nat.le_refl _, Nat.le_refl _⟩) (fun r15 hN H locs hp X => ?_)
              obtain ⟨x1, yn16, M1, rfl, kyn16, vyn16, er15⟩ := hp
              replace M := M.trans M1
              replace er15 : r15 = bI (cNu (A 6) e0 (nT3 (A 6) e0 i0) (vNu (A 6) e0 (nT (A 6) e0 i0)) (vNu (A 6) e0 (nT2 (A 6) e0 i0))) := er15
              replace vyn16 : r15 = 1 → yn16 11 = vNu (A 6) e0 (nT3 (A 6) e0 i0) := vyn16
              refine lv_if_ne (tgt := 102) hx hb d_MenuScreensModel_addValue_97 (by decide) (fun c17 => ?_) (fun c17 => ?_)
              · skip
                have b3 : cNu (A 6) e0 (nT3 (A 6) e0 i0) (vNu (A 6) e0 (nT (A 6) e0 i0)) (vNu (A 6) e0 (nT2 (A 6) e0 i0)) = true := bI_n (fun z => c17 (er15.trans z))
                have v3 := vyn16 (by rw [er15, b3]; rfl)
                refine lv_aload_n hx hb d_MenuScreensModel_addValue_102 rfl (lv_at hl 5 rfl) ?_
                refine mm_get C X M 11 f_12_152_13 (.long (yn16 11)) rfl d_MenuScreensModel_addValue_103 ?_
                rw [v3]
                skip
                refine lv_lstore (lv' := [(8, .long (vNu (A 6) e0 (nT3 (A 6) e0 i0))), (6, .long (vNu (A 6) e0 (nT2 (A 6) e0 i0))), (4, .long (vNu (A 6) e0 (nT (A 6) e0 i0))), (3, .int (nI (nT (A 6) e0 i0))), (2, .int (nI (nF (A 6) e0 i0))), (0, .ref a), (1, .int p1)]) hx hb d_MenuScreensModel_addValue_106 hl (by decide) rfl (fun ls hl => ?_)
                refine lv_aload_n hx hb d_MenuScreensModel_addValue_108 rfl (lv_at hl 5 rfl) ?_
                refine mv_bi X (mv_rV (rest := []) (As := []) gt_good C X k_12_202 (cm_MenuScreensModel_through hE M.1 (i0 := (nT4 (A 6) e0 i0)) (e0 := e0) rfl hend hT4 he) M.1.1 rfl rfl ⟨by decide, by decide⟩ rfl hl.1 rfl (Nat.le_of_ble_eq_true rfl) d_MenuScreensModel_addValue_109 ⟨Nat.le_refl _, Nat.le_refl _⟩) (fun r18 hN H locs hp X => ?_)
                obtain ⟨x1, M1, rfl, er18⟩ := hp
                replace M := M.trans M1
                replace er18 : r18 = bI (cEnd (A 6) e0 (nT4 (A 6) e0 i0)) := er18
                refine lv_if_ne (tgt := 117) hx hb d_MenuScreensModel_addValue_112 (by decide) (fun c19 => ?_) (fun c19 => ?_)
                · skip
                  have a4 : cEnd (A 6) e0 (nT4 (A 6) e0 i0) = true := bI_n (fun z => c19 (er18.trans z))
                  have e12 : x 12 + 1 = nI (nv + 1) := by rw [hnv]; exact nI_1 nv
                  refine lv_aload_n hx hb d_MenuScreensModel_addValue_117 rfl (lv_at hl 5 rfl) ?_
                  refine lv_dup hx hb d_MenuScreensModel_addValue_118 rfl ?_
                  refine mm_get C X M 12 f_12_162_13 (.int (x 12)) rfl d_MenuScreensModel_addValue_119 ?_
                  refine lv_iconst (v := 1) hx hb d_MenuScreensModel_addValue_122 (by decide) ?_
                  refine lv_iadd hx hb d_MenuScreensModel_addValue_123 ?_
                  refine mm_put C X M 12 p_12_162_13 (upd (upd (upd (upd x 7 (nI (nT (A 6) e0 (nT4 (A 6) e0 i0)))) 9 (nI (nF (A 6) e0 (nT4 (A 6) e0 i0)))) 10 (nI (nT (A 6) e0 (nT4 (A 6) e0 i0)))) 12 ((x 12) + 1)) yn16 rfl rfl rfl (by decide) d_MenuScreensModel_addValue_124 (fun h H locs X M => ?_)
                  refine lv_aload_n hx hb d_MenuScreensModel_addValue_127 rfl (lv_at hl 5 rfl) ?_
                  refine mm_get C X M 13 f_12_16_13 (.ref (ar 13)) rfl d_MenuScreensModel_addValue_128 ?_
                  refine lv_aload_n hx hb d_MenuScreensModel_addValue_131 rfl (lv_at hl 5 rfl) ?_
                  refine mm_get C X M 12 f_12_162_13 (.int ((x 12) + 1)) rfl d_MenuScreensModel_addValue_132 ?_
                  refine lv_iload_n hx hb d_MenuScreensModel_addValue_135 rfl (lv_at hl 4 rfl) ?_
                  refine mm_iast C X M 13 41 rfl (A 13) rfl (fun _ => rfl) (by decide) (nv + 1) e12 (by omega) d_MenuScreensModel_addValue_136 (fun h H locs X M => ?_)
                  refine lv_aload_n hx hb d_MenuScreensModel_addValue_137 rfl (lv_at hl 5 rfl) ?_
                  refine mm_get C X M 14 f_12_19_13 (.ref (ar 14)) rfl d_MenuScreensModel_addValue_138 ?_
                  refine lv_aload_n hx hb d_MenuScreensModel_addValue_141 rfl (lv_at hl 5 rfl) ?_
                  refine mm_get C X M 12 f_12_162_13 (.int ((x 12) + 1)) rfl d_MenuScreensModel_addValue_142 ?_
                  refine lv_iload_n hx hb d_MenuScreensModel_addValue_145 rfl (lv_at hl 3 rfl) ?_
                  refine mm_iast C X M 14 41 rfl (A 14) rfl (fun _ => rfl) (by decide) (nv + 1) e12 (by omega) d_MenuScreensModel_addValue_146 (fun h H locs X M => ?_)
                  refine lv_aload_n hx hb d_MenuScreensModel_addValue_147 rfl (lv_at hl 5 rfl) ?_
                  refine mm_get C X M 15 f_12_22_13 (.ref (ar 15)) rfl d_MenuScreensModel_addValue_148 ?_
                  refine lv_aload_n hx hb d_MenuScreensModel_addValue_151 rfl (lv_at hl 5 rfl) ?_
                  refine mm_get C X M 12 f_12_162_13 (.int ((x 12) + 1)) rfl d_MenuScreensModel_addValue_152 ?_
                  refine lv_iload_n hx hb d_MenuScreensModel_addValue_155 rfl (lv_at hl 6 rfl) ?_
                  refine mm_zast C X M 15 41 rfl (A 15) rfl (fun _ => rfl) (by decide) hb1 (nv + 1) e12 (by omega) d_MenuScreensModel_addValue_156 (fun h H locs X M => ?_)
                  refine lv_aload_n hx hb d_MenuScreensModel_addValue_157 rfl (lv_at hl 5 rfl) ?_
                  refine mm_get C X M 16 f_12_26_13 (.ref (ar 16)) rfl d_MenuScreensModel_addValue_158 ?_
                  refine lv_aload_n hx hb d_MenuScreensModel_addValue_161 rfl (lv_at hl 5 rfl) ?_
                  refine mm_get C X M 12 f_12_162_13 (.int ((x 12) + 1)) rfl d_MenuScreensModel_addValue_162 ?_
                  refine lv_lload hx hb d_MenuScreensModel_addValue_165 (lv_at hl 2 rfl) ?_
                  refine mm_last C X M 16 41 rfl (B 16) rfl (fun _ => rfl) (by decide) (nv + 1) e12 (by omega) d_MenuScreensModel_addValue_167 (fun h H locs X M => ?_)
                  refine lv_aload_n hx hb d_MenuScreensModel_addValue_168 rfl (lv_at hl 5 rfl) ?_
                  refine mm_get C X M 17 f_12_30_13 (.ref (ar 17)) rfl d_MenuScreensModel_addValue_169 ?_
                  refine lv_aload_n hx hb d_MenuScreensModel_addValue_172 rfl (lv_at hl 5 rfl) ?_
                  refine mm_get C X M 12 f_12_162_13 (.int ((x 12) + 1)) rfl d_MenuScreensModel_addValue_173 ?_
                  refine lv_lload hx hb d_MenuScreensModel_addValue_176 (lv_at hl 1 rfl) ?_
                  refine mm_last C X M 17 41 rfl (B 17) rfl (fun _ => rfl) (by decide) (nv + 1) e12 (by omega) d_MenuScreensModel_addValue_178 (fun h H locs X M => ?_)
                  refine lv_aload_n hx hb d_MenuScreensModel_addValue_179 rfl (lv_at hl 5 rfl) ?_
                  refine mm_get C X M 18 f_12_33_13 (.ref (ar 18)) rfl d_MenuScreensModel_addValue_180 ?_
                  refine lv_aload_n hx hb d_MenuScreensModel_addValue_183 rfl (lv_at hl 5 rfl) ?_
                  refine mm_get C X M 12 f_12_162_13 (.int ((x 12) + 1)) rfl d_MenuScreensModel_addValue_184 ?_
                  refine lv_lload hx hb d_MenuScreensModel_addValue_187 (lv_at hl 0 rfl) ?_
                  refine mm_last C X M 18 41 rfl (B 18) rfl (fun _ => rfl) (by decide) (nv + 1) e12 (by omega) d_MenuScreensModel_addValue_189 (fun h H locs X M => ?_)
                  refine lv_aload_n hx hb d_MenuScreensModel_addValue_190 rfl (lv_at hl 5 rfl) ?_
                  refine mm_get C X M 19 f_12_36_13 (.ref (ar 19)) rfl d_MenuScreensModel_addValue_191 ?_
                  refine lv_aload_n hx hb d_MenuScreensModel_addValue_194 rfl (lv_at hl 5 rfl) ?_
                  refine mm_get C X M 12 f_12_162_13 (.int ((x 12) + 1)) rfl d_MenuScreensModel_addValue_195 ?_
                  refine lv_iload_n hx hb d_MenuScreensModel_addValue_198 rfl (lv_at hl 6 rfl) ?_
                  refine mm_zast C X M 19 41 rfl (A 19) rfl (fun _ => rfl) (by decide) hb1 (nv + 1) e12 (by omega) d_MenuScreensModel_addValue_199 (fun h H locs X M => ?_)
                  refine lv_iconst (v := 1) hx hb d_MenuScreensModel_addValue_200 (by decide) ?_
                  exact mq_iret hQ C X hr rfl hlk (⟨(upd (upd (upd (upd x 7 (nI (nT (A 6) e0 (nT4 (A 6) e0 i0)))) 9 (nI (nF (A 6) e0 (nT4 (A 6) e0 i0)))) 10 (nI (nT (A 6) e0 (nT4 (A 6) e0 i0)))) 12 ((x 12) + 1)), yn16, (va_up (va_up (va_up (va_up A 13 (upd (A 13) (nv + 1) (nI (nF (A 6) e0 i0)))) 14 (upd (A 14) (nv + 1) (nI (nT (A 6) e0 i0)))) 15 (upd (A 15) (nv + 1) p1)) 19 (upd (A 19) (nv + 1) p1)), (va_up (va_up (va_up B 16 (vp_updL (B 16) (nv + 1) (vNu (A 6) e0 (nT (A 6) e0 i0)))) 17 (vp_updL (B 17) (nv + 1) (vNu (A 6) e0 (nT2 (A 6) e0 i0)))) 18 (vp_updL (B 18) (nv + 1) (vNu (A 6) e0 (nT3 (A 6) e0 i0)))), M, (fun k q7 q9 q10 q12 => by simp [upd, q7, q9, q10, q12]), (fun k q11 => by rw [kyn16 k q11, kyn13 k q11, kyn10 k q11]), Or.inl ⟨by unfold okVa; rw [if_neg c6]; rw [a1, decide_eq_true a2, decide_eq_true a3, a4, b1, b2, b3]; rfl, rfl, e12, rfl, by rw [if_neg c6, if_neg c6, if_neg c6]⟩⟩) (Nat.le_refl _) (Nat.le_refl _) d_MenuScreensModel_addValue_201
                · skip
                  refine lv_iconst (v := 0) hx hb d_MenuScreensModel_addValue_115 (by decide) ?_
                  exact mq_iret hQ C X hr rfl hlk (⟨(upd (upd (upd x 7 (nI (nT (A 6) e0 (nT4 (A 6) e0 i0)))) 9 (nI (nF (A 6) e0 (nT4 (A 6) e0 i0)))) 10 (nI (nT (A 6) e0 (nT4 (A 6) e0 i0)))), yn16, A, B, M, (fun k q7 q9 q10 q12 => by simp [upd, q7, q9, q10, q12]), (fun k q11 => by rw [kyn16 k q11, kyn13 k q11, kyn10 k q11]), Or.inr ⟨by unfold okVa; rw [if_neg c6]; rw [show cEnd (A 6) e0 (nT4 (A 6) e0 i0) = false from bI_0 (er18.symm.trans c19)]; simp, rfl, rfl, rfl, rfl⟩⟩) (Nat.le_refl _) (Nat.le_refl _) d_MenuScreensModel_addValue_116
              · skip
                refine lv_iconst (v := 0) hx hb d_MenuScreensModel_addValue_100 (by decide) ?_
                exact mq_iret hQ C X hr rfl hlk (⟨(upd (upd (upd x 7 (nI (nT4 (A 6) e0 i0))) 9 (nI (nF (A 6) e0 (nT3 (A 6) e0 i0)))) 10 (nI (nT4 (A 6) e0 i0))), yn16, A, B, M, (fun k q7 q9 q10 q12 => by simp [upd, q7, q9, q10, q12]), (fun k q11 => by rw [kyn16 k q11, kyn13 k q11, kyn10 k q11]), Or.inr ⟨by unfold okVa; rw [if_neg c6]; rw [show cNu (A 6) e0 (nT3 (A 6) e0 i0) (vNu (A 6) e0 (nT (A 6) e0 i0)) (vNu (A 6) e0 (nT2 (A 6) e0 i0)) = false from bI_0 (er15.symm.trans c17)]; simp, rfl, rfl, rfl, rfl⟩⟩) (Nat.le_refl _) (Nat.le_refl _) d_MenuScreensModel_addValue_101
            · skip
              refine lv_iconst (v := 0) hx hb d_MenuScreensModel_addValue_81 (by decide) ?_
              exact mq_iret hQ C X hr rfl hlk (⟨(upd (upd (upd x 7 (nI (nT3 (A 6) e0 i0))) 9 (nI (nF (A 6) e0 (nT2 (A 6) e0 i0)))) 10 (nI (nT3 (A 6) e0 i0))), yn13, A, B, M, (fun k q7 q9 q10 q12 => by simp [upd, q7, q9, q10, q12]), (fun k q11 => by rw [kyn13 k q11, kyn10 k q11]), Or.inr ⟨by unfold okVa; rw [if_neg c6]; rw [show cNu (A 6) e0 (nT2 (A 6) e0 i0) (vNu (A 6) e0 (nT (A 6) e0 i0)) 999999 = false from bI_0 (er12.symm.trans c14)]; simp, rfl, rfl, rfl, rfl⟩⟩) (Nat.le_refl _) (Nat.le_refl _) d_MenuScreensModel_addValue_82
          · skip
            refine lv_iconst (v := 0) hx hb d_MenuScreensModel_addValue_61 (by decide) ?_
            exact mq_iret hQ C X hr rfl hlk (⟨(upd (upd (upd x 7 (nI (nT2 (A 6) e0 i0))) 9 (nI (nF (A 6) e0 (nT (A 6) e0 i0)))) 10 (nI (nT2 (A 6) e0 i0))), yn10, A, B, M, (fun k q7 q9 q10 q12 => by simp [upd, q7, q9, q10, q12]), (fun k q11 => by rw [kyn10 k q11]), Or.inr ⟨by unfold okVa; rw [if_neg c6]; rw [show cNu (A 6) e0 (nT (A 6) e0 i0) (-999999) 999999 = false from bI_0 (er9.symm.trans c11)]; simp, rfl, rfl, rfl, rfl⟩⟩) (Nat.le_refl _) (Nat.le_refl _) d_MenuScreensModel_addValue_62
      · skip
        refine lv_iconst (v := 0) hx hb d_MenuScreensModel_addValue_23 (by decide) ?_
        exact mq_iret hQ C X hr rfl hlk (⟨(upd (upd (upd x 7 (nI (nT (A 6) e0 i0))) 9 (nI (nF (A 6) e0 i0))) 10 (nI (nT (A 6) e0 i0))), y, A, B, M, (fun k q7 q9 q10 q12 => by simp [upd, q7, q9, q10, q12]), (fun k q11 => rfl), Or.inr ⟨by unfold okVa; rw [decide_eq_false (p := nv ≠ 40) (fun z => z (nI_eqI (by omega) (by decide) (by rw [← hnv]; exact c5)))]; simp, rfl, rfl, rfl, rfl⟩⟩) (Nat.le_refl _) (Nat.le_refl _) d_MenuScreensModel_addValue_24
