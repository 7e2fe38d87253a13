theorem cm_Line_nameAt {l : Launch} {S0 : State} {b : Nat} {D : va_G} {dT : Nat → ClassId} (hE : vEnv S0 b D dT) {dE mO : Nat} (hJ : vJ S0 dE mO) {h0 : vH} {a as1 ae1 t tv cw N en bg j : Nat} {f fs fe f8 : Nat → Int32} {z2 z3 : Value} (hW : lnW f en bg cw fs fe) (hb0 : bg ≤ en) (he : en ≤ N) (hN : N ≤ 4000) (hg : ∀ k, k < N → f8 k = f k ∧ ∃ c0, 0 < c0 ∧ c0 < 128 ∧ f k = nI c0) (hj6 : j < 6) (ka : h0 a = some (.inr (6, [.ref as1, .ref ae1, .ref t, .int (nI cw)]))) (k1 : h0 as1 = some (.inl (dT 0, 6, .inl fs))) (k2 : h0 ae1 = some (.inl (dT 0, 6, .inl fe))) (kt : h0 t = some (.inr (0, [.ref tv, .int 0, z2, z3]))) (ktv : h0 tv = some (.inl (dT 2, N, .inl f8))) : vMl l S0 D vcl GT y_Line_nameAt prog_3_method_6_code 6 (some .long) 4 85 0 0 [.ref a, .int (nI j)] h0 (fun r h' => h' = h0 ∧ r = cNa f en bg cw j) := by
  by_cases hj : j < cw
  · exact vMl_mono (cm_Line_nameAtT hE hJ hW hb0 he hN hg hj ka k1 k2 kt ktv) (Nat.le_of_ble_eq_true rfl) (Nat.le_of_ble_eq_true rfl) (Nat.le_refl _) (Nat.le_refl _) (fun _ _ q => q)
  · exact vMl_mono (cm_Line_nameAtF hE hW.1 hj6 (by omega) ka) (Nat.le_of_ble_eq_true rfl) (Nat.le_of_ble_eq_true rfl) (Nat.le_refl _) (Nat.le_refl _) (fun r u q => ⟨q.1, by rw [q.2, cNa, if_neg hj]⟩)
theorem cm_Line_numberAt {l : Launch} {S0 : State} {b : Nat} {D : va_G} {dT : Nat → ClassId} (hE : vEnv S0 b D dT) {dE mO : Nat} (hJ : vJ S0 dE mO) {h0 : vH} {a as1 ae1 t tv cw N en bg j : Nat} {f fs fe f8 : Nat → Int32} {z2 z3 : Value} (hW : lnW f en bg cw fs fe) (hb0 : bg ≤ en) (he : en ≤ N) (hN : N ≤ 4000) (hg : ∀ k, k < N → f8 k = f k ∧ ∃ c0, 0 < c0 ∧ c0 < 128 ∧ f k = nI c0) (hj6 : j < 6) (ka : h0 a = some (.inr (6, [.ref as1, .ref ae1, .ref t, .int (nI cw)]))) (k1 : h0 as1 = some (.inl (dT 0, 6, .inl fs))) (k2 : h0 ae1 = some (.inl (dT 0, 6, .inl fe))) (kt : h0 t = some (.inr (0, [.ref tv, .int 0, z2, z3]))) (ktv : h0 tv = some (.inl (dT 2, N, .inl f8))) : vMi l S0 D vcl GT y_Line_numberAt prog_3_method_7_code 8 (some .int) 4 85 0 0 [.ref a, .int (nI j)] h0 (fun r h' => h' = h0 ∧ r = cNi f en bg cw j) := by
  by_cases hj : j < cw
  · exact vMi_mono (cm_Line_numberAtT hE hJ hW hb0 he hN hg hj ka k1 k2 kt ktv) (Nat.le_of_ble_eq_true rfl) (Nat.le_of_ble_eq_true rfl) (Nat.le_refl _) (Nat.le_refl _) (fun _ _ q => q)
  · exact vMi_mono (cm_Line_numberAtF hE hW.1 hj6 (by omega) ka) (Nat.le_of_ble_eq_true rfl) (Nat.le_of_ble_eq_true rfl) (Nat.le_refl _) (Nat.le_refl _) (fun r u q => ⟨q.1, by rw [q.2, cNi, if_neg hj]⟩)
theorem d_Line_addWord_0 : decode prog_3_method_3_code 0 = .ok (.iload_n 1, 1) := by decide +kernel
theorem d_Line_addWord_1 : decode prog_3_method_3_code 1 = .ok (.iload_n 2, 1) := by decide +kernel
theorem d_Line_addWord_2 : decode prog_3_method_3_code 2 = .ok (.if_icmp .ge 42, 3) := by decide +kernel
theorem d_Line_addWord_5 : decode prog_3_method_3_code 5 = .ok (.aload_n 0, 1) := by decide +kernel
theorem d_Line_addWord_6 : decode prog_3_method_3_code 6 = .ok (.getfield 24, 3) := by decide +kernel
theorem d_Line_addWord_9 : decode prog_3_method_3_code 9 = .ok (.bipush 6, 2) := by decide +kernel
theorem d_Line_addWord_11 : decode prog_3_method_3_code 11 = .ok (.if_icmp .ge 33, 3) := by decide +kernel
theorem d_Line_addWord_14 : decode prog_3_method_3_code 14 = .ok (.aload_n 0, 1) := by decide +kernel
theorem d_Line_addWord_15 : decode prog_3_method_3_code 15 = .ok (.getfield 11, 3) := by decide +kernel
theorem d_Line_addWord_18 : decode prog_3_method_3_code 18 = .ok (.aload_n 0, 1) := by decide +kernel
theorem d_Line_addWord_19 : decode prog_3_method_3_code 19 = .ok (.getfield 24, 3) := by decide +kernel
theorem d_Line_addWord_22 : decode prog_3_method_3_code 22 = .ok (.iload_n 1, 1) := by decide +kernel
theorem d_Line_addWord_23 : decode prog_3_method_3_code 23 = .ok (.iastore, 1) := by decide +kernel
theorem d_Line_addWord_24 : decode prog_3_method_3_code 24 = .ok (.aload_n 0, 1) := by decide +kernel
theorem d_Line_addWord_25 : decode prog_3_method_3_code 25 = .ok (.getfield 15, 3) := by decide +kernel
theorem d_Line_addWord_28 : decode prog_3_method_3_code 28 = .ok (.aload_n 0, 1) := by decide +kernel
theorem d_Line_addWord_29 : decode prog_3_method_3_code 29 = .ok (.getfield 24, 3) := by decide +kernel
theorem d_Line_addWord_32 : decode prog_3_method_3_code 32 = .ok (.iload_n 2, 1) := by decide +kernel
theorem d_Line_addWord_33 : decode prog_3_method_3_code 33 = .ok (.iastore, 1) := by decide +kernel
theorem d_Line_addWord_34 : decode prog_3_method_3_code 34 = .ok (.aload_n 0, 1) := by decide +kernel
theorem d_Line_addWord_35 : decode prog_3_method_3_code 35 = .ok (.dup, 1) := by decide +kernel
theorem d_Line_addWord_36 : decode prog_3_method_3_code 36 = .ok (.getfield 24, 3) := by decide +kernel
theorem d_Line_addWord_39 : decode prog_3_method_3_code 39 = .ok (.iconst 1, 1) := by decide +kernel
theorem d_Line_addWord_40 : decode prog_3_method_3_code 40 = .ok (.iadd, 1) := by decide +kernel
theorem d_Line_addWord_41 : decode prog_3_method_3_code 41 = .ok (.putfield 24, 3) := by decide +kernel
theorem d_Line_addWord_44 : decode prog_3_method_3_code 44 = .ok (.return_, 1) := by decide +kernel
set_option maxRecDepth 100000 in
set_option maxHeartbeats 4000000 in
theorem cm_Line_addWord {l : Launch} {S0 : State} {b : Nat} {D : va_G} {dT : Nat → ClassId} (hE : vEnv S0 b D dT) {h0 : vH} {a as1 ae1 t cw s0 e0 : Nat} {fs fe : Nat → Int32} (hse : as1 ≠ ae1) (hcw : cw < 6) (hs0 : s0 ≤ 4001) (he0 : e0 ≤ 4001) (ka : h0 a = some (.inr (6, [.ref as1, .ref ae1, .ref t, .int (nI cw)]))) (wa : S0.heap.size ≤ a) (k1 : h0 as1 = some (.inl (dT 0, 6, .inl fs))) (w1 : S0.heap.size ≤ as1) (k2 : h0 ae1 = some (.inl (dT 0, 6, .inl fe))) (w2 : S0.heap.size ≤ ae1) : vMv l S0 D vcl GT y_Line_addWord prog_3_method_3_code 3 none 0 0 0 0 [.ref a, .int (nI s0), .int (nI e0)] h0 (fun h' => (s0 < e0 ∧ h' = vup (vup (vup h0 as1 (.inl (dT 0, 6, .inl (upd fs cw (nI s0))))) ae1 (.inl (dT 0, 6, .inl (upd fe cw (nI e0))))) a (.inr (6, [.ref as1, .ref ae1, .ref t, .int (nI (cw + 1))]))) ∨ (¬ s0 < e0 ∧ h' = h0)) := by
  unfold vMv
  refine vM_ofQ hE.1 (by decide) (Nat.le_of_ble_eq_true rfl) (fun p e s m args below meth c ls Q hQ C hr hlk hnm X hl => ?_)
  have C : vC p s m _ c _ _ "MenuScreens$Line" GT D vcl (vty dT) := C
  have hx := C.1.1
  have hb := C.1.2.1
  obtain ⟨H, eH⟩ : ∃ z, z = s.heap := ⟨_, rfl⟩
  obtain ⟨locs, elocs⟩ : ∃ z : List Loc, z = [] := ⟨_, rfl⟩
  rw [← eH, ← elocs] at X
  rw [← eH, ← elocs]
  clear eH elocs
  have hl : lv_has ls 3 [(0, .ref a), (1, .int (nI s0)), (2, .int (nI e0))] := hl
  refine lv_iload_n hx hb d_Line_addWord_0 rfl (lv_at hl 1 rfl) ?_
  refine lv_iload_n hx hb d_Line_addWord_1 rfl (lv_at hl 2 rfl) ?_
  refine lv_icmp_ge (tgt := 44) hx hb d_Line_addWord_2 (by decide) (fun c1 => ?_) (fun c1 => ?_)
  · skip
    exact mq_vret hQ C X hr hlk (Or.inr ⟨fun z => absurd (nI_lt z (by omega)) (Int32.not_lt.mpr c1), rfl⟩) (by omega) (by omega) d_Line_addWord_44
  · skip
    refine lv_aload_n hx hb d_Line_addWord_5 rfl (lv_at hl 0 rfl) ?_
    refine mv_get C X ka 3 f_2_24_6 (v := .int (nI cw)) rfl d_Line_addWord_6 ?_
    refine lv_bipush (v := 6) hx hb d_Line_addWord_9 (by decide) ?_
    refine lv_icmp_ge (tgt := 44) hx hb d_Line_addWord_11 (by decide) (fun z => absurd z (nI_ge (a := cw) (b := 6) hcw (by decide))) (fun c2 => ?_)
    refine lv_aload_n hx hb d_Line_addWord_14 rfl (lv_at hl 0 rfl) ?_
    refine mv_get C X ka 0 f_2_11_6 (v := .ref as1) rfl d_Line_addWord_15 ?_
    refine lv_aload_n hx hb d_Line_addWord_18 rfl (lv_at hl 0 rfl) ?_
    refine mv_get C X ka 3 f_2_24_6 (v := .int (nI cw)) rfl d_Line_addWord_19 ?_
    refine lv_iload_n hx hb d_Line_addWord_22 rfl (lv_at hl 1 rfl) ?_
    refine mv_iast C X k1 w1 0 rfl cw rfl (by omega) (by omega) d_Line_addWord_23 (fun H locs X => ?_)
    have X : vO S0 D vcl (vup h0 as1 (.inl (dT 0, 6, .inl (upd fs cw (nI s0))))) s H locs := X
    refine lv_aload_n hx hb d_Line_addWord_24 rfl (lv_at hl 0 rfl) ?_
    refine mv_get C X ((vup_n _ _ (vne_oa ka k1)).trans ka) 1 f_2_15_6 (v := .ref ae1) rfl d_Line_addWord_25 ?_
    refine lv_aload_n hx hb d_Line_addWord_28 rfl (lv_at hl 0 rfl) ?_
    refine mv_get C X ((vup_n _ _ (vne_oa ka k1)).trans ka) 3 f_2_24_6 (v := .int (nI cw)) rfl d_Line_addWord_29 ?_
    refine lv_iload_n hx hb d_Line_addWord_32 rfl (lv_at hl 2 rfl) ?_
    refine mv_iast C X ((vup_n _ _ (Ne.symm hse)).trans k2) w2 0 rfl cw rfl (by omega) (by omega) d_Line_addWord_33 (fun H locs X => ?_)
    have X : vO S0 D vcl (vup (vup h0 as1 (.inl (dT 0, 6, .inl (upd fs cw (nI s0))))) ae1 (.inl (dT 0, 6, .inl (upd fe cw (nI e0))))) s H locs := X
    refine lv_aload_n hx hb d_Line_addWord_34 rfl (lv_at hl 0 rfl) ?_
    refine lv_dup hx hb d_Line_addWord_35 rfl ?_
    refine mv_get C X ((vup_n _ _ (vne_oa ka k2)).trans ((vup_n _ _ (vne_oa ka k1)).trans ka)) 3 f_2_24_6 (v := .int (nI cw)) rfl d_Line_addWord_36 ?_
    refine lv_iconst (v := 1) hx hb d_Line_addWord_39 (by decide) ?_
    refine lv_iadd hx hb d_Line_addWord_40 ?_
    rw [nI_1]
    refine mv_put C X ((vup_n _ _ (vne_oa ka k2)).trans ((vup_n _ _ (vne_oa ka k1)).trans ka)) wa 3 p_2_24_6 rfl rfl (Nat.le_of_ble_eq_true rfl) d_Line_addWord_41 (fun H locs X => ?_)
    have X : vO S0 D vcl (vup (vup (vup h0 as1 (.inl (dT 0, 6, .inl (upd fs cw (nI s0))))) ae1 (.inl (dT 0, 6, .inl (upd fe cw (nI e0))))) a (.inr (6, [.ref as1, .ref ae1, .ref t, .int (nI (cw + 1))]))) s H locs := X
    exact mq_vret hQ C X hr hlk (Or.inl ⟨(nI_ltI (by omega) (by omega)).mp (Int32.not_le.mp c1), rfl⟩) (by omega) (by omega) d_Line_addWord_44
theorem d_Line_split_0 : decode prog_3_method_2_code 0 = .ok (.aload_n 0, 1) := by decide +kernel
theorem d_Line_split_1 : decode prog_3_method_2_code 1 = .ok (.aload_n 1, 1) := by decide +kernel
theorem d_Line_split_2 : decode prog_3_method_2_code 2 = .ok (.putfield 20, 3) := by decide +kernel
theorem d_Line_split_5 : decode prog_3_method_2_code 5 = .ok (.aload_n 0, 1) := by decide +kernel
theorem d_Line_split_6 : decode prog_3_method_2_code 6 = .ok (.iconst 0, 1) := by decide +kernel
theorem d_Line_split_7 : decode prog_3_method_2_code 7 = .ok (.putfield 24, 3) := by decide +kernel
theorem d_Line_split_10 : decode prog_3_method_2_code 10 = .ok (.iload_n 2, 1) := by decide +kernel
theorem d_Line_split_11 : decode prog_3_method_2_code 11 = .ok (.istore 4, 2) := by decide +kernel
theorem d_Line_split_13 : decode prog_3_method_2_code 13 = .ok (.iload_n 2, 1) := by decide +kernel
theorem d_Line_split_14 : decode prog_3_method_2_code 14 = .ok (.istore 5, 2) := by decide +kernel
theorem d_Line_split_16 : decode prog_3_method_2_code 16 = .ok (.iload 5, 2) := by decide +kernel
theorem d_Line_split_18 : decode prog_3_method_2_code 18 = .ok (.iload_n 3, 1) := by decide +kernel
theorem d_Line_split_19 : decode prog_3_method_2_code 19 = .ok (.if_icmp .gt 58, 3) := by decide +kernel
theorem d_Line_split_22 : decode prog_3_method_2_code 22 = .ok (.aload_n 0, 1) := by decide +kernel
theorem d_Line_split_23 : decode prog_3_method_2_code 23 = .ok (.getfield 24, 3) := by decide +kernel
theorem d_Line_split_26 : decode prog_3_method_2_code 26 = .ok (.bipush 6, 2) := by decide +kernel
theorem d_Line_split_28 : decode prog_3_method_2_code 28 = .ok (.if_icmp .ge 49, 3) := by decide +kernel
theorem d_Line_split_31 : decode prog_3_method_2_code 31 = .ok (.iload 5, 2) := by decide +kernel
theorem d_Line_split_33 : decode prog_3_method_2_code 33 = .ok (.iload_n 3, 1) := by decide +kernel
theorem d_Line_split_34 : decode prog_3_method_2_code 34 = .ok (.if_icmp .eq 23, 3) := by decide +kernel
theorem d_Line_split_37 : decode prog_3_method_2_code 37 = .ok (.iload 5, 2) := by decide +kernel
theorem d_Line_split_39 : decode prog_3_method_2_code 39 = .ok (.aload_n 1, 1) := by decide +kernel
theorem d_Line_split_40 : decode prog_3_method_2_code 40 = .ok (.invokevirtual 28, 3) := by decide +kernel
theorem d_Line_split_43 : decode prog_3_method_2_code 43 = .ok (.if_icmp .ge 14, 3) := by decide +kernel
theorem d_Line_split_46 : decode prog_3_method_2_code 46 = .ok (.aload_n 1, 1) := by decide +kernel
theorem d_Line_split_47 : decode prog_3_method_2_code 47 = .ok (.iload 5, 2) := by decide +kernel
theorem d_Line_split_49 : decode prog_3_method_2_code 49 = .ok (.invokevirtual 34, 3) := by decide +kernel
theorem d_Line_split_52 : decode prog_3_method_2_code 52 = .ok (.bipush 32, 2) := by decide +kernel
theorem d_Line_split_54 : decode prog_3_method_2_code 54 = .ok (.if_icmp .ne 17, 3) := by decide +kernel
theorem d_Line_split_57 : decode prog_3_method_2_code 57 = .ok (.aload_n 0, 1) := by decide +kernel
theorem d_Line_split_58 : decode prog_3_method_2_code 58 = .ok (.iload 4, 2) := by decide +kernel
theorem d_Line_split_60 : decode prog_3_method_2_code 60 = .ok (.iload 5, 2) := by decide +kernel
theorem d_Line_split_62 : decode prog_3_method_2_code 62 = .ok (.invokevirtual 38, 3) := by decide +kernel
theorem d_Line_split_65 : decode prog_3_method_2_code 65 = .ok (.iload 5, 2) := by decide +kernel
theorem d_Line_split_67 : decode prog_3_method_2_code 67 = .ok (.iconst 1, 1) := by decide +kernel
theorem d_Line_split_68 : decode prog_3_method_2_code 68 = .ok (.iadd, 1) := by decide +kernel
theorem d_Line_split_69 : decode prog_3_method_2_code 69 = .ok (.istore 4, 2) := by decide +kernel
theorem d_Line_split_71 : decode prog_3_method_2_code 71 = .ok (.iinc 5 1, 3) := by decide +kernel
theorem d_Line_split_74 : decode prog_3_method_2_code 74 = .ok (.goto (-58), 3) := by decide +kernel
theorem d_Line_split_77 : decode prog_3_method_2_code 77 = .ok (.return_, 1) := by decide +kernel
set_option maxRecDepth 100000 in
set_option maxHeartbeats 4000000 in
theorem cm_Line_split {l : Launch} {S0 : State} {b : Nat} {D : va_G} {dT : Nat → ClassId} (hE : vEnv S0 b D dT) {dE mO : Nat} (hJ : vJ S0 dE mO) {h0 : vH} {a as1 ae1 t tv N en bg : Nat} {f fs fe f8 : Nat → Int32} {z2 z3 tx0 : Value} {ci0 : Int32} (hse : as1 ≠ ae1) (ht1 : tv ≠ as1) (ht2 : tv ≠ ae1) (hb0 : bg ≤ en) (he : en ≤ N) (hN : N ≤ 4000) (hg : ∀ k, k < N → f8 k = f k ∧ ∃ c0, 0 < c0 ∧ c0 < 128 ∧ f k = nI c0) (ka : h0 a = some (.inr (6, [.ref as1, .ref ae1, tx0, .int ci0]))) (wa : S0.heap.size ≤ a) (k1 : h0 as1 = some (.inl (dT 0, 6, .inl fs))) (w1 : S0.heap.size ≤ as1) (k2 : h0 ae1 = some (.inl (dT 0, 6, .inl fe))) (w2 : S0.heap.size ≤ ae1) (kt : h0 t = some (.inr (0, [.ref tv, .int 0, z2, z3]))) (ktv : h0 tv = some (.inl (dT 2, N, .inl f8))) : vMv l S0 D vcl GT y_Line_split prog_3_method_2_code 6 none 4 85 0 0 [.ref a, .ref t, .int (nI bg), .int (nI en)] h0 (fun h' => ∃ cw fs2 fe2, h' = vup (vup (vup h0 as1 (.inl (dT 0, 6, .inl fs2))) ae1 (.inl (dT 0, 6, .inl fe2))) a (.inr (6, [.ref as1, .ref ae1, .ref t, .int (nI cw)])) ∧ lnW f en bg cw fs2 fe2) := by
  unfold vMv
  refine vM_ofQ hE.1 (by decide) (Nat.le_of_ble_eq_true rfl) (fun p e s m args below meth c ls Q hQ C hr hlk hnm X hl => ?_)
  have C : vC p s m _ c _ _ "MenuScreens$Line" GT D vcl (vty dT) := C
  have hx := C.1.1
  have hb := C.1.2.1
  obtain ⟨H, eH⟩ : ∃ z, z = s.heap := ⟨_, rfl⟩
  obtain ⟨locs, elocs⟩ : ∃ z : List Loc, z = [] := ⟨_, rfl⟩
  rw [← eH, ← elocs] at X
  rw [← eH, ← elocs]
  clear eH elocs
  have hl : lv_has ls 6 [(0, .ref a), (1, .ref t), (2, .int (nI bg)), (3, .int (nI en))] := hl
  refine lv_aload_n hx hb d_Line_split_0 rfl (lv_at hl 0 rfl) ?_
  refine lv_aload_n hx hb d_Line_split_1 rfl (lv_at hl 1 rfl) ?_
  refine mv_put C X ka wa 2 p_2_20_6 rfl rfl (Nat.le_of_ble_eq_true rfl) d_Line_split_2 (fun H locs X => ?_)
  have X : vO S0 D vcl (vup h0 a (.inr (6, [.ref as1, .ref ae1, .ref t, .int ci0]))) s H locs := X
  refine lv_aload_n hx hb d_Line_split_5 rfl (lv_at hl 0 rfl) ?_
  refine lv_iconst (v := 0) hx hb d_Line_split_6 (by decide) ?_
  refine mv_put C X (vup_s _ _ _) wa 3 p_2_24_6 rfl rfl (Nat.le_of_ble_eq_true rfl) d_Line_split_7 (fun H locs X => ?_)
  rw [vup_u] at X
  have X : vO S0 D vcl (vup h0 a (.inr (6, [.ref as1, .ref ae1, .ref t, .int 0]))) s H locs := X
  refine lv_iload_n hx hb d_Line_split_10 rfl (lv_at hl 2 rfl) ?_
  refine lv_istore (lv' := [(4, .int (nI bg)), (0, .ref a), (1, .ref t), (2, .int (nI bg)), (3, .int (nI en))]) hx hb d_Line_split_11 hl (by decide) rfl (fun ls hl => ?_)
  refine lv_iload_n hx hb d_Line_split_13 rfl (lv_at hl 3 rfl) ?_
  refine lv_istore (lv' := [(5, .int (nI bg)), (4, .int (nI bg)), (0, .ref a), (1, .ref t), (2, .int (nI bg)), (3, .int (nI en))]) hx hb d_Line_split_14 hl (by decide) rfl (fun ls hl => ?_)
  rw [show (vup h0 a (.inr (6, [.ref as1, .ref ae1, .ref t, .int 0]))) = (vup (vup (vup h0 as1 (.inl (dT 0, 6, .inl fs))) ae1 (.inl (dT 0, 6, .inl fe))) a (.inr (6, [.ref as1, .ref ae1, .ref t, .int (nI 0)]))) from by rw [vup_id k1, vup_id k2]; rfl] at X
  have lp : ∀ (n_lp : Nat) (k : Nat) (s2 : Nat) (cw : Nat) (fs2 : Nat → Int32) (fe2 : Nat → Int32) (i4 : Int32) (i5 : Int32) (ls : Array Slot) (H : Heap) (locs : List Loc), (i5 = nI k) → (i4 = nI s2) → (spI f en bg k s2 cw) → (cw ≤ 6) → (∀ i0, i0 < cw → fs2 i0 = nI (nF f en (wP f en bg i0)) ∧ fe2 i0 = nI (wP f en bg (i0 + 1))) → (en + 2 - k) < n_lp → vO S0 D vcl (vup (vup (vup h0 as1 (.inl (dT 0, 6, .inl fs2))) ae1 (.inl (dT 0, 6, .inl fe2))) a (.inr (6, [.ref as1, .ref ae1, .ref t, .int (nI cw)]))) s H locs → lv_has ls 6 [(0, .ref a), (1, .ref t), (2, .int (nI bg)), (3, .int (nI en)), (4, .int i4), (5, .int i5)] → W p l e (vRm 4 85 0 0) s m args below meth c H locs 0 0 Q (F0 m 16 ls []) := by
    intro n_lp
    induction n_lp with
    | zero => intros; exact absurd (by assumption) (Nat.not_lt_zero _)
    | succ n_lp ih_lp =>
      intro k s2 cw fs2 fe2 i4 i5 ls H locs ei5 ei4 hI hcw hfe hmu_lp X hl
      refine lv_iload hx hb d_Line_split_16 (lv_at hl 5 rfl) ?_
      refine lv_iload_n hx hb d_Line_split_18 rfl (lv_at hl 3 rfl) ?_
      refine lv_icmp_gt (tgt := 77) hx hb d_Line_split_19 (by decide) (fun c1 => ?_) (fun c1 => ?_)
      · skip
        exact mq_vret hQ C X hr hlk (⟨cw, fs2, fe2, rfl, hcw, hI.2.2.2.1, fun _ => spI_end (by have := (nI_ltI (a := en) (b := k) (by omega) (by have := hI.2.2.1; omega)).mp (by rw [← ei5]; exact c1); rw [show en + 1 = k by have := hI.2.2.1; omega]; exact hI), hfe⟩) (by omega) (by omega) d_Line_split_77
      · skip
        have hke : k ≤ en := (nI_leI (by have := hI.2.2.1; omega) (by omega)).mp (by rw [← ei5]; exact Int32.not_lt.mp c1)
        refine lv_aload_n hx hb d_Line_split_22 rfl (lv_at hl 0 rfl) ?_
        refine mv_get C X (vup_s _ _ _) 3 f_2_24_6 (v := .int (nI cw)) rfl d_Line_split_23 ?_
        refine lv_bipush (v := 6) hx hb d_Line_split_26 (by decide) ?_
        refine lv_icmp_ge (tgt := 77) hx hb d_Line_split_28 (by decide) (fun c2 => ?_) (fun c2 => ?_)
        · skip
          exact mq_vret hQ C X hr hlk (⟨cw, fs2, fe2, rfl, hcw, hI.2.2.2.1, fun z => absurd z (by have := (nI_leI (a := 6) (b := cw) (by decide) (by omega)).mp c2; omega), hfe⟩) (by omega) (by omega) d_Line_split_77
        · skip
          have hcw2 : cw < 6 := (nI_ltI (b := 6) (by omega) (by decide)).mp (Int32.not_le.mp c2)
          refine lv_iload hx hb d_Line_split_31 (lv_at hl 5 rfl) ?_
          refine lv_iload_n hx hb d_Line_split_33 rfl (lv_at hl 3 rfl) ?_
          refine lv_icmp_eq (tgt := 57) hx hb d_Line_split_34 (by decide) (fun c3 => ?_) (fun c3 => ?_)
          · skip
            have hf32 : k < en → f k = 32 := fun z => absurd (nI_eqI (a := k) (b := en) (by omega) (by omega) (by rw [← ei5]; exact c3)) (by omega)
            refine lv_aload_n hx hb d_Line_split_57 rfl (lv_at hl 0 rfl) ?_
            refine lv_iload hx hb d_Line_split_58 (lv_at hl 4 rfl) ?_
            refine lv_iload hx hb d_Line_split_60 (lv_at hl 5 rfl) ?_
            rw [ei4, ei5]
            refine mv_bv X (mv_rV (rest := []) (As := [.int (nI s2), .int (nI k)]) gt_good C X k_2_38 (cm_Line_addWord hE hse hcw2 (by have := hI.2.1; have := hI.2.2.1; omega) (by omega) (vup_s _ _ _) wa ((vup_n _ _ (Ne.symm (vne_oa ka k1))).trans ((vup_n _ _ hse).trans (vup_s _ _ _))) w1 ((vup_n _ _ (Ne.symm (vne_oa ka k2))).trans (vup_s _ _ _)) w2) (vup_s _ _ _) rfl rfl ⟨Nat.le_of_ble_eq_true rfl, Nat.le_of_ble_eq_true rfl⟩ rfl hl.1 rfl (Nat.le_of_ble_eq_true rfl) d_Line_split_62 ⟨Nat.zero_le _, Nat.zero_le _⟩) (fun hN H locs hp X => ?_)
            rcases hp with ⟨hns, hp⟩ | ⟨hns, hp⟩
            · replace hp := hp.symm
              subst hp
              rw [vcan hse (Ne.symm (vne_oa ka k1)) (Ne.symm (vne_oa ka k2))] at X
              have X : vO S0 D vcl (vup (vup (vup h0 as1 (.inl (dT 0, 6, .inl (upd fs2 cw (nI s2))))) ae1 (.inl (dT 0, 6, .inl (upd fe2 cw (nI k))))) a (.inr (6, [.ref as1, .ref ae1, .ref t, .int (nI (cw + 1))]))) s H locs := X
              have hW1 := spI_wd hI hns hf32 hke
              refine lv_iload hx hb d_Line_split_65 (lv_at hl 5 rfl) ?_
              refine lv_iconst (v := 1) hx hb d_Line_split_67 (by decide) ?_
              refine lv_iadd hx hb d_Line_split_68 ?_
              refine lv_istore (lv' := [(4, .int (i5 + 1)), (0, .ref a), (1, .ref t), (2, .int (nI bg)), (3, .int (nI en)), (5, .int i5)]) hx hb d_Line_split_69 hl (by decide) rfl (fun ls hl => ?_)
              refine lv_iinc (v := (i5 + 1)) (lv' := [(5, .int (i5 + 1)), (4, .int (i5 + 1)), (0, .ref a), (1, .ref t), (2, .int (nI bg)), (3, .int (nI en))]) hx hb d_Line_split_71 hl (k := 5) rfl rfl (by decide) rfl (fun ls hl => ?_)
              refine lv_goto (tgt := 16) hx hb d_Line_split_74 (by decide) ?_
              exact ih_lp (k + 1) (k + 1) (cw + 1) (upd fs2 cw (nI s2)) (upd fe2 cw (nI k)) (i5 + 1) (i5 + 1) ls _ _ (by rw [ei5]; exact nI_1 k) (by rw [ei5]; exact nI_1 k) hW1.2.2.2 (by omega) (fun i0 hi => by
                  by_cases z : i0 = cw
                  · rw [z, pk_us, pk_us, hW1.1, hW1.2.1]; exact ⟨rfl, rfl⟩
                  · rw [pk_un z, pk_un z]; exact hfe i0 (by omega)) (by omega) X (lv_sub hl [2, 3, 4, 5, 1, 0] rfl)
            · replace hp := hp.symm
              subst hp
              refine lv_iload hx hb d_Line_split_65 (lv_at hl 5 rfl) ?_
              refine lv_iconst (v := 1) hx hb d_Line_split_67 (by decide) ?_
              refine lv_iadd hx hb d_Line_split_68 ?_
              refine lv_istore (lv' := [(4, .int (i5 + 1)), (0, .ref a), (1, .ref t), (2, .int (nI bg)), (3, .int (nI en)), (5, .int i5)]) hx hb d_Line_split_69 hl (by decide) rfl (fun ls hl => ?_)
              refine lv_iinc (v := (i5 + 1)) (lv' := [(5, .int (i5 + 1)), (4, .int (i5 + 1)), (0, .ref a), (1, .ref t), (2, .int (nI bg)), (3, .int (nI en))]) hx hb d_Line_split_71 hl (k := 5) rfl rfl (by decide) rfl (fun ls hl => ?_)
              refine lv_goto (tgt := 16) hx hb d_Line_split_74 (by decide) ?_
              exact ih_lp (k + 1) (k + 1) cw fs2 fe2 (i5 + 1) (i5 + 1) ls _ _ (by rw [ei5]; exact nI_1 k) (by rw [ei5]; exact nI_1 k) (spI_sp hI hns hf32 hke) hcw hfe (by omega) X (lv_sub hl [2, 3, 4, 5, 1, 0] rfl)
          · skip
            have hkl : k < en := by
              rcases Nat.eq_or_lt_of_le hke with q | q
              · exact absurd (by rw [ei5, q]) c3
              · exact q
            obtain ⟨hc4, c0, hc1, hc2, hc3⟩ := hg k (by omega)
            refine lv_iload hx hb d_Line_split_37 (lv_at hl 5 rfl) ?_
            refine lv_aload_n hx hb d_Line_split_39 rfl (lv_at hl 1 rfl) ?_
            refine mv_bi X (mv_rV (rest := [.int i5]) (As := []) gt_good C X k_2_28 (cm_String_length hE hJ (by omega) ((vup_n _ _ (vne_c kt ka (by decide))).trans ((vup_n _ _ (vne_oa kt k2)).trans ((vup_n _ _ (vne_oa kt k1)).trans kt))) ((vup_n _ _ (Ne.symm (vne_oa ka ktv))).trans ((vup_n _ _ ht2).trans ((vup_n _ _ ht1).trans ktv)))) ((vup_n _ _ (vne_c kt ka (by decide))).trans ((vup_n _ _ (vne_oa kt k2)).trans ((vup_n _ _ (vne_oa kt k1)).trans kt))) rfl rfl ⟨Nat.le_of_ble_eq_true rfl, Nat.le_of_ble_eq_true rfl⟩ rfl hl.1 rfl (Nat.le_of_ble_eq_true rfl) d_Line_split_40 ⟨Nat.zero_le _, Nat.zero_le _⟩) (fun r5 hN H locs hp X => ?_)
            obtain ⟨eh, er⟩ := hp
            replace eh := eh.symm
            replace er := er.symm
            subst eh er
            refine lv_icmp_ge (tgt := 57) hx hb d_Line_split_43 (by decide) (fun z => absurd z (by rw [ei5]; exact nI_ge (a := k) (b := N) (by omega) (by omega))) (fun c6 => ?_)
            refine lv_aload_n hx hb d_Line_split_46 rfl (lv_at hl 1 rfl) ?_
            refine lv_iload hx hb d_Line_split_47 (lv_at hl 5 rfl) ?_
            rw [ei5]
            refine mv_bi X (mv_rV (rest := []) (As := [.int (nI k)]) gt_good C X k_2_34 (cm_String_charAt hE hJ (by omega) (j := k) (by omega) (hc4.trans hc3) hc2 ((vup_n _ _ (vne_c kt ka (by decide))).trans ((vup_n _ _ (vne_oa kt k2)).trans ((vup_n _ _ (vne_oa kt k1)).trans kt))) ((vup_n _ _ (Ne.symm (vne_oa ka ktv))).trans ((vup_n _ _ ht2).trans ((vup_n _ _ ht1).trans ktv)))) ((vup_n _ _ (vne_c kt ka (by decide))).trans ((vup_n _ _ (vne_oa kt k2)).trans ((vup_n _ _ (vne_oa kt k1)).trans kt))) rfl rfl ⟨Nat.le_of_ble_eq_true rfl, Nat.le_of_ble_eq_true rfl⟩ rfl hl.1 rfl (Nat.le_of_ble_eq_true rfl) d_Line_split_49 ⟨Nat.zero_le _, Nat.zero_le _⟩) (fun r7 hN H locs hp X => ?_)
            obtain ⟨eh, er⟩ := hp
            replace eh := eh.symm
            replace er := er.symm
            subst eh er
            refine lv_bipush (v := 32) hx hb d_Line_split_52 (by decide) ?_
            refine lv_icmp_ne (tgt := 71) hx hb d_Line_split_54 (by decide) (fun c8 => ?_) (fun c8 => ?_)
            · skip
              have hfn : ¬ f k = 32 := by rw [hc3]; exact c8
              have hke := hkl
              refine lv_iinc (v := (i5 + 1)) (lv' := [(5, .int (i5 + 1)), (0, .ref a), (1, .ref t), (2, .int (nI bg)), (3, .int (nI en)), (4, .int i4)]) hx hb d_Line_split_71 hl (k := 5) rfl rfl (by decide) rfl (fun ls hl => ?_)
              refine lv_goto (tgt := 16) hx hb d_Line_split_74 (by decide) ?_
              exact ih_lp (k + 1) s2 cw fs2 fe2 i4 (i5 + 1) ls _ _ (by rw [ei5]; exact nI_1 k) ei4 (spI_go hI hke hfn) hcw hfe (by omega) X (lv_sub hl [1, 2, 3, 4, 5, 0] rfl)
            · skip
              have hf32 : k < en → f k = 32 := fun _ => by rw [hc3]; exact c8
              refine lv_aload_n hx hb d_Line_split_57 rfl (lv_at hl 0 rfl) ?_
              refine lv_iload hx hb d_Line_split_58 (lv_at hl 4 rfl) ?_
              refine lv_iload hx hb d_Line_split_60 (lv_at hl 5 rfl) ?_
              rw [ei4, ei5]
              refine mv_bv X (mv_rV (rest := []) (As := [.int (nI s2), .int (nI k)]) gt_good C X k_2_38 (cm_Line_addWord hE hse hcw2 (by have := hI.2.1; have := hI.2.2.1; omega) (by omega) (vup_s _ _ _) wa ((vup_n _ _ (Ne.symm (vne_oa ka k1))).trans ((vup_n _ _ hse).trans (vup_s _ _ _))) w1 ((vup_n _ _ (Ne.symm (vne_oa ka k2))).trans (vup_s _ _ _)) w2) (vup_s _ _ _) rfl rfl ⟨Nat.le_of_ble_eq_true rfl, Nat.le_of_ble_eq_true rfl⟩ rfl hl.1 rfl (Nat.le_of_ble_eq_true rfl) d_Line_split_62 ⟨Nat.zero_le _, Nat.zero_le _⟩) (fun hN H locs hp X => ?_)
              rcases hp with ⟨hns, hp⟩ | ⟨hns, hp⟩
              · replace hp := hp.symm
                subst hp
                rw [vcan hse (Ne.symm (vne_oa ka k1)) (Ne.symm (vne_oa ka k2))] at X
                have X : vO S0 D vcl (vup (vup (vup h0 as1 (.inl (dT 0, 6, .inl (upd fs2 cw (nI s2))))) ae1 (.inl (dT 0, 6, .inl (upd fe2 cw (nI k))))) a (.inr (6, [.ref as1, .ref ae1, .ref t, .int (nI (cw + 1))]))) s H locs := X
                have hW1 := spI_wd hI hns hf32 hke
                refine lv_iload hx hb d_Line_split_65 (lv_at hl 5 rfl) ?_
                refine lv_iconst (v := 1) hx hb d_Line_split_67 (by decide) ?_
                refine lv_iadd hx hb d_Line_split_68 ?_
                refine lv_istore (lv' := [(4, .int (i5 + 1)), (0, .ref a), (1, .ref t), (2, .int (nI bg)), (3, .int (nI en)), (5, .int i5)]) hx hb d_Line_split_69 hl (by decide) rfl (fun ls hl => ?_)
                refine lv_iinc (v := (i5 + 1)) (lv' := [(5, .int (i5 + 1)), (4, .int (i5 + 1)), (0, .ref a), (1, .ref t), (2, .int (nI bg)), (3, .int (nI en))]) hx hb d_Line_split_71 hl (k := 5) rfl rfl (by decide) rfl (fun ls hl => ?_)
                refine lv_goto (tgt := 16) hx hb d_Line_split_74 (by decide) ?_
                exact ih_lp (k + 1) (k + 1) (cw + 1) (upd fs2 cw (nI s2)) (upd fe2 cw (nI k)) (i5 + 1) (i5 + 1) ls _ _ (by rw [ei5]; exact nI_1 k) (by rw [ei5]; exact nI_1 k) hW1.2.2.2 (by omega) (fun i0 hi => by
                    by_cases z : i0 = cw
                    · rw [z, pk_us, pk_us, hW1.1, hW1.2.1]; exact ⟨rfl, rfl⟩
                    · rw [pk_un z, pk_un z]; exact hfe i0 (by omega)) (by omega) X (lv_sub hl [2, 3, 4, 5, 1, 0] rfl)
              · replace hp := hp.symm
                subst hp
                refine lv_iload hx hb d_Line_split_65 (lv_at hl 5 rfl) ?_
                refine lv_iconst (v := 1) hx hb d_Line_split_67 (by decide) ?_
                refine lv_iadd hx hb d_Line_split_68 ?_
                refine lv_istore (lv' := [(4, .int (i5 + 1)), (0, .ref a), (1, .ref t), (2, .int (nI bg)), (3, .int (nI en)), (5, .int i5)]) hx hb d_Line_split_69 hl (by decide) rfl (fun ls hl => ?_)
                refine lv_iinc (v := (i5 + 1)) (lv' := [(5, .int (i5 + 1)), (4, .int (i5 + 1)), (0, .ref a), (1, .ref t), (2, .int (nI bg)), (3, .int (nI en))]) hx hb d_Line_split_71 hl (k := 5) rfl rfl (by decide) rfl (fun ls hl => ?_)
                refine lv_goto (tgt := 16) hx hb d_Line_split_74 (by decide) ?_
                exact ih_lp (k + 1) (k + 1) cw fs2 fe2 (i5 + 1) (i5 + 1) ls _ _ (by rw [ei5]; exact nI_1 k) (by rw [ei5]; exact nI_1 k) (spI_sp hI hns hf32 hke) hcw hfe (by omega) X (lv_sub hl [2, 3, 4, 5, 1, 0] rfl)
  exact lp (en + 2 - bg + 1) bg bg 0 fs fe (nI bg) (nI bg) ls _ _ rfl rfl (spI_0 hb0) (by decide) (fun i0 hi => absurd hi (Nat.not_lt_zero _)) (Nat.lt_succ_self _) X (lv_sub hl [2, 3, 4, 5, 1, 0] rfl)
theorem cm_AL_add_8 {l : Launch} {S0 : State} {b : Nat} {D : va_G} {dT : Nat → ClassId} (hE : vEnv S0 b D dT) {dE mO : Nat} (hJ : vJ S0 dE mO) {h0 : vH} {a ea n cap q0 : Nat} {md : Int32} {f : Nat → Option Nat} {fs : List Value} (hL : hLst dT dE S0.heap.size h0 a ea n cap f md) (hel : elO h0 f n) (kq : h0 q0 = some (.inr (8, fs))) : vMi l S0 D vcl GT y_ArrayList_add prog_27_method_25_code 2 (some .boolean) 6 140 1 (10 + 2 * n) [.ref a, .ref q0] h0 (fun r h' => r = 1 ∧ lAdd dT S0.heap.size h0 h' a ea n f q0) := by
  obtain ⟨ka, wa, ke, ⟨hn, hc2⟩, hd⟩ := hL
  rcases hd with ⟨e1, e2, e3⟩ | ⟨we, -, h0c⟩
  · subst e1 e2 e3
    exact vMi_mono (cm_AL_addE_8 hE hJ ka wa ke kq) (Nat.le_of_ble_eq_true rfl) (Nat.le_of_ble_eq_true rfl) (by decide) (by omega) (fun _ _ q => q)
  · by_cases hlt : n < cap
    · exact vMi_mono (cm_AL_add0_8 hE hJ hlt (by omega) ka wa ke we kq) (Nat.le_of_ble_eq_true rfl) (Nat.le_of_ble_eq_true rfl) (by decide) (by omega) (fun _ _ q => q)
    · have e1 : cap = n := by omega
      subst e1
      exact vMi_mono (cm_AL_addN_8 hE hJ h0c (by omega) hel ka wa ke we kq) (Nat.le_of_ble_eq_true rfl) (Nat.le_of_ble_eq_true rfl) (by decide) (by omega) (fun _ _ q => q)
theorem cm_AL_add_9 {l : Launch} {S0 : State} {b : Nat} {D : va_G} {dT : Nat → ClassId} (hE : vEnv S0 b D dT) {dE mO : Nat} (hJ : vJ S0 dE mO) {h0 : vH} {a ea n cap q0 : Nat} {md : Int32} {f : Nat → Option Nat} {fs : List Value} (hL : hLst dT dE S0.heap.size h0 a ea n cap f md) (hel : elO h0 f n) (kq : h0 q0 = some (.inr (9, fs))) : vMi l S0 D vcl GT y_ArrayList_add prog_27_method_25_code 2 (some .boolean) 6 140 1 (10 + 2 * n) [.ref a, .ref q0] h0 (fun r h' => r = 1 ∧ lAdd dT S0.heap.size h0 h' a ea n f q0) := by
  obtain ⟨ka, wa, ke, ⟨hn, hc2⟩, hd⟩ := hL
  rcases hd with ⟨e1, e2, e3⟩ | ⟨we, -, h0c⟩
  · subst e1 e2 e3
    exact vMi_mono (cm_AL_addE_9 hE hJ ka wa ke kq) (Nat.le_of_ble_eq_true rfl) (Nat.le_of_ble_eq_true rfl) (by decide) (by omega) (fun _ _ q => q)
  · by_cases hlt : n < cap
    · exact vMi_mono (cm_AL_add0_9 hE hJ hlt (by omega) ka wa ke we kq) (Nat.le_of_ble_eq_true rfl) (Nat.le_of_ble_eq_true rfl) (by decide) (by omega) (fun _ _ q => q)
    · have e1 : cap = n := by omega
      subst e1
      exact vMi_mono (cm_AL_addN_9 hE hJ h0c (by omega) hel ka wa ke we kq) (Nat.le_of_ble_eq_true rfl) (Nat.le_of_ble_eq_true rfl) (by decide) (by omega) (fun _ _ q => q)
theorem cm_AL_add_10 {l : Launch} {S0 : State} {b : Nat} {D : va_G} {dT : Nat → ClassId} (hE : vEnv S0 b D dT) {dE mO : Nat} (hJ : vJ S0 dE mO) {h0 : vH} {a ea n cap q0 : Nat} {md : Int32} {f : Nat → Option Nat} {fs : List Value} (hL : hLst dT dE S0.heap.size h0 a ea n cap f md) (hel : elO h0 f n) (kq : h0 q0 = some (.inr (10, fs))) : vMi l S0 D vcl GT y_ArrayList_add prog_27_method_25_code 2 (some .boolean) 6 140 1 (10 + 2 * n) [.ref a, .ref q0] h0 (fun r h' => r = 1 ∧ lAdd dT S0.heap.size h0 h' a ea n f q0) := by
  obtain ⟨ka, wa, ke, ⟨hn, hc2⟩, hd⟩ := hL
  rcases hd with ⟨e1, e2, e3⟩ | ⟨we, -, h0c⟩
  · subst e1 e2 e3
    exact vMi_mono (cm_AL_addE_10 hE hJ ka wa ke kq) (Nat.le_of_ble_eq_true rfl) (Nat.le_of_ble_eq_true rfl) (by decide) (by omega) (fun _ _ q => q)
  · by_cases hlt : n < cap
    · exact vMi_mono (cm_AL_add0_10 hE hJ hlt (by omega) ka wa ke we kq) (Nat.le_of_ble_eq_true rfl) (Nat.le_of_ble_eq_true rfl) (by decide) (by omega) (fun _ _ q => q)
    · have e1 : cap = n := by omega
      subst e1
      exact vMi_mono (cm_AL_addN_10 hE hJ h0c (by omega) hel ka wa ke we kq) (Nat.le_of_ble_eq_true rfl) (Nat.le_of_ble_eq_true rfl) (by decide) (by omega) (fun _ _ q => q)
theorem cm_AL_add_11 {l : Launch} {S0 : State} {b : Nat} {D : va_G} {dT : Nat → ClassId} (hE : vEnv S0 b D dT) {dE mO : Nat} (hJ : vJ S0 dE mO) {h0 : vH} {a ea n cap q0 : Nat} {md : Int32} {f : Nat → Option Nat} {fs : List Value} (hL : hLst dT dE S0.heap.size h0 a ea n cap f md) (hel : elO h0 f n) (kq : h0 q0 = some (.inr (11, fs))) : vMi l S0 D vcl GT y_ArrayList_add prog_27_method_25_code 2 (some .boolean) 6 140 1 (10 + 2 * n) [.ref a, .ref q0] h0 (fun r h' => r = 1 ∧ lAdd dT S0.heap.size h0 h' a ea n f q0) := by
  obtain ⟨ka, wa, ke, ⟨hn, hc2⟩, hd⟩ := hL
  rcases hd with ⟨e1, e2, e3⟩ | ⟨we, -, h0c⟩
  · subst e1 e2 e3
    exact vMi_mono (cm_AL_addE_11 hE hJ ka wa ke kq) (Nat.le_of_ble_eq_true rfl) (Nat.le_of_ble_eq_true rfl) (by decide) (by omega) (fun _ _ q => q)
  · by_cases hlt : n < cap
    · exact vMi_mono (cm_AL_add0_11 hE hJ hlt (by omega) ka wa ke we kq) (Nat.le_of_ble_eq_true rfl) (Nat.le_of_ble_eq_true rfl) (by decide) (by omega) (fun _ _ q => q)
    · have e1 : cap = n := by omega
      subst e1
      exact vMi_mono (cm_AL_addN_11 hE hJ h0c (by omega) hel ka wa ke we kq) (Nat.le_of_ble_eq_true rfl) (Nat.le_of_ble_eq_true rfl) (by decide) (by omega) (fun _ _ q => q)
theorem cm_AL_clear {l : Launch} {S0 : State} {b : Nat} {D : va_G} {dT : Nat → ClassId} (hE : vEnv S0 b D dT) {dE mO : Nat} (hJ : vJ S0 dE mO) {h0 : vH} {a ea n cap : Nat} {md : Int32} {f : Nat → Option Nat} (hL : hLst dT dE S0.heap.size h0 a ea n cap f md) : vMv l S0 D vcl GT y_ArrayList_clear prog_27_method_40_code 4 none 0 0 0 0 [.ref a] h0 (fun h' => ∃ md' f2, h' a = some (.inr (2, [.ref ea, .int 0, .int md'])) ∧ h' ea = some (.inl (dT 4, cap, .inr (.inr (.inr (.inr f2))))) ∧ vfx (fun b => b = a ∨ (b = ea ∧ S0.heap.size ≤ b)) h0 h') := by
  obtain ⟨ka, wa, ke, ⟨hn, hc2⟩, hd⟩ := hL
  rcases hd with ⟨e1, e2, e3⟩ | ⟨we, -, h0c⟩
  · subst e1
    exact vMv_mono (cm_AL_clear0 hE ka wa ke) (Nat.le_of_ble_eq_true rfl) (Nat.le_of_ble_eq_true rfl) (Nat.le_refl _) (Nat.le_refl _) (fun _ q => q)
  · exact vMv_mono (cm_AL_clearN hE hn (by omega) ka wa ke we) (Nat.le_of_ble_eq_true rfl) (Nat.le_of_ble_eq_true rfl) (Nat.le_refl _) (Nat.le_refl _) (fun _ q => q)
theorem d_Line_init_0 : decode prog_3_method_1_code 0 = .ok (.aload_n 0, 1) := by decide +kernel
theorem d_Line_init_1 : decode prog_3_method_1_code 1 = .ok (.invokespecial 3, 3) := by decide +kernel
theorem d_Line_init_4 : decode prog_3_method_1_code 4 = .ok (.aload_n 0, 1) := by decide +kernel
theorem d_Line_init_5 : decode prog_3_method_1_code 5 = .ok (.bipush 6, 2) := by decide +kernel
theorem d_Line_init_7 : decode prog_3_method_1_code 7 = .ok (.newarray .int, 2) := by decide +kernel
theorem d_Line_init_9 : decode prog_3_method_1_code 9 = .ok (.putfield 11, 3) := by decide +kernel
theorem d_Line_init_12 : decode prog_3_method_1_code 12 = .ok (.aload_n 0, 1) := by decide +kernel
theorem d_Line_init_13 : decode prog_3_method_1_code 13 = .ok (.bipush 6, 2) := by decide +kernel
theorem d_Line_init_15 : decode prog_3_method_1_code 15 = .ok (.newarray .int, 2) := by decide +kernel
theorem d_Line_init_17 : decode prog_3_method_1_code 17 = .ok (.putfield 15, 3) := by decide +kernel
theorem d_Line_init_20 : decode prog_3_method_1_code 20 = .ok (.aload_n 0, 1) := by decide +kernel
theorem d_Line_init_21 : decode prog_3_method_1_code 21 = .ok (.ldc 18, 2) := by decide +kernel
theorem d_Line_init_23 : decode prog_3_method_1_code 23 = .ok (.putfield 20, 3) := by decide +kernel
theorem d_Line_init_26 : decode prog_3_method_1_code 26 = .ok (.return_, 1) := by decide +kernel
set_option maxRecDepth 100000 in
set_option maxHeartbeats 4000000 in
theorem cm_Line_init {l : Launch} {S0 : State} {b : Nat} {D : va_G} {dT : Nat → ClassId} (hE : vEnv S0 b D dT) {h0 : vH} {a lt : Nat} {tx : String} (hlt : vk_R "MenuScreens$Line" 18 tx lt S0) (ka : h0 a = some (.inr (6, [.null, .null, .null, .int 0]))) (wa : S0.heap.size ≤ a) : vMv l S0 D vcl GT y_Line_init prog_3_method_1_code 1 none 1 12 2 12 [.ref a] h0 (fun h' => ∃ q1 q2, (h0 q1 = none ∧ S0.heap.size ≤ q1) ∧ (h0 q2 = none ∧ S0.heap.size ≤ q2) ∧ q1 ≠ q2 ∧ h' = vup (vup (vup h0 q1 (aI dT 6 (fun _ => 0))) q2 (aI dT 6 (fun _ => 0))) a (.inr (6, [.ref q1, .ref q2, .ref lt, .int 0]))) := by
  unfold vMv
  refine vM_ofQ hE.1 (by decide) (Nat.le_of_ble_eq_true rfl) (fun p e s m args below meth c ls Q hQ C hr hlk hnm X hl => ?_)
  have C : vC p s m _ c _ _ "MenuScreens$Line" GT D vcl (vty dT) := C
  have hx := C.1.1
  have hb := C.1.2.1
  obtain ⟨H, eH⟩ : ∃ z, z = s.heap := ⟨_, rfl⟩
  obtain ⟨locs, elocs⟩ : ∃ z : List Loc, z = [] := ⟨_, rfl⟩
  rw [← eH, ← elocs] at X
  rw [← eH, ← elocs]
  clear eH elocs
  have hl : lv_has ls 1 [(0, .ref a)] := hl
  refine lv_aload_n hx hb d_Line_init_0 rfl (lv_at hl 0 rfl) ?_
  refine mv_obj C hl.1 ⟨gt_1 129 (by decide +kernel) rfl, gt_1 34 (by decide +kernel) rfl, gt_1 35 (rfl) rfl⟩ (Nat.le_of_ble_eq_true rfl) (Nat.le_of_ble_eq_true rfl) d_Line_init_1 ?_
  refine lv_aload_n hx hb d_Line_init_4 rfl (lv_at hl 0 rfl) ?_
  refine lv_bipush (v := 6) hx hb d_Line_init_5 (by decide) ?_
  refine mv_newa C X (gt_1 123 (by decide +kernel) rfl) (ty := .int) rfl 0 rfl 6 (a0 := (6, .inl (fun _ => 0))) (fun _ => rfl) rfl (by decide) (by show 6 * 4 ≤ _; omega) (by show 0 + 1 ≤ 2; omega) (by show 0 + 6 ≤ 12; omega) d_Line_init_7 (fun q1 H z_q1 w_q1 X => ?_)
  have n_a_q1 : a ≠ q1 := vnf ka z_q1
  have X : vO S0 D vcl (vup h0 q1 (.inl (dT 0, 6, .inl (fun _ => 0)))) s H locs := X
  refine mv_putF C X ((vup_n _ _ n_a_q1).trans ka) wa 0 hnm p_2_11_6 rfl rfl (Nat.le_of_ble_eq_true rfl) d_Line_init_9 (fun H locs X => ?_)
  have X : vO S0 D vcl (vup (vup h0 q1 (.inl (dT 0, 6, .inl (fun _ => 0)))) a (.inr (6, [.ref q1, .null, .null, .int 0]))) s H locs := X
  refine lv_aload_n hx hb d_Line_init_12 rfl (lv_at hl 0 rfl) ?_
  refine lv_bipush (v := 6) hx hb d_Line_init_13 (by decide) ?_
  refine mv_newa C X (gt_1 123 (by decide +kernel) rfl) (ty := .int) rfl 0 rfl 6 (a0 := (6, .inl (fun _ => 0))) (fun _ => rfl) rfl (by decide) (by show 6 * 4 ≤ _; omega) (by show (0 + 1) + 1 ≤ 2; omega) (by show (0 + 6) + 6 ≤ 12; omega) d_Line_init_15 (fun q2 H z_q2 w_q2 X => ?_)
  have n_a_q2 : a ≠ q2 := vnf (vup_s _ _ _) z_q2
  have n_q1_q2 : q1 ≠ q2 := vnf ((vup_n _ _ (Ne.symm n_a_q1)).trans (vup_s _ _ _)) z_q2
  have X : vO S0 D vcl (vup (vup (vup h0 q1 (.inl (dT 0, 6, .inl (fun _ => 0)))) a (.inr (6, [.ref q1, .null, .null, .int 0]))) q2 (.inl (dT 0, 6, .inl (fun _ => 0)))) s H locs := X
  refine mv_putF C X ((vup_n _ _ n_a_q2).trans (vup_s _ _ _)) wa 1 hnm p_2_15_6 rfl rfl (Nat.le_of_ble_eq_true rfl) d_Line_init_17 (fun H locs X => ?_)
  have X : vO S0 D vcl (vup (vup (vup (vup h0 q1 (.inl (dT 0, 6, .inl (fun _ => 0)))) a (.inr (6, [.ref q1, .null, .null, .int 0]))) q2 (.inl (dT 0, 6, .inl (fun _ => 0)))) a (.inr (6, [.ref q1, .ref q2, .null, .int 0]))) s H locs := X
  refine lv_aload_n hx hb d_Line_init_20 rfl (lv_at hl 0 rfl) ?_
  refine mv_ldcS C X hlt d_Line_init_21 ?_
  refine mv_put C X (vup_s _ _ _) wa 2 p_2_20_6 rfl rfl (Nat.le_of_ble_eq_true rfl) d_Line_init_23 (fun H locs X => ?_)
  rw [vup_u] at X
  have X : vO S0 D vcl (vup (vup (vup (vup h0 q1 (.inl (dT 0, 6, .inl (fun _ => 0)))) a (.inr (6, [.ref q1, .null, .null, .int 0]))) q2 (.inl (dT 0, 6, .inl (fun _ => 0)))) a (.inr (6, [.ref q1, .ref q2, .ref lt, .int 0]))) s H locs := X
  exact mq_vret hQ C X hr hlk (⟨q1, q2, ⟨z_q1, w_q1⟩, ⟨((vup_n _ _ (Ne.symm n_q1_q2)).symm.trans ((vup_n _ _ (Ne.symm n_a_q2)).symm.trans z_q2)), w_q2⟩, n_q1_q2, funext (fun b0 => by
      by_cases e1 : b0 = a
      · rw [e1]; simp only [vup_s]
      · by_cases e3 : b0 = q2
        · rw [e3]; simp only [vup_s, vup_n _ _ (Ne.symm n_a_q2)]
        · by_cases e2 : b0 = q1
          · rw [e2]; simp only [vup_s, vup_n _ _ (Ne.symm n_a_q1), vup_n _ _ n_q1_q2]
          · simp only [vup_n _ _ e1, vup_n _ _ e2, vup_n _ _ e3])⟩) (by omega) (by omega) d_Line_init_26
