theorem d_Warnings_init_0 : decode prog_10_method_1_code 0 = .ok (.aload_n 0, 1) := by decide +kernel
theorem d_Warnings_init_1 : decode prog_10_method_1_code 1 = .ok (.invokespecial 3, 3) := by decide +kernel
theorem d_Warnings_init_4 : decode prog_10_method_1_code 4 = .ok (.aload_n 0, 1) := by decide +kernel
theorem d_Warnings_init_5 : decode prog_10_method_1_code 5 = .ok (.sipush 200, 3) := by decide +kernel
theorem d_Warnings_init_8 : decode prog_10_method_1_code 8 = .ok (.newarray .int, 2) := by decide +kernel
theorem d_Warnings_init_10 : decode prog_10_method_1_code 10 = .ok (.putfield 9, 3) := by decide +kernel
theorem d_Warnings_init_13 : decode prog_10_method_1_code 13 = .ok (.aload_n 0, 1) := by decide +kernel
theorem d_Warnings_init_14 : decode prog_10_method_1_code 14 = .ok (.sipush 200, 3) := by decide +kernel
theorem d_Warnings_init_17 : decode prog_10_method_1_code 17 = .ok (.newarray .long, 2) := by decide +kernel
theorem d_Warnings_init_19 : decode prog_10_method_1_code 19 = .ok (.putfield 15, 3) := by decide +kernel
theorem d_Warnings_init_22 : decode prog_10_method_1_code 22 = .ok (.aload_n 0, 1) := by decide +kernel
theorem d_Warnings_init_23 : decode prog_10_method_1_code 23 = .ok (.sipush 200, 3) := by decide +kernel
theorem d_Warnings_init_26 : decode prog_10_method_1_code 26 = .ok (.newarray .int, 2) := by decide +kernel
theorem d_Warnings_init_28 : decode prog_10_method_1_code 28 = .ok (.putfield 19, 3) := by decide +kernel
theorem d_Warnings_init_31 : decode prog_10_method_1_code 31 = .ok (.return_, 1) := by decide +kernel
set_option maxRecDepth 100000 in
set_option maxHeartbeats 4000000 in
theorem cm_Warnings_init {l : Launch} {S0 : State} {b : Nat} {D : va_G} {dT : Nat → ClassId} (hE : vEnv S0 b D dT) {dE mO : Nat} (hJ : vJ S0 dE mO) {h0 : vH} {hcv : vH} {ad : Nat → Nat → Nat} {L : vL} (xl : LH S0.heap.size hcv h0 ad L) (h80 : L 8 0 = some (.inr (7, [.null, .null, .null, .int 0, .int 0, .long 0]))) : vMv l S0 D vcl GT y_Warnings_init prog_10_method_1_code 1 none 1 12 3 600 [.ref (ad 8 0)] h0 (fun h' => ∃ ad' L', LR S0.heap.size hcv h0 ad L h' ad' L' ∧ (∀ i, i ≠ 8 → L' i = L i ∧ ad' i = ad i) ∧ ad' 8 0 = ad 8 0 ∧ L' 8 0 = some (.inr (7, [.ref (ad' 8 1), .ref (ad' 8 2), .ref (ad' 8 3), .int 0, .int 0, .long 0])) ∧ L' 8 1 = some (aI dT 200 (fun _ => 0)) ∧ L' 8 2 = some (aL dT 200 (fun _ => 0)) ∧ L' 8 3 = some (aI dT 200 (fun _ => 0))) := by
  unfold vMv
  refine vM_ofQ hE.1 (by decide) (Nat.le_of_ble_eq_true rfl) (fun p e s m args below meth c ls Q hQ C hr hlk hnm X hl => ?_)
  have C : vC p s m _ c _ _ "MenuScreens$Warnings" GT D vcl (vty dT) := C
  have hx := C.1.1
  have hb := C.1.2.1
  obtain ⟨H, eH⟩ : ∃ z, z = s.heap := ⟨_, rfl⟩
  obtain ⟨locs, elocs⟩ : ∃ z : List Loc, z = [] := ⟨_, rfl⟩
  rw [← eH, ← elocs] at X
  rw [← eH, ← elocs]
  clear eH elocs
  have hl : lv_has ls 1 [(0, .ref (ad 8 0))] := hl
  refine lv_aload_n hx hb d_Warnings_init_0 rfl (lv_at hl 0 rfl) ?_
  refine mv_obj C hl.1 ⟨gt_1 163 (by decide +kernel) rfl, gt_1 34 (by decide +kernel) rfl, gt_1 35 (rfl) rfl⟩ (Nat.le_of_ble_eq_true rfl) (Nat.le_of_ble_eq_true rfl) d_Warnings_init_1 ?_
  refine lv_aload_n hx hb d_Warnings_init_4 rfl (lv_at hl 0 rfl) ?_
  refine lv_sipush (v := 200) hx hb d_Warnings_init_5 (by decide) ?_
  refine mv_newa C X (gt_1 123 (by decide +kernel) rfl) (ty := .int) rfl 0 rfl 200 (a0 := (200, .inl (fun _ => 0))) (fun _ => rfl) rfl (by decide) (by show 200 * 4 ≤ _; omega) (by show 0 + 1 ≤ 3; omega) (by show 0 + 200 ≤ 600; omega) d_Warnings_init_8 (fun q1 H z_q1 w_q1 X => ?_)
  have n__ad_8_0__q1 : (ad 8 0) ≠ q1 := vnf (xl.get (i := 8) (j := 0) h80) z_q1
  have X : vO S0 D vcl (vup h0 q1 (.inl (dT 0, 200, .inl (fun _ => 0)))) s H locs := X
  refine mv_putF C X ((vup_n _ _ n__ad_8_0__q1).trans (xl.get (i := 8) (j := 0) h80)) (xl.wr (i := 8) (j := 0) h80) 0 hnm p_9_9_7 rfl rfl (Nat.le_of_ble_eq_true rfl) d_Warnings_init_10 (fun H locs X => ?_)
  have X : vO S0 D vcl (vup (vup h0 q1 (.inl (dT 0, 200, .inl (fun _ => 0)))) (ad 8 0) (.inr (7, [.ref q1, .null, .null, .int 0, .int 0, .long 0]))) s H locs := X
  refine lv_aload_n hx hb d_Warnings_init_13 rfl (lv_at hl 0 rfl) ?_
  refine lv_sipush (v := 200) hx hb d_Warnings_init_14 (by decide) ?_
  refine mv_newa C X (gt_1 183 (by decide +kernel) rfl) (ty := .long) rfl 1 rfl 200 (a0 := (200, .inr (.inl (fun _ => 0)))) (fun _ => rfl) rfl (by decide) (by show 200 * 8 ≤ _; omega) (by show (0 + 1) + 1 ≤ 3; omega) (by show (0 + 200) + 200 ≤ 600; omega) d_Warnings_init_17 (fun q2 H z_q2 w_q2 X => ?_)
  have n__ad_8_0__q2 : (ad 8 0) ≠ q2 := vnf (vup_s _ _ _) z_q2
  have n_q1_q2 : q1 ≠ q2 := vnf ((vup_n _ _ (Ne.symm n__ad_8_0__q1)).trans (vup_s _ _ _)) z_q2
  have X : vO S0 D vcl (vup (vup (vup h0 q1 (.inl (dT 0, 200, .inl (fun _ => 0)))) (ad 8 0) (.inr (7, [.ref q1, .null, .null, .int 0, .int 0, .long 0]))) q2 (.inl (dT 1, 200, .inr (.inl (fun _ => 0))))) s H locs := X
  refine mv_putF C X ((vup_n _ _ n__ad_8_0__q2).trans (vup_s _ _ _)) (xl.wr (i := 8) (j := 0) h80) 1 hnm p_9_15_7 rfl rfl (Nat.le_of_ble_eq_true rfl) d_Warnings_init_19 (fun H locs X => ?_)
  have X : vO S0 D vcl (vup (vup (vup (vup h0 q1 (.inl (dT 0, 200, .inl (fun _ => 0)))) (ad 8 0) (.inr (7, [.ref q1, .null, .null, .int 0, .int 0, .long 0]))) q2 (.inl (dT 1, 200, .inr (.inl (fun _ => 0))))) (ad 8 0) (.inr (7, [.ref q1, .ref q2, .null, .int 0, .int 0, .long 0]))) s H locs := X
  refine lv_aload_n hx hb d_Warnings_init_22 rfl (lv_at hl 0 rfl) ?_
  refine lv_sipush (v := 200) hx hb d_Warnings_init_23 (by decide) ?_
  refine mv_newa C X (gt_1 123 (by decide +kernel) rfl) (ty := .int) rfl 0 rfl 200 (a0 := (200, .inl (fun _ => 0))) (fun _ => rfl) rfl (by decide) (by show 200 * 4 ≤ _; omega) (by show ((0 + 1) + 1) + 1 ≤ 3; omega) (by show ((0 + 200) + 200) + 200 ≤ 600; omega) d_Warnings_init_26 (fun q3 H z_q3 w_q3 X => ?_)
  have n__ad_8_0__q3 : (ad 8 0) ≠ q3 := vnf (vup_s _ _ _) z_q3
  have n_q1_q3 : q1 ≠ q3 := vnf ((vup_n _ _ (Ne.symm n__ad_8_0__q1)).trans ((vup_n _ _ n_q1_q2).trans ((vup_n _ _ (Ne.symm n__ad_8_0__q1)).trans (vup_s _ _ _)))) z_q3
  have n_q2_q3 : q2 ≠ q3 := vnf ((vup_n _ _ (Ne.symm n__ad_8_0__q2)).trans (vup_s _ _ _)) z_q3
  have X : vO S0 D vcl (vup (vup (vup (vup (vup h0 q1 (.inl (dT 0, 200, .inl (fun _ => 0)))) (ad 8 0) (.inr (7, [.ref q1, .null, .null, .int 0, .int 0, .long 0]))) q2 (.inl (dT 1, 200, .inr (.inl (fun _ => 0))))) (ad 8 0) (.inr (7, [.ref q1, .ref q2, .null, .int 0, .int 0, .long 0]))) q3 (.inl (dT 0, 200, .inl (fun _ => 0)))) s H locs := X
  refine mv_putF C X ((vup_n _ _ n__ad_8_0__q3).trans (vup_s _ _ _)) (xl.wr (i := 8) (j := 0) h80) 2 hnm p_9_19_7 rfl rfl (Nat.le_of_ble_eq_true rfl) d_Warnings_init_28 (fun H locs X => ?_)
  have X : vO S0 D vcl (vup (vup (vup (vup (vup (vup h0 q1 (.inl (dT 0, 200, .inl (fun _ => 0)))) (ad 8 0) (.inr (7, [.ref q1, .null, .null, .int 0, .int 0, .long 0]))) q2 (.inl (dT 1, 200, .inr (.inl (fun _ => 0))))) (ad 8 0) (.inr (7, [.ref q1, .ref q2, .null, .int 0, .int 0, .long 0]))) q3 (.inl (dT 0, 200, .inl (fun _ => 0)))) (ad 8 0) (.inr (7, [.ref q1, .ref q2, .ref q3, .int 0, .int 0, .long 0]))) s H locs := X
  exact mq_vret hQ C X hr hlk (⟨_, _, (((((((LR.of xl).new 8 1 (e' := .inl (dT 0, 200, .inl (fun _ => 0))) z_q1 w_q1).put (i := 8) (j := 0) (e' := .inr (7, [.ref q1, .null, .null, .int 0, .int 0, .long 0])) (show L 8 0 = some (.inr (7, [.null, .null, .null, .int 0, .int 0, .long 0])) from h80)).new 8 2 (e' := .inl (dT 1, 200, .inr (.inl (fun _ => 0)))) z_q2 w_q2).put (i := 8) (j := 0) (e' := .inr (7, [.ref q1, .ref q2, .null, .int 0, .int 0, .long 0])) rfl).new 8 3 (e' := .inl (dT 0, 200, .inl (fun _ => 0))) z_q3 w_q3).put (i := 8) (j := 0) (e' := .inr (7, [.ref q1, .ref q2, .ref q3, .int 0, .int 0, .long 0])) rfl), fun i q8 => ⟨by simp only [lput_k _ _ q8], by simp only [lput_k _ _ q8]⟩, rfl, rfl, rfl, rfl, rfl⟩) (by omega) (by omega) d_Warnings_init_31
theorem d_Plan_init_0 : decode prog_5_method_1_code 0 = .ok (.aload_n 0, 1) := by decide +kernel
theorem d_Plan_init_1 : decode prog_5_method_1_code 1 = .ok (.invokespecial 3, 3) := by decide +kernel
theorem d_Plan_init_4 : decode prog_5_method_1_code 4 = .ok (.aload_n 0, 1) := by decide +kernel
theorem d_Plan_init_5 : decode prog_5_method_1_code 5 = .ok (.new 9, 3) := by decide +kernel
theorem d_Plan_init_8 : decode prog_5_method_1_code 8 = .ok (.dup, 1) := by decide +kernel
theorem d_Plan_init_9 : decode prog_5_method_1_code 9 = .ok (.invokespecial 11, 3) := by decide +kernel
theorem d_Plan_init_12 : decode prog_5_method_1_code 12 = .ok (.putfield 12, 3) := by decide +kernel
theorem d_Plan_init_15 : decode prog_5_method_1_code 15 = .ok (.aload_n 0, 1) := by decide +kernel
theorem d_Plan_init_16 : decode prog_5_method_1_code 16 = .ok (.new 9, 3) := by decide +kernel
theorem d_Plan_init_19 : decode prog_5_method_1_code 19 = .ok (.dup, 1) := by decide +kernel
theorem d_Plan_init_20 : decode prog_5_method_1_code 20 = .ok (.invokespecial 11, 3) := by decide +kernel
theorem d_Plan_init_23 : decode prog_5_method_1_code 23 = .ok (.putfield 18, 3) := by decide +kernel
theorem d_Plan_init_26 : decode prog_5_method_1_code 26 = .ok (.aload_n 0, 1) := by decide +kernel
theorem d_Plan_init_27 : decode prog_5_method_1_code 27 = .ok (.bipush 30, 2) := by decide +kernel
theorem d_Plan_init_29 : decode prog_5_method_1_code 29 = .ok (.newarray .int, 2) := by decide +kernel
theorem d_Plan_init_31 : decode prog_5_method_1_code 31 = .ok (.putfield 21, 3) := by decide +kernel
theorem d_Plan_init_34 : decode prog_5_method_1_code 34 = .ok (.return_, 1) := by decide +kernel
set_option maxRecDepth 100000 in
set_option maxHeartbeats 4000000 in
theorem cm_Plan_init {l : Launch} {S0 : State} {b : Nat} {D : va_G} {dT : Nat → ClassId} (hE : vEnv S0 b D dT) {dE mO : Nat} (hJ : vJ S0 dE mO) {h0 : vH} {hcv : vH} {ad : Nat → Nat → Nat} {L : vL} (xl : LH S0.heap.size hcv h0 ad L) (h20 : L 2 0 = some (.inr (4, [.null, .null, .null, .int 0]))) : vMv l S0 D vcl GT y_Plan_init prog_5_method_1_code 1 none 4 72 3 36 [.ref (ad 2 0)] h0 (fun h' => ∃ ad' L', LR S0.heap.size hcv h0 ad L h' ad' L' ∧ (∀ i, i ≠ 2 → i ≠ 3 → i ≠ 4 → i ≠ 5 → L' i = L i ∧ ad' i = ad i) ∧ ad' 2 0 = ad 2 0 ∧ L' 2 0 = some (.inr (4, [.ref (ad' 3 0), .ref (ad' 4 0), .ref (ad' 5 0), .int 0])) ∧ L' 3 0 = some (.inr (2, [.ref dE, .int 0, .int 0])) ∧ L' 4 0 = some (.inr (2, [.ref dE, .int 0, .int 0])) ∧ L' 5 0 = some (aI dT 30 (fun _ => 0))) := by
  unfold vMv
  refine vM_ofQ hE.1 (by decide) (Nat.le_of_ble_eq_true rfl) (fun p e s m args below meth c ls Q hQ C hr hlk hnm X hl => ?_)
  have C : vC p s m _ c _ _ "MenuScreens$Plan" GT D vcl (vty dT) := C
  have hx := C.1.1
  have hb := C.1.2.1
  obtain ⟨H, eH⟩ : ∃ z, z = s.heap := ⟨_, rfl⟩
  obtain ⟨locs, elocs⟩ : ∃ z : List Loc, z = [] := ⟨_, rfl⟩
  rw [← eH, ← elocs] at X
  rw [← eH, ← elocs]
  clear eH elocs
  have hl : lv_has ls 1 [(0, .ref (ad 2 0))] := hl
  refine lv_aload_n hx hb d_Plan_init_0 rfl (lv_at hl 0 rfl) ?_
  refine mv_obj C hl.1 ⟨gt_1 80 (by decide +kernel) rfl, gt_1 34 (by decide +kernel) rfl, gt_1 35 (rfl) rfl⟩ (Nat.le_of_ble_eq_true rfl) (Nat.le_of_ble_eq_true rfl) d_Plan_init_1 ?_
  refine lv_aload_n hx hb d_Plan_init_4 rfl (lv_at hl 0 rfl) ?_
  refine mv_new C X n_4_9 (by show 0 + 1 ≤ 3; omega) (by show 0 + 3 ≤ 36; omega) d_Plan_init_5 (fun q1 H z_q1 w_q1 X => ?_)
  have n__ad_2_0__q1 : (ad 2 0) ≠ q1 := vnf (xl.get (i := 2) (j := 0) h20) z_q1
  have X : vO S0 D vcl (vup h0 q1 (.inr (2, [.null, .int 0, .int 0]))) s H locs := X
  change W _ _ _ _ _ _ _ _ _ _ _ _ (0 + 1) (0 + 3) _ _
  refine lv_dup hx hb d_Plan_init_8 rfl ?_
  refine mv_bv X (mv_rI (rest := [.ref q1, .ref (ad 2 0)]) (As := []) gt_good C X k_4_11 (cm_ArrayList_init hE hJ (vup_s _ _ _) w_q1) ⟨Nat.le_of_ble_eq_true rfl, Nat.le_of_ble_eq_true rfl⟩ rfl hl.1 rfl (Nat.le_of_ble_eq_true rfl) d_Plan_init_9 ⟨by show (0 + 1) + 0 ≤ 3; omega, by show (0 + 3) + 0 ≤ 36; omega⟩) (fun hN H locs hp X => ?_)
  replace hp := hp.symm
  subst hp
  have X : vO S0 D vcl (vup (vup h0 q1 (.inr (2, [.null, .int 0, .int 0]))) q1 (.inr (2, [.ref dE, .int 0, .int 0]))) s H locs := X
  refine mv_putF C X ((vup_n _ _ n__ad_2_0__q1).trans ((vup_n _ _ n__ad_2_0__q1).trans (xl.get (i := 2) (j := 0) h20))) (xl.wr (i := 2) (j := 0) h20) 0 hnm p_4_12_4 rfl rfl (Nat.le_of_ble_eq_true rfl) d_Plan_init_12 (fun H locs X => ?_)
  have X : vO S0 D vcl (vup (vup (vup h0 q1 (.inr (2, [.null, .int 0, .int 0]))) q1 (.inr (2, [.ref dE, .int 0, .int 0]))) (ad 2 0) (.inr (4, [.ref q1, .null, .null, .int 0]))) s H locs := X
  refine lv_aload_n hx hb d_Plan_init_15 rfl (lv_at hl 0 rfl) ?_
  refine mv_new C X n_4_9 (by show ((0 + 1) + 0) + 1 ≤ 3; omega) (by show ((0 + 3) + 0) + 3 ≤ 36; omega) d_Plan_init_16 (fun q3 H z_q3 w_q3 X => ?_)
  have n__ad_2_0__q3 : (ad 2 0) ≠ q3 := vnf (vup_s _ _ _) z_q3
  have n_q1_q3 : q1 ≠ q3 := vnf ((vup_n _ _ (Ne.symm n__ad_2_0__q1)).trans (vup_s _ _ _)) z_q3
  have X : vO S0 D vcl (vup (vup (vup (vup h0 q1 (.inr (2, [.null, .int 0, .int 0]))) q1 (.inr (2, [.ref dE, .int 0, .int 0]))) (ad 2 0) (.inr (4, [.ref q1, .null, .null, .int 0]))) q3 (.inr (2, [.null, .int 0, .int 0]))) s H locs := X
  change W _ _ _ _ _ _ _ _ _ _ _ _ (((0 + 1) + 0) + 1) (((0 + 3) + 0) + 3) _ _
  refine lv_dup hx hb d_Plan_init_19 rfl ?_
  refine mv_bv X (mv_rI (rest := [.ref q3, .ref (ad 2 0)]) (As := []) gt_good C X k_4_11 (cm_ArrayList_init hE hJ (vup_s _ _ _) w_q3) ⟨Nat.le_of_ble_eq_true rfl, Nat.le_of_ble_eq_true rfl⟩ rfl hl.1 rfl (Nat.le_of_ble_eq_true rfl) d_Plan_init_20 ⟨by show (((0 + 1) + 0) + 1) + 0 ≤ 3; omega, by show (((0 + 3) + 0) + 3) + 0 ≤ 36; omega⟩) (fun hN H locs hp X => ?_)
  replace hp := hp.symm
  subst hp
  have X : vO S0 D vcl (vup (vup (vup (vup (vup h0 q1 (.inr (2, [.null, .int 0, .int 0]))) q1 (.inr (2, [.ref dE, .int 0, .int 0]))) (ad 2 0) (.inr (4, [.ref q1, .null, .null, .int 0]))) q3 (.inr (2, [.null, .int 0, .int 0]))) q3 (.inr (2, [.ref dE, .int 0, .int 0]))) s H locs := X
  refine mv_putF C X ((vup_n _ _ n__ad_2_0__q3).trans ((vup_n _ _ n__ad_2_0__q3).trans (vup_s _ _ _))) (xl.wr (i := 2) (j := 0) h20) 1 hnm p_4_18_4 rfl rfl (Nat.le_of_ble_eq_true rfl) d_Plan_init_23 (fun H locs X => ?_)
  have X : vO S0 D vcl (vup (vup (vup (vup (vup (vup h0 q1 (.inr (2, [.null, .int 0, .int 0]))) q1 (.inr (2, [.ref dE, .int 0, .int 0]))) (ad 2 0) (.inr (4, [.ref q1, .null, .null, .int 0]))) q3 (.inr (2, [.null, .int 0, .int 0]))) q3 (.inr (2, [.ref dE, .int 0, .int 0]))) (ad 2 0) (.inr (4, [.ref q1, .ref q3, .null, .int 0]))) s H locs := X
  refine lv_aload_n hx hb d_Plan_init_26 rfl (lv_at hl 0 rfl) ?_
  refine lv_bipush (v := 30) hx hb d_Plan_init_27 (by decide) ?_
  refine mv_newa C X (gt_1 123 (by decide +kernel) rfl) (ty := .int) rfl 0 rfl 30 (a0 := (30, .inl (fun _ => 0))) (fun _ => rfl) rfl (by decide) (by show 30 * 4 ≤ _; omega) (by show ((((0 + 1) + 0) + 1) + 0) + 1 ≤ 3; omega) (by show ((((0 + 3) + 0) + 3) + 0) + 30 ≤ 36; omega) d_Plan_init_29 (fun q5 H z_q5 w_q5 X => ?_)
  have n__ad_2_0__q5 : (ad 2 0) ≠ q5 := vnf (vup_s _ _ _) z_q5
  have n_q1_q5 : q1 ≠ q5 := vnf ((vup_n _ _ (Ne.symm n__ad_2_0__q1)).trans ((vup_n _ _ n_q1_q3).trans ((vup_n _ _ n_q1_q3).trans ((vup_n _ _ (Ne.symm n__ad_2_0__q1)).trans (vup_s _ _ _))))) z_q5
  have n_q3_q5 : q3 ≠ q5 := vnf ((vup_n _ _ (Ne.symm n__ad_2_0__q3)).trans (vup_s _ _ _)) z_q5
  have X : vO S0 D vcl (vup (vup (vup (vup (vup (vup (vup h0 q1 (.inr (2, [.null, .int 0, .int 0]))) q1 (.inr (2, [.ref dE, .int 0, .int 0]))) (ad 2 0) (.inr (4, [.ref q1, .null, .null, .int 0]))) q3 (.inr (2, [.null, .int 0, .int 0]))) q3 (.inr (2, [.ref dE, .int 0, .int 0]))) (ad 2 0) (.inr (4, [.ref q1, .ref q3, .null, .int 0]))) q5 (.inl (dT 0, 30, .inl (fun _ => 0)))) s H locs := X
  refine mv_putF C X ((vup_n _ _ n__ad_2_0__q5).trans (vup_s _ _ _)) (xl.wr (i := 2) (j := 0) h20) 2 hnm p_4_21_4 rfl rfl (Nat.le_of_ble_eq_true rfl) d_Plan_init_31 (fun H locs X => ?_)
  have X : vO S0 D vcl (vup (vup (vup (vup (vup (vup (vup (vup h0 q1 (.inr (2, [.null, .int 0, .int 0]))) q1 (.inr (2, [.ref dE, .int 0, .int 0]))) (ad 2 0) (.inr (4, [.ref q1, .null, .null, .int 0]))) q3 (.inr (2, [.null, .int 0, .int 0]))) q3 (.inr (2, [.ref dE, .int 0, .int 0]))) (ad 2 0) (.inr (4, [.ref q1, .ref q3, .null, .int 0]))) q5 (.inl (dT 0, 30, .inl (fun _ => 0)))) (ad 2 0) (.inr (4, [.ref q1, .ref q3, .ref q5, .int 0]))) s H locs := X
  exact mq_vret hQ C X hr hlk (⟨_, _, (((((((((LR.of xl).new 3 0 (e' := .inr (2, [.null, .int 0, .int 0])) z_q1 w_q1).put (i := 3) (j := 0) (e' := .inr (2, [.ref dE, .int 0, .int 0])) rfl).put (i := 2) (j := 0) (e' := .inr (4, [.ref q1, .null, .null, .int 0])) (show L 2 0 = some (.inr (4, [.null, .null, .null, .int 0])) from h20)).new 4 0 (e' := .inr (2, [.null, .int 0, .int 0])) z_q3 w_q3).put (i := 4) (j := 0) (e' := .inr (2, [.ref dE, .int 0, .int 0])) rfl).put (i := 2) (j := 0) (e' := .inr (4, [.ref q1, .ref q3, .null, .int 0])) rfl).new 5 0 (e' := .inl (dT 0, 30, .inl (fun _ => 0))) z_q5 w_q5).put (i := 2) (j := 0) (e' := .inr (4, [.ref q1, .ref q3, .ref q5, .int 0])) rfl), fun i q2 q3 q4 q5 => ⟨by simp only [lput_k _ _ q2, lput_k _ _ q3, lput_k _ _ q4, lput_k _ _ q5], by simp only [lput_k _ _ q2, lput_k _ _ q3, lput_k _ _ q4, lput_k _ _ q5]⟩, rfl, rfl, rfl, rfl, rfl⟩) (by omega) (by omega) d_Plan_init_34
theorem d_Reader_init_0 : decode prog_6_method_1_code 0 = .ok (.aload_n 0, 1) := by decide +kernel
theorem d_Reader_init_1 : decode prog_6_method_1_code 1 = .ok (.invokespecial 3, 3) := by decide +kernel
theorem d_Reader_init_4 : decode prog_6_method_1_code 4 = .ok (.aload_n 0, 1) := by decide +kernel
theorem d_Reader_init_5 : decode prog_6_method_1_code 5 = .ok (.new 9, 3) := by decide +kernel
theorem d_Reader_init_8 : decode prog_6_method_1_code 8 = .ok (.dup, 1) := by decide +kernel
theorem d_Reader_init_9 : decode prog_6_method_1_code 9 = .ok (.invokespecial 11, 3) := by decide +kernel
theorem d_Reader_init_12 : decode prog_6_method_1_code 12 = .ok (.putfield 12, 3) := by decide +kernel
theorem d_Reader_init_15 : decode prog_6_method_1_code 15 = .ok (.aload_n 0, 1) := by decide +kernel
theorem d_Reader_init_16 : decode prog_6_method_1_code 16 = .ok (.new 18, 3) := by decide +kernel
theorem d_Reader_init_19 : decode prog_6_method_1_code 19 = .ok (.dup, 1) := by decide +kernel
theorem d_Reader_init_20 : decode prog_6_method_1_code 20 = .ok (.invokespecial 20, 3) := by decide +kernel
theorem d_Reader_init_23 : decode prog_6_method_1_code 23 = .ok (.putfield 21, 3) := by decide +kernel
theorem d_Reader_init_26 : decode prog_6_method_1_code 26 = .ok (.return_, 1) := by decide +kernel
set_option maxRecDepth 100000 in
set_option maxHeartbeats 4000000 in
theorem cm_Reader_init {l : Launch} {S0 : State} {b : Nat} {D : va_G} {dT : Nat → ClassId} (hE : vEnv S0 b D dT) {dE mO : Nat} (hJ : vJ S0 dE mO) {h0 : vH} {hcv : vH} {ad : Nat → Nat → Nat} {L : vL} (xl : LH S0.heap.size hcv h0 ad L) (h60 : L 6 0 = some (.inr (5, [.null, .null, .null, .null]))) {lt : Nat} {tx : String} (hlt : vk_R "MenuScreens$Line" 18 tx lt S0) : vMv l S0 D vcl GT y_Reader_init prog_6_method_1_code 1 none 5 92 7 56 [.ref (ad 6 0)] h0 (fun h' => ∃ ad' L', LR S0.heap.size hcv h0 ad L h' ad' L' ∧ (∀ i, i ≠ 2 → i ≠ 3 → i ≠ 4 → i ≠ 5 → i ≠ 6 → i ≠ 7 → L' i = L i ∧ ad' i = ad i) ∧ ad' 6 0 = ad 6 0 ∧ L' 6 0 = some (.inr (5, [.ref (ad' 2 0), .ref (ad' 7 0), .null, .null])) ∧ L' 2 0 = some (.inr (4, [.ref (ad' 3 0), .ref (ad' 4 0), .ref (ad' 5 0), .int 0])) ∧ L' 3 0 = some (.inr (2, [.ref dE, .int 0, .int 0])) ∧ L' 4 0 = some (.inr (2, [.ref dE, .int 0, .int 0])) ∧ L' 5 0 = some (aI dT 30 (fun _ => 0)) ∧ L' 7 0 = some (.inr (6, [.ref (ad' 7 1), .ref (ad' 7 2), .ref lt, .int 0])) ∧ L' 7 1 = some (aI dT 6 (fun _ => 0)) ∧ L' 7 2 = some (aI dT 6 (fun _ => 0))) := by
  unfold vMv
  refine vM_ofQ hE.1 (by decide) (Nat.le_of_ble_eq_true rfl) (fun p e s m args below meth c ls Q hQ C hr hlk hnm X hl => ?_)
  have C : vC p s m _ c _ _ "MenuScreens$Reader" GT D vcl (vty dT) := C
  have hx := C.1.1
  have hb := C.1.2.1
  obtain ⟨H, eH⟩ : ∃ z, z = s.heap := ⟨_, rfl⟩
  obtain ⟨locs, elocs⟩ : ∃ z : List Loc, z = [] := ⟨_, rfl⟩
  rw [← eH, ← elocs] at X
  rw [← eH, ← elocs]
  clear eH elocs
  have hl : lv_has ls 1 [(0, .ref (ad 6 0))] := hl
  refine lv_aload_n hx hb d_Reader_init_0 rfl (lv_at hl 0 rfl) ?_
  refine mv_obj C hl.1 ⟨gt_1 74 (by decide +kernel) rfl, gt_1 34 (by decide +kernel) rfl, gt_1 35 (rfl) rfl⟩ (Nat.le_of_ble_eq_true rfl) (Nat.le_of_ble_eq_true rfl) d_Reader_init_1 ?_
  refine lv_aload_n hx hb d_Reader_init_4 rfl (lv_at hl 0 rfl) ?_
  refine mv_new C X n_5_9 (by show 0 + 1 ≤ 7; omega) (by show 0 + 4 ≤ 56; omega) d_Reader_init_5 (fun q1 H z_q1 w_q1 X => ?_)
  have n__ad_6_0__q1 : (ad 6 0) ≠ q1 := vnf (xl.get (i := 6) (j := 0) h60) z_q1
  have X : vO S0 D vcl (vup h0 q1 (.inr (4, [.null, .null, .null, .int 0]))) s H locs := X
  change W _ _ _ _ _ _ _ _ _ _ _ _ (0 + 1) (0 + 4) _ _
  refine lv_dup hx hb d_Reader_init_8 rfl ?_
  have n2 := (LR.of xl).new 2 0 (e' := .inr (4, [.null, .null, .null, .int 0])) z_q1 w_q1
  refine mv_bv X (mv_rIN (rest := [.ref q1, .ref (ad 6 0)]) (As := []) gt_good C X (host := "MenuScreens") (y := y_Plan_init) (n := 0) ⟨va_Nw.of rfl (hE.2.1 _ (List.mem_append_right _ (List.mem_append_left _ (List.mem_of_getElem? (i := 77) (by decide +kernel : tables_1_1[77]? = some _))))), gt_1 78 (by decide +kernel) rfl, gt_1 7 (by decide +kernel) rfl, gt_1 79 (rfl) rfl, rfl, by decide +kernel⟩ (cm_Plan_init hE hJ n2.1 (lput_s _ _ _ _)) ⟨Nat.le_of_ble_eq_true rfl, Nat.le_of_ble_eq_true rfl⟩ rfl hl.1 rfl (Nat.le_of_ble_eq_true rfl) d_Reader_init_9 ⟨by show (0 + 1) + 3 ≤ 7; omega, by show (0 + 4) + 36 ≤ 56; omega⟩) (fun hN H locs hp X => ?_)
  obtain ⟨ad2, Lc2, zc2, kc2, eq2, f20, f30, f40, f50⟩ := hp
  replace eq2 : ad2 2 0 = q1 := eq2
  have yc2 := n2.trans zc2
  have kk2 : ∀ i, i ≠ 2 → i ≠ 3 → i ≠ 4 → i ≠ 5 → Lc2 i = L i ∧ ad2 i = ad i := fun i q2 q3 q4 q5 => ⟨(kc2 i q2 q3 q4 q5).1.trans (lput_k _ _ q2), (kc2 i q2 q3 q4 q5).2.trans (lput_k _ _ q2)⟩
  have tc2 : Lc2 6 0 = some (.inr (5, [.null, .null, .null, .null])) := by rw [(kk2 6 (by decide) (by decide) (by decide) (by decide)).1]; exact h60
  have ea2 : ad2 6 0 = ad 6 0 := by rw [(kk2 6 (by decide) (by decide) (by decide) (by decide)).2]
  have kTc2 := yc2.1.get (i := 6) (j := 0) tc2
  rw [ea2] at kTc2
  refine mv_putF C X kTc2 (xl.wr (i := 6) (j := 0) h60) 0 hnm p_5_12_5 rfl rfl (Nat.le_of_ble_eq_true rfl) d_Reader_init_12 (fun H locs X => ?_)
  have X : vO S0 D vcl (vup hN (ad 6 0) (.inr (5, [.ref q1, .null, .null, .null]))) s H locs := X
  obtain ⟨v2, ev2⟩ : ∃ z, z = (vup hN (ad 6 0) (.inr (5, [.ref q1, .null, .null, .null]))) := ⟨_, rfl⟩
  have X : vO S0 D vcl (vup hN (ad 6 0) (.inr (5, [.ref q1, .null, .null, .null]))) s H locs := X
  rw [← ev2] at X
  obtain ⟨L2, eL2⟩ : ∃ z : vL, z = lput Lc2 6 0 (some (.inr (5, [.ref q1, .null, .null, .null]))) := ⟨_, rfl⟩
  have y2 : LR S0.heap.size hcv h0 ad L v2 ad2 L2 := by
    have q := yc2.put (i := 6) (j := 0) (e' := .inr (5, [.ref q1, .null, .null, .null])) tc2
    rw [ea2, ← ev2, ← eL2] at q; exact q
  have t2 : L2 6 0 = some (.inr (5, [.ref (ad2 2 0), .null, .null, .null])) := by rw [eL2, lput_s, eq2]
  have g2 : ∀ i, i ≠ 6 → L2 i = Lc2 i := fun i hi => by rw [eL2]; exact lput_k _ _ hi
  have kT2 := y2.1.get (i := 6) (j := 0) t2
  rw [ea2] at kT2
  refine lv_aload_n hx hb d_Reader_init_15 rfl (lv_at hl 0 rfl) ?_
  refine mv_new C X n_5_18 (by show ((0 + 1) + 3) + 1 ≤ 7; omega) (by show ((0 + 4) + 36) + 4 ≤ 56; omega) d_Reader_init_16 (fun q3 H z_q3 w_q3 X => ?_)
  have n__ad_6_0__q3 : (ad 6 0) ≠ q3 := vnf kT2 z_q3
  have X : vO S0 D vcl (vup v2 q3 (.inr (6, [.null, .null, .null, .int 0]))) s H locs := X
  change W _ _ _ _ _ _ _ _ _ _ _ _ (((0 + 1) + 3) + 1) (((0 + 4) + 36) + 4) _ _
  refine lv_dup hx hb d_Reader_init_19 rfl ?_
  refine mv_bv X (mv_rIN (rest := [.ref q3, .ref (ad 6 0)]) (As := []) gt_good C X (host := "MenuScreens") (y := y_Line_init) (n := 0) ⟨va_Nw.of rfl (hE.2.1 _ (List.mem_append_right _ (List.mem_append_left _ (List.mem_of_getElem? (i := 126) (by decide +kernel : tables_1_1[126]? = some _))))), gt_1 127 (by decide +kernel) rfl, gt_1 11 (by decide +kernel) rfl, gt_1 128 (rfl) rfl, rfl, by decide +kernel⟩ (cm_Line_init hE hlt (vup_s _ _ _) w_q3) ⟨Nat.le_of_ble_eq_true rfl, Nat.le_of_ble_eq_true rfl⟩ rfl hl.1 rfl (Nat.le_of_ble_eq_true rfl) d_Reader_init_20 ⟨by show (((0 + 1) + 3) + 1) + 2 ≤ 7; omega, by show (((0 + 4) + 36) + 4) + 12 ≤ 56; omega⟩) (fun hN H locs hp X => ?_)
  obtain ⟨q71, q72, ⟨z71, w71⟩, ⟨z72, w72⟩, n712, eh⟩ := hp
  replace eh := eh.symm
  subst eh
  have n__ad_6_0__q71 : (ad 6 0) ≠ q71 := vnf ((vup_n _ _ n__ad_6_0__q3).trans kT2) z71
  have n__ad_6_0__q72 : (ad 6 0) ≠ q72 := vnf ((vup_n _ _ n__ad_6_0__q3).trans kT2) z72
  have n_q3_q71 : q3 ≠ q71 := vnf (vup_s _ _ _) z71
  have n_q3_q72 : q3 ≠ q72 := vnf (vup_s _ _ _) z72
  have X : vO S0 D vcl (vup (vup (vup (vup v2 q3 (.inr (6, [.null, .null, .null, .int 0]))) q71 (.inl (dT 0, 6, .inl (fun _ => 0)))) q72 (.inl (dT 0, 6, .inl (fun _ => 0)))) q3 (.inr (6, [.ref q71, .ref q72, .ref lt, .int 0]))) s H locs := X
  refine mv_putF C X ((vup_n _ _ n__ad_6_0__q3).trans ((vup_n _ _ n__ad_6_0__q72).trans ((vup_n _ _ n__ad_6_0__q71).trans ((vup_n _ _ n__ad_6_0__q3).trans kT2)))) (xl.wr (i := 6) (j := 0) h60) 1 hnm p_5_21_5 rfl rfl (Nat.le_of_ble_eq_true rfl) d_Reader_init_23 (fun H locs X => ?_)
  have X : vO S0 D vcl (vup (vup (vup (vup (vup v2 q3 (.inr (6, [.null, .null, .null, .int 0]))) q71 (.inl (dT 0, 6, .inl (fun _ => 0)))) q72 (.inl (dT 0, 6, .inl (fun _ => 0)))) q3 (.inr (6, [.ref q71, .ref q72, .ref lt, .int 0]))) (ad 6 0) (.inr (5, [.ref (ad2 2 0), .ref q3, .null, .null]))) s H locs := X
  obtain ⟨v3, ev3⟩ : ∃ z, z = (vup (vup (vup (vup (vup v2 q3 (.inr (6, [.null, .null, .null, .int 0]))) q71 (.inl (dT 0, 6, .inl (fun _ => 0)))) q72 (.inl (dT 0, 6, .inl (fun _ => 0)))) q3 (.inr (6, [.ref q71, .ref q72, .ref lt, .int 0]))) (ad 6 0) (.inr (5, [.ref (ad2 2 0), .ref q3, .null, .null]))) := ⟨_, rfl⟩
  have X : vO S0 D vcl (vup (vup (vup (vup (vup v2 q3 (.inr (6, [.null, .null, .null, .int 0]))) q71 (.inl (dT 0, 6, .inl (fun _ => 0)))) q72 (.inl (dT 0, 6, .inl (fun _ => 0)))) q3 (.inr (6, [.ref q71, .ref q72, .ref lt, .int 0]))) (ad 6 0) (.inr (5, [.ref (ad2 2 0), .ref q3, .null, .null]))) s H locs := X
  rw [← ev3] at X
  obtain ⟨ad3, ead3⟩ : ∃ z, z = lput (lput (lput ad2 7 0 q3) 7 1 q71) 7 2 q72 := ⟨_, rfl⟩
  obtain ⟨L3, eL3⟩ : ∃ z : vL, z = lput (lput (lput (lput (lput L2 7 0 (some (.inr (6, [.null, .null, .null, .int 0])))) 7 1 (some (.inl (dT 0, 6, .inl (fun _ => 0))))) 7 2 (some (.inl (dT 0, 6, .inl (fun _ => 0))))) 7 0 (some (.inr (6, [.ref q71, .ref q72, .ref lt, .int 0])))) 6 0 (some (.inr (5, [.ref (ad2 2 0), .ref q3, .null, .null]))) := ⟨_, rfl⟩
  have y3 : LR S0.heap.size hcv h0 ad L v3 ad3 L3 := by
    have q := (((((y2.new 7 0 (e' := .inr (6, [.null, .null, .null, .int 0])) z_q3 w_q3).new 7 1 (e' := .inl (dT 0, 6, .inl (fun _ => 0))) z71 w71).new 7 2 (e' := .inl (dT 0, 6, .inl (fun _ => 0))) ((vup_n _ _ (Ne.symm n712)).trans z72) w72).put (i := 7) (j := 0) (e' := .inr (6, [.ref q71, .ref q72, .ref lt, .int 0])) rfl).put (i := 6) (j := 0) (e' := .inr (5, [.ref (ad2 2 0), .ref q3, .null, .null])) (show L2 6 0 = some (.inr (5, [.ref (ad2 2 0), .null, .null, .null])) from t2))
    rw [← ead3, ← eL3, show ad3 6 0 = ad 6 0 from by rw [ead3]; exact ea2, show ad3 7 0 = q3 from by rw [ead3]; rfl, ← ev3] at q; exact q
  have g3 : ∀ i, i ≠ 6 → i ≠ 7 → L3 i = Lc2 i ∧ ad3 i = ad2 i := fun i q6 q7 => ⟨by rw [eL3]; simp only [lput_k _ _ q6, lput_k _ _ q7]; exact g2 i q6, by rw [ead3]; simp only [lput_k _ _ q7]⟩
  have ea3 : ad3 6 0 = ad 6 0 := by rw [ead3]; exact ea2
  have h63 : L3 6 0 = some (.inr (5, [.ref (ad3 2 0), .ref (ad3 7 0), .null, .null])) := by rw [eL3, ead3]; rfl
  have h73 : L3 7 0 = some (.inr (6, [.ref (ad3 7 1), .ref (ad3 7 2), .ref lt, .int 0])) := by rw [eL3, ead3]; rfl
  have h731 : L3 7 1 = some (.inl (dT 0, 6, .inl (fun _ => 0))) := by rw [eL3]; rfl
  have h732 : L3 7 2 = some (.inl (dT 0, 6, .inl (fun _ => 0))) := by rw [eL3]; rfl
  replace f20 : L3 2 0 = some (.inr (4, [.ref (ad3 3 0), .ref (ad3 4 0), .ref (ad3 5 0), .int 0])) := by rw [(g3 2 (by decide) (by decide)).1, (g3 3 (by decide) (by decide)).2, (g3 4 (by decide) (by decide)).2, (g3 5 (by decide) (by decide)).2]; exact f20
  exact mq_vret hQ C X hr hlk (⟨ad3, L3, y3, fun i q2 q3 q4 q5 q6 q7 => ⟨(g3 i q6 q7).1.trans (kk2 i q2 q3 q4 q5).1, (g3 i q6 q7).2.trans (kk2 i q2 q3 q4 q5).2⟩, ea3, h63, f20, ((congrFun (g3 3 (by decide) (by decide)).1 0).trans f30), ((congrFun (g3 4 (by decide) (by decide)).1 0).trans f40), ((congrFun (g3 5 (by decide) (by decide)).1 0).trans f50), h73, h731, h732⟩) (by omega) (by omega) d_Reader_init_26
theorem d_MenuScreens_init_0 : decode prog_1_method_1_code 0 = .ok (.aload_n 0, 1) := by decide +kernel
theorem d_MenuScreens_init_1 : decode prog_1_method_1_code 1 = .ok (.invokespecial 3, 3) := by decide +kernel
theorem d_MenuScreens_init_4 : decode prog_1_method_1_code 4 = .ok (.iload_n 1, 1) := by decide +kernel
theorem d_MenuScreens_init_5 : decode prog_1_method_1_code 5 = .ok (.iconst 1, 1) := by decide +kernel
theorem d_MenuScreens_init_6 : decode prog_1_method_1_code 6 = .ok (.if_icmp .lt 24, 3) := by decide +kernel
theorem d_MenuScreens_init_9 : decode prog_1_method_1_code 9 = .ok (.iload_n 1, 1) := by decide +kernel
theorem d_MenuScreens_init_10 : decode prog_1_method_1_code 10 = .ok (.bipush 40, 2) := by decide +kernel
theorem d_MenuScreens_init_12 : decode prog_1_method_1_code 12 = .ok (.if_icmp .gt 18, 3) := by decide +kernel
theorem d_MenuScreens_init_15 : decode prog_1_method_1_code 15 = .ok (.iload_n 2, 1) := by decide +kernel
theorem d_MenuScreens_init_16 : decode prog_1_method_1_code 16 = .ok (.iconst 1, 1) := by decide +kernel
theorem d_MenuScreens_init_17 : decode prog_1_method_1_code 17 = .ok (.if_icmp .lt 13, 3) := by decide +kernel
theorem d_MenuScreens_init_20 : decode prog_1_method_1_code 20 = .ok (.iload_n 2, 1) := by decide +kernel
theorem d_MenuScreens_init_21 : decode prog_1_method_1_code 21 = .ok (.bipush 40, 2) := by decide +kernel
theorem d_MenuScreens_init_23 : decode prog_1_method_1_code 23 = .ok (.if_icmp .gt 7, 3) := by decide +kernel
theorem d_MenuScreens_init_26 : decode prog_1_method_1_code 26 = .ok (.iconst 1, 1) := by decide +kernel
theorem d_MenuScreens_init_27 : decode prog_1_method_1_code 27 = .ok (.goto 4, 3) := by decide +kernel
theorem d_MenuScreens_init_30 : decode prog_1_method_1_code 30 = .ok (.iconst 0, 1) := by decide +kernel
theorem d_MenuScreens_init_31 : decode prog_1_method_1_code 31 = .ok (.istore_n 3, 1) := by decide +kernel
theorem d_MenuScreens_init_32 : decode prog_1_method_1_code 32 = .ok (.aload_n 0, 1) := by decide +kernel
theorem d_MenuScreens_init_33 : decode prog_1_method_1_code 33 = .ok (.iload_n 3, 1) := by decide +kernel
theorem d_MenuScreens_init_34 : decode prog_1_method_1_code 34 = .ok (.ifCond .eq 7, 3) := by decide +kernel
theorem d_MenuScreens_init_37 : decode prog_1_method_1_code 37 = .ok (.iload_n 1, 1) := by decide +kernel
theorem d_MenuScreens_init_38 : decode prog_1_method_1_code 38 = .ok (.goto 4, 3) := by decide +kernel
theorem d_MenuScreens_init_41 : decode prog_1_method_1_code 41 = .ok (.iconst 4, 1) := by decide +kernel
theorem d_MenuScreens_init_42 : decode prog_1_method_1_code 42 = .ok (.putfield 9, 3) := by decide +kernel
theorem d_MenuScreens_init_45 : decode prog_1_method_1_code 45 = .ok (.aload_n 0, 1) := by decide +kernel
theorem d_MenuScreens_init_46 : decode prog_1_method_1_code 46 = .ok (.iload_n 3, 1) := by decide +kernel
theorem d_MenuScreens_init_47 : decode prog_1_method_1_code 47 = .ok (.ifCond .eq 7, 3) := by decide +kernel
theorem d_MenuScreens_init_50 : decode prog_1_method_1_code 50 = .ok (.iload_n 2, 1) := by decide +kernel
theorem d_MenuScreens_init_51 : decode prog_1_method_1_code 51 = .ok (.goto 5, 3) := by decide +kernel
theorem d_MenuScreens_init_54 : decode prog_1_method_1_code 54 = .ok (.bipush 16, 2) := by decide +kernel
theorem d_MenuScreens_init_56 : decode prog_1_method_1_code 56 = .ok (.putfield 13, 3) := by decide +kernel
theorem d_MenuScreens_init_59 : decode prog_1_method_1_code 59 = .ok (.aload_n 0, 1) := by decide +kernel
theorem d_MenuScreens_init_60 : decode prog_1_method_1_code 60 = .ok (.new 16, 3) := by decide +kernel
theorem d_MenuScreens_init_63 : decode prog_1_method_1_code 63 = .ok (.dup, 1) := by decide +kernel
theorem d_MenuScreens_init_64 : decode prog_1_method_1_code 64 = .ok (.invokespecial 18, 3) := by decide +kernel
theorem d_MenuScreens_init_67 : decode prog_1_method_1_code 67 = .ok (.putfield 19, 3) := by decide +kernel
theorem d_MenuScreens_init_70 : decode prog_1_method_1_code 70 = .ok (.aload_n 0, 1) := by decide +kernel
theorem d_MenuScreens_init_71 : decode prog_1_method_1_code 71 = .ok (.new 23, 3) := by decide +kernel
theorem d_MenuScreens_init_74 : decode prog_1_method_1_code 74 = .ok (.dup, 1) := by decide +kernel
theorem d_MenuScreens_init_75 : decode prog_1_method_1_code 75 = .ok (.invokespecial 25, 3) := by decide +kernel
theorem d_MenuScreens_init_78 : decode prog_1_method_1_code 78 = .ok (.putfield 26, 3) := by decide +kernel
theorem d_MenuScreens_init_81 : decode prog_1_method_1_code 81 = .ok (.aload_n 0, 1) := by decide +kernel
theorem d_MenuScreens_init_82 : decode prog_1_method_1_code 82 = .ok (.aload_n 0, 1) := by decide +kernel
theorem d_MenuScreens_init_83 : decode prog_1_method_1_code 83 = .ok (.getfield 26, 3) := by decide +kernel
theorem d_MenuScreens_init_86 : decode prog_1_method_1_code 86 = .ok (.getfield 30, 3) := by decide +kernel
theorem d_MenuScreens_init_89 : decode prog_1_method_1_code 89 = .ok (.putfield 34, 3) := by decide +kernel
theorem d_MenuScreens_init_92 : decode prog_1_method_1_code 92 = .ok (.aload_n 0, 1) := by decide +kernel
theorem d_MenuScreens_init_93 : decode prog_1_method_1_code 93 = .ok (.new 35, 3) := by decide +kernel
theorem d_MenuScreens_init_96 : decode prog_1_method_1_code 96 = .ok (.dup, 1) := by decide +kernel
theorem d_MenuScreens_init_97 : decode prog_1_method_1_code 97 = .ok (.invokespecial 37, 3) := by decide +kernel
theorem d_MenuScreens_init_100 : decode prog_1_method_1_code 100 = .ok (.putfield 38, 3) := by decide +kernel
theorem d_MenuScreens_init_103 : decode prog_1_method_1_code 103 = .ok (.return_, 1) := by decide +kernel
set_option maxRecDepth 100000 in
set_option maxHeartbeats 4000000 in
theorem cm_MenuScreens_init {l : Launch} {S0 : State} {b : Nat} {D : va_G} {dT : Nat → ClassId} (hE : vEnv S0 b D dT) {dE mO : Nat} (hJ : vJ S0 dE mO) {h0 : vH} {hcv : vH} {ad : Nat → Nat → Nat} {L : vL} (xl : LH S0.heap.size hcv h0 ad L) {p1 p2 : Int32} (h00 : L 0 0 = some (.inr (3, [.int 0, .int 0, .null, .null, .null, .null, .int 0, .int 0, .int 0, .int 0, .int 0, .long 0, .long 0]))) {lt : Nat} {tx : String} (hlt : vk_R "MenuScreens$Line" 18 tx lt S0) : vMv l S0 D vcl GT y_MenuScreens_init prog_1_method_1_code 4 none 6 112 14 686 [.ref (ad 0 0), .int p1, .int p2] h0 (fun h' => ∃ ad' L', LR S0.heap.size hcv h0 ad L h' ad' L' ∧ kpF ad L ad' L' ∧ CR dT dE h' ad' L' 16 (iX p1 p2) (fun _ => 0) (fun _ _ => 0) (fun _ _ => 0)) := by
  unfold vMv
  refine vM_ofQ hE.1 (by decide) (Nat.le_of_ble_eq_true rfl) (fun p e s m args below meth c ls Q hQ C hr hlk hnm X hl => ?_)
  have C : vC p s m _ c _ _ "MenuScreens" GT D vcl (vty dT) := C
  have hx := C.1.1
  have hb := C.1.2.1
  obtain ⟨H, eH⟩ : ∃ z, z = s.heap := ⟨_, rfl⟩
  obtain ⟨locs, elocs⟩ : ∃ z : List Loc, z = [] := ⟨_, rfl⟩
  rw [← eH, ← elocs] at X
  rw [← eH, ← elocs]
  clear eH elocs
  have hl : lv_has ls 4 [(0, .ref (ad 0 0)), (1, .int p1), (2, .int p2)] := hl
  refine lv_aload_n hx hb d_MenuScreens_init_0 rfl (lv_at hl 0 rfl) ?_
  refine mv_obj C hl.1 ⟨gt_1 33 (by decide +kernel) rfl, gt_1 34 (by decide +kernel) rfl, gt_1 35 (rfl) rfl⟩ (Nat.le_of_ble_eq_true rfl) (Nat.le_of_ble_eq_true rfl) d_MenuScreens_init_1 ?_
  have jn : ∀ (ls : Array Slot), (¬ (0 < p1 ∧ p1 < 41 ∧ 0 < p2 ∧ p2 < 41)) → lv_has ls 4 [(0, .ref (ad 0 0)), (1, .int p1), (2, .int p2)] → W p l e (vRm 6 112 14 686) s m args below meth c H locs 0 0 Q (F0 m 30 ls []) := by
    intro  ls hg hl
    refine lv_iconst (v := 0) hx hb d_MenuScreens_init_30 (by decide) ?_
    refine lv_istore_n (lv' := [(3, .int 0), (0, .ref (ad 0 0)), (1, .int p1), (2, .int p2)]) hx hb d_MenuScreens_init_31 rfl hl (by decide) rfl (fun ls hl => ?_)
    refine lv_aload_n hx hb d_MenuScreens_init_32 rfl (lv_at hl 1 rfl) ?_
    refine lv_iload_n hx hb d_MenuScreens_init_33 rfl (lv_at hl 0 rfl) ?_
    refine lv_if_eq (tgt := 41) hx hb d_MenuScreens_init_34 (by decide) (fun c1 => ?_) (fun z => absurd rfl z)
    refine lv_iconst (v := 4) hx hb d_MenuScreens_init_41 (by decide) ?_
    refine mv_putF C X (xl.get (i := 0) (j := 0) h00) (xl.wr (i := 0) (j := 0) h00) 0 hnm p_0_9_3 rfl rfl (Nat.le_of_ble_eq_true rfl) d_MenuScreens_init_42 (fun H locs X => ?_)
    have X : vO S0 D vcl (vup h0 (ad 0 0) (.inr (3, [.int 4, .int 0, .null, .null, .null, .null, .int 0, .int 0, .int 0, .int 0, .int 0, .long 0, .long 0]))) s H locs := X
    refine lv_aload_n hx hb d_MenuScreens_init_45 rfl (lv_at hl 1 rfl) ?_
    refine lv_iload_n hx hb d_MenuScreens_init_46 rfl (lv_at hl 0 rfl) ?_
    refine lv_if_eq (tgt := 54) hx hb d_MenuScreens_init_47 (by decide) (fun c2 => ?_) (fun z => absurd rfl z)
    refine lv_bipush (v := 16) hx hb d_MenuScreens_init_54 (by decide) ?_
    refine mv_putF C X (vup_s _ _ _) (xl.wr (i := 0) (j := 0) h00) 1 hnm p_0_13_3 rfl rfl (Nat.le_of_ble_eq_true rfl) d_MenuScreens_init_56 (fun H locs X => ?_)
    rw [vup_u] at X
    have X : vO S0 D vcl (vup h0 (ad 0 0) (.inr (3, [.int 4, .int 16, .null, .null, .null, .null, .int 0, .int 0, .int 0, .int 0, .int 0, .long 0, .long 0]))) s H locs := X
    refine lv_aload_n hx hb d_MenuScreens_init_59 rfl (lv_at hl 1 rfl) ?_
    refine mv_new C X n_0_16 (by show 0 + 1 ≤ 14; omega) (by show 0 + 4 ≤ 686; omega) d_MenuScreens_init_60 (fun q3 H z_q3 w_q3 X => ?_)
    have n__ad_0_0__q3 : (ad 0 0) ≠ q3 := vnf (vup_s _ _ _) z_q3
    have X : vO S0 D vcl (vup (vup h0 (ad 0 0) (.inr (3, [.int 4, .int 16, .null, .null, .null, .null, .int 0, .int 0, .int 0, .int 0, .int 0, .long 0, .long 0]))) q3 (.inr (1, [.null, .int 0, .int 0, .int 0]))) s H locs := X
    change W _ _ _ _ _ _ _ _ _ _ _ _ (0 + 1) (0 + 4) _ _
    refine lv_dup hx hb d_MenuScreens_init_63 rfl ?_
    refine mv_bv X (mv_rI (rest := [.ref q3, .ref (ad 0 0)]) (As := []) gt_good C X k_0_18 (cm_StringBuilder_init hE hJ (vup_s _ _ _) w_q3) ⟨Nat.le_of_ble_eq_true rfl, Nat.le_of_ble_eq_true rfl⟩ rfl hl.1 rfl (Nat.le_of_ble_eq_true rfl) d_MenuScreens_init_64 ⟨by show (0 + 1) + 1 ≤ 14; omega, by show (0 + 4) + 16 ≤ 686; omega⟩) (fun hN H locs hp X => ?_)
    obtain ⟨qb, zb, wb, eh⟩ := hp
    obtain ⟨ad1, ead1⟩ : ∃ z, z = lput (lput ad 1 0 q3) 1 1 qb := ⟨_, rfl⟩
    obtain ⟨Lc1, eLc1⟩ : ∃ z : vL, z = lput (lput (lput (lput L 0 0 (some (.inr (3, [.int 4, .int 16, .null, .null, .null, .null, .int 0, .int 0, .int 0, .int 0, .int 0, .long 0, .long 0])))) 1 0 (some (.inr (1, [.null, .int 0, .int 0, .int 0])))) 1 1 (some (.inl (dT 2, 16, .inl (fun _ => 0))))) 1 0 (some (.inr (1, [.ref qb, .int 0, .int 0, .int 0]))) := ⟨_, rfl⟩
    have yc1 : LR S0.heap.size hcv h0 ad L hN ad1 Lc1 := by
      rw [eh, ead1, eLc1]
      exact ((((LR.of xl).put (i := 0) (j := 0) (e' := .inr (3, [.int 4, .int 16, .null, .null, .null, .null, .int 0, .int 0, .int 0, .int 0, .int 0, .long 0, .long 0])) h00).new 1 0 (e' := .inr (1, [.null, .int 0, .int 0, .int 0])) z_q3 w_q3).new 1 1 (e' := .inl (dT 2, 16, .inl (fun _ => 0))) zb wb).put (i := 1) (j := 0) (e' := .inr (1, [.ref qb, .int 0, .int 0, .int 0])) rfl
    have eq1 : ad1 1 0 = q3 := by rw [ead1]; rfl
    have f10 : Lc1 1 0 = some (.inr (1, [.ref (ad1 1 1), .int 0, .int 0, .int 0])) := by rw [eLc1, ead1]; rfl
    have f11 : Lc1 1 1 = some (.inl (dT 2, 16, .inl (fun _ => 0))) := by rw [eLc1]; rfl
    have tc1 : Lc1 0 0 = some (.inr (3, [.int 4, .int 16, .null, .null, .null, .null, .int 0, .int 0, .int 0, .int 0, .int 0, .long 0, .long 0])) := by rw [eLc1]; rfl
    have ea1 : ad1 0 0 = ad 0 0 := by rw [ead1]; rfl
    have kk1 : ∀ i, i ≠ 0 → i ≠ 1 → Lc1 i = L i ∧ ad1 i = ad i := fun i q0 q1 => ⟨by rw [eLc1]; simp only [lput_k _ _ q0, lput_k _ _ q1], by rw [ead1]; simp only [lput_k _ _ q1]⟩
    have kTc1 := yc1.1.get (i := 0) (j := 0) tc1
    rw [ea1] at kTc1
    refine mv_putF C X kTc1 (xl.wr (i := 0) (j := 0) h00) 2 hnm p_0_19_3 rfl rfl (Nat.le_of_ble_eq_true rfl) d_MenuScreens_init_67 (fun H locs X => ?_)
    have X : vO S0 D vcl (vup hN (ad 0 0) (.inr (3, [.int 4, .int 16, .ref q3, .null, .null, .null, .int 0, .int 0, .int 0, .int 0, .int 0, .long 0, .long 0]))) s H locs := X
    obtain ⟨v1, ev1⟩ : ∃ z, z = (vup hN (ad 0 0) (.inr (3, [.int 4, .int 16, .ref q3, .null, .null, .null, .int 0, .int 0, .int 0, .int 0, .int 0, .long 0, .long 0]))) := ⟨_, rfl⟩
    have X : vO S0 D vcl (vup hN (ad 0 0) (.inr (3, [.int 4, .int 16, .ref q3, .null, .null, .null, .int 0, .int 0, .int 0, .int 0, .int 0, .long 0, .long 0]))) s H locs := X
    rw [← ev1] at X
    obtain ⟨L1, eL1⟩ : ∃ z : vL, z = lput Lc1 0 0 (some (.inr (3, [.int 4, .int 16, .ref q3, .null, .null, .null, .int 0, .int 0, .int 0, .int 0, .int 0, .long 0, .long 0]))) := ⟨_, rfl⟩
    have y1 : LR S0.heap.size hcv h0 ad L v1 ad1 L1 := by
      have q := yc1.put (i := 0) (j := 0) (e' := .inr (3, [.int 4, .int 16, .ref q3, .null, .null, .null, .int 0, .int 0, .int 0, .int 0, .int 0, .long 0, .long 0])) tc1
      rw [ea1, ← ev1, ← eL1] at q; exact q
    have t1 : L1 0 0 = some (.inr (3, [.int 4, .int 16, .ref (ad1 1 0), .null, .null, .null, .int 0, .int 0, .int 0, .int 0, .int 0, .long 0, .long 0])) := by rw [eL1, lput_s, eq1]
    have g1 : ∀ i, i ≠ 0 → L1 i = Lc1 i := fun i hi => by rw [eL1]; exact lput_k _ _ hi
    have kT1 := y1.1.get (i := 0) (j := 0) t1
    rw [ea1] at kT1
    refine lv_aload_n hx hb d_MenuScreens_init_70 rfl (lv_at hl 1 rfl) ?_
    refine mv_new C X n_0_23 (by show ((0 + 1) + 1) + 1 ≤ 14; omega) (by show ((0 + 4) + 16) + 4 ≤ 686; omega) d_MenuScreens_init_71 (fun q5 H z_q5 w_q5 X => ?_)
    have n__ad_0_0__q5 : (ad 0 0) ≠ q5 := vnf kT1 z_q5
    have X : vO S0 D vcl (vup v1 q5 (.inr (5, [.null, .null, .null, .null]))) s H locs := X
    change W _ _ _ _ _ _ _ _ _ _ _ _ (((0 + 1) + 1) + 1) (((0 + 4) + 16) + 4) _ _
    refine lv_dup hx hb d_MenuScreens_init_74 rfl ?_
    have n2 := y1.new 6 0 (e' := .inr (5, [.null, .null, .null, .null])) z_q5 w_q5
    refine mv_bv X (mv_rIN (rest := [.ref q5, .ref (ad 0 0)]) (As := []) gt_good C X (host := "MenuScreens") (y := y_Reader_init) (n := 0) ⟨va_Nw.of rfl (hE.2.1 _ (List.mem_append_right _ (List.mem_append_left _ (List.mem_of_getElem? (i := 71) (by decide +kernel : tables_1_1[71]? = some _))))), gt_1 72 (by decide +kernel) rfl, gt_1 6 (by decide +kernel) rfl, gt_1 73 (rfl) rfl, rfl, by decide +kernel⟩ (cm_Reader_init hE hJ n2.1 (lput_s _ _ _ _) hlt) ⟨Nat.le_of_ble_eq_true rfl, Nat.le_of_ble_eq_true rfl⟩ rfl hl.1 rfl (Nat.le_of_ble_eq_true rfl) d_MenuScreens_init_75 ⟨by show (((0 + 1) + 1) + 1) + 7 ≤ 14; omega, by show (((0 + 4) + 16) + 4) + 56 ≤ 686; omega⟩) (fun hN H locs hp X => ?_)
    obtain ⟨ad2, Lc2, zc2, kc2, eq2, f60, f20, f30, f40, f50, f70, f71, f72⟩ := hp
    replace eq2 : ad2 6 0 = q5 := eq2
    have yc2 := n2.trans zc2
    have kk2 : ∀ i, i ≠ 0 → i ≠ 2 → i ≠ 3 → i ≠ 4 → i ≠ 5 → i ≠ 6 → i ≠ 7 → Lc2 i = Lc1 i ∧ ad2 i = ad1 i := fun i q0 q2 q3 q4 q5 q6 q7 => ⟨(kc2 i q2 q3 q4 q5 q6 q7).1.trans ((lput_k _ _ q6).trans (g1 i q0)), (kc2 i q2 q3 q4 q5 q6 q7).2.trans (lput_k _ _ q6)⟩
    have tc2 : Lc2 0 0 = some (.inr (3, [.int 4, .int 16, .ref (ad2 1 0), .null, .null, .null, .int 0, .int 0, .int 0, .int 0, .int 0, .long 0, .long 0])) := by rw [(kk2 1 (by decide) (by decide) (by decide) (by decide) (by decide) (by decide) (by decide)).2, (kc2 0 (by decide) (by decide) (by decide) (by decide) (by decide) (by decide)).1, lput_k (i := 6) (j := 0) (i' := 0) _ _ (by decide)]; exact t1
    have ea2 : ad2 0 0 = ad 0 0 := by rw [(kc2 0 (by decide) (by decide) (by decide) (by decide) (by decide) (by decide)).2, lput_k (i := 6) (j := 0) (i' := 0) _ _ (by decide)]; exact ea1
    replace f10 : Lc2 1 0 = some (.inr (1, [.ref (ad2 1 1), .int 0, .int 0, .int 0])) := by rw [(kk2 1 (by decide) (by decide) (by decide) (by decide) (by decide) (by decide) (by decide)).1, (kk2 1 (by decide) (by decide) (by decide) (by decide) (by decide) (by decide) (by decide)).2]; exact f10
    replace f11 : Lc2 1 1 = some (.inl (dT 2, 16, .inl (fun _ => 0))) := by rw [(kk2 1 (by decide) (by decide) (by decide) (by decide) (by decide) (by decide) (by decide)).1]; exact f11
    have kTc2 := yc2.1.get (i := 0) (j := 0) tc2
    rw [ea2] at kTc2
    refine mv_putF C X kTc2 (xl.wr (i := 0) (j := 0) h00) 3 hnm p_0_26_3 rfl rfl (Nat.le_of_ble_eq_true rfl) d_MenuScreens_init_78 (fun H locs X => ?_)
    have X : vO S0 D vcl (vup hN (ad 0 0) (.inr (3, [.int 4, .int 16, .ref (ad2 1 0), .ref q5, .null, .null, .int 0, .int 0, .int 0, .int 0, .int 0, .long 0, .long 0]))) s H locs := X
    obtain ⟨v2, ev2⟩ : ∃ z, z = (vup hN (ad 0 0) (.inr (3, [.int 4, .int 16, .ref (ad2 1 0), .ref q5, .null, .null, .int 0, .int 0, .int 0, .int 0, .int 0, .long 0, .long 0]))) := ⟨_, rfl⟩
    have X : vO S0 D vcl (vup hN (ad 0 0) (.inr (3, [.int 4, .int 16, .ref (ad2 1 0), .ref q5, .null, .null, .int 0, .int 0, .int 0, .int 0, .int 0, .long 0, .long 0]))) s H locs := X
    rw [← ev2] at X
    obtain ⟨L2, eL2⟩ : ∃ z : vL, z = lput Lc2 0 0 (some (.inr (3, [.int 4, .int 16, .ref (ad2 1 0), .ref q5, .null, .null, .int 0, .int 0, .int 0, .int 0, .int 0, .long 0, .long 0]))) := ⟨_, rfl⟩
    have y2 : LR S0.heap.size hcv h0 ad L v2 ad2 L2 := by
      have q := yc2.put (i := 0) (j := 0) (e' := .inr (3, [.int 4, .int 16, .ref (ad2 1 0), .ref q5, .null, .null, .int 0, .int 0, .int 0, .int 0, .int 0, .long 0, .long 0])) tc2
      rw [ea2, ← ev2, ← eL2] at q; exact q
    have t2 : L2 0 0 = some (.inr (3, [.int 4, .int 16, .ref (ad2 1 0), .ref (ad2 6 0), .null, .null, .int 0, .int 0, .int 0, .int 0, .int 0, .long 0, .long 0])) := by rw [eL2, lput_s, eq2]
    have g2 : ∀ i, i ≠ 0 → L2 i = Lc2 i := fun i hi => by rw [eL2]; exact lput_k _ _ hi
    have kT2 := y2.1.get (i := 0) (j := 0) t2
    rw [ea2] at kT2
    have k62 := y2.1.get (i := 6) (j := 0) ((congrFun (g2 6 (by decide)) 0).trans f60)
    refine lv_aload_n hx hb d_MenuScreens_init_81 rfl (lv_at hl 1 rfl) ?_
    refine lv_aload_n hx hb d_MenuScreens_init_82 rfl (lv_at hl 1 rfl) ?_
    refine mv_get C X kT2 3 f_0_26_3 (v := .ref (ad2 6 0)) rfl d_MenuScreens_init_83 ?_
    refine mv_get C X k62 0 f_0_30_5 (v := .ref (ad2 2 0)) rfl d_MenuScreens_init_86 ?_
    refine mv_putF C X kT2 (xl.wr (i := 0) (j := 0) h00) 4 hnm p_0_34_3 rfl rfl (Nat.le_of_ble_eq_true rfl) d_MenuScreens_init_89 (fun H locs X => ?_)
    have X : vO S0 D vcl (vup v2 (ad 0 0) (.inr (3, [.int 4, .int 16, .ref (ad2 1 0), .ref (ad2 6 0), .ref (ad2 2 0), .null, .int 0, .int 0, .int 0, .int 0, .int 0, .long 0, .long 0]))) s H locs := X
    obtain ⟨v3, ev3⟩ : ∃ z, z = (vup v2 (ad 0 0) (.inr (3, [.int 4, .int 16, .ref (ad2 1 0), .ref (ad2 6 0), .ref (ad2 2 0), .null, .int 0, .int 0, .int 0, .int 0, .int 0, .long 0, .long 0]))) := ⟨_, rfl⟩
    have X : vO S0 D vcl (vup v2 (ad 0 0) (.inr (3, [.int 4, .int 16, .ref (ad2 1 0), .ref (ad2 6 0), .ref (ad2 2 0), .null, .int 0, .int 0, .int 0, .int 0, .int 0, .long 0, .long 0]))) s H locs := X
    rw [← ev3] at X
    obtain ⟨L3, eL3⟩ : ∃ z : vL, z = lput L2 0 0 (some (.inr (3, [.int 4, .int 16, .ref (ad2 1 0), .ref (ad2 6 0), .ref (ad2 2 0), .null, .int 0, .int 0, .int 0, .int 0, .int 0, .long 0, .long 0]))) := ⟨_, rfl⟩
    have y3 : LR S0.heap.size hcv h0 ad L v3 ad2 L3 := by
      have q := y2.put (i := 0) (j := 0) (e' := .inr (3, [.int 4, .int 16, .ref (ad2 1 0), .ref (ad2 6 0), .ref (ad2 2 0), .null, .int 0, .int 0, .int 0, .int 0, .int 0, .long 0, .long 0])) t2
      rw [ea2, ← ev3, ← eL3] at q; exact q
    have t3 : L3 0 0 = some (.inr (3, [.int 4, .int 16, .ref (ad2 1 0), .ref (ad2 6 0), .ref (ad2 2 0), .null, .int 0, .int 0, .int 0, .int 0, .int 0, .long 0, .long 0])) := by rw [eL3, lput_s]
    have g3 : ∀ i, i ≠ 0 → L3 i = Lc2 i := fun i hi => by rw [eL3, lput_k _ _ hi]; exact g2 i hi
    have ea3 := ea2
    have kT3 := y3.1.get (i := 0) (j := 0) t3
    rw [ea3] at kT3
    refine lv_aload_n hx hb d_MenuScreens_init_92 rfl (lv_at hl 1 rfl) ?_
    refine mv_new C X n_0_35 (by show ((((0 + 1) + 1) + 1) + 7) + 1 ≤ 14; omega) (by show ((((0 + 4) + 16) + 4) + 56) + 6 ≤ 686; omega) d_MenuScreens_init_93 (fun q7 H z_q7 w_q7 X => ?_)
    have n__ad_0_0__q7 : (ad 0 0) ≠ q7 := vnf kT3 z_q7
    have X : vO S0 D vcl (vup v3 q7 (.inr (7, [.null, .null, .null, .int 0, .int 0, .long 0]))) s H locs := X
    change W _ _ _ _ _ _ _ _ _ _ _ _ (((((0 + 1) + 1) + 1) + 7) + 1) (((((0 + 4) + 16) + 4) + 56) + 6) _ _
    refine lv_dup hx hb d_MenuScreens_init_96 rfl ?_
    have n4 := y3.new 8 0 (e' := .inr (7, [.null, .null, .null, .int 0, .int 0, .long 0])) z_q7 w_q7
    refine mv_bv X (mv_rIN (rest := [.ref q7, .ref (ad 0 0)]) (As := []) gt_good C X (host := "MenuScreens") (y := y_Warnings_init) (n := 0) ⟨va_Nw.of rfl (hE.2.1 _ (List.mem_append_right _ (List.mem_append_left _ (List.mem_of_getElem? (i := 160) (by decide +kernel : tables_1_1[160]? = some _))))), gt_1 161 (by decide +kernel) rfl, gt_1 12 (by decide +kernel) rfl, gt_1 162 (rfl) rfl, rfl, by decide +kernel⟩ (cm_Warnings_init hE hJ n4.1 (lput_s _ _ _ _)) ⟨Nat.le_of_ble_eq_true rfl, Nat.le_of_ble_eq_true rfl⟩ rfl hl.1 rfl (Nat.le_of_ble_eq_true rfl) d_MenuScreens_init_97 ⟨by show (((((0 + 1) + 1) + 1) + 7) + 1) + 3 ≤ 14; omega, by show (((((0 + 4) + 16) + 4) + 56) + 6) + 600 ≤ 686; omega⟩) (fun hN H locs hp X => ?_)
    obtain ⟨ad4, Lc4, zc4, kc4, eq4, f80, f81, f82, f83⟩ := hp
    replace eq4 : ad4 8 0 = q7 := eq4
    have yc4 := n4.trans zc4
    have kk4 : ∀ i, i ≠ 0 → i ≠ 8 → Lc4 i = Lc2 i ∧ ad4 i = ad2 i := fun i q0 q8 => ⟨(kc4 i q8).1.trans ((lput_k _ _ q8).trans (g3 i q0)), (kc4 i q8).2.trans (lput_k _ _ q8)⟩
    have tc4 : Lc4 0 0 = some (.inr (3, [.int 4, .int 16, .ref (ad4 1 0), .ref (ad4 6 0), .ref (ad4 2 0), .null, .int 0, .int 0, .int 0, .int 0, .int 0, .long 0, .long 0])) := by rw [(kk4 1 (by decide) (by decide)).2, (kk4 6 (by decide) (by decide)).2, (kk4 2 (by decide) (by decide)).2, (kc4 0 (by decide)).1, lput_k (i := 8) (j := 0) (i' := 0) _ _ (by decide)]; exact t3
    have ea4 : ad4 0 0 = ad 0 0 := by rw [(kc4 0 (by decide)).2, lput_k (i := 8) (j := 0) (i' := 0) _ _ (by decide)]; exact ea3
    replace f10 : Lc4 1 0 = some (.inr (1, [.ref (ad4 1 1), .int 0, .int 0, .int 0])) := by rw [(kk4 1 (by decide) (by decide)).1, (kk4 1 (by decide) (by decide)).2]; exact f10
    replace f11 : Lc4 1 1 = some (.inl (dT 2, 16, .inl (fun _ => 0))) := by rw [(kk4 1 (by decide) (by decide)).1]; exact f11
    replace f20 : Lc4 2 0 = some (.inr (4, [.ref (ad4 3 0), .ref (ad4 4 0), .ref (ad4 5 0), .int 0])) := by rw [(kk4 2 (by decide) (by decide)).1, (kk4 3 (by decide) (by decide)).2, (kk4 4 (by decide) (by decide)).2, (kk4 5 (by decide) (by decide)).2]; exact f20
    replace f30 : Lc4 3 0 = some (.inr (2, [.ref dE, .int 0, .int 0])) := by rw [(kk4 3 (by decide) (by decide)).1]; exact f30
    replace f40 : Lc4 4 0 = some (.inr (2, [.ref dE, .int 0, .int 0])) := by rw [(kk4 4 (by decide) (by decide)).1]; exact f40
    replace f50 : Lc4 5 0 = some (aI dT 30 (fun _ => 0)) := by rw [(kk4 5 (by decide) (by decide)).1]; exact f50
    replace f60 : Lc4 6 0 = some (.inr (5, [.ref (ad4 2 0), .ref (ad4 7 0), .null, .null])) := by rw [(kk4 6 (by decide) (by decide)).1, (kk4 2 (by decide) (by decide)).2, (kk4 7 (by decide) (by decide)).2]; exact f60
    replace f70 : Lc4 7 0 = some (.inr (6, [.ref (ad4 7 1), .ref (ad4 7 2), .ref lt, .int 0])) := by rw [(kk4 7 (by decide) (by decide)).1, (kk4 7 (by decide) (by decide)).2]; exact f70
    replace f71 : Lc4 7 1 = some (aI dT 6 (fun _ => 0)) := by rw [(kk4 7 (by decide) (by decide)).1]; exact f71
    replace f72 : Lc4 7 2 = some (aI dT 6 (fun _ => 0)) := by rw [(kk4 7 (by decide) (by decide)).1]; exact f72
    have kTc4 := yc4.1.get (i := 0) (j := 0) tc4
    rw [ea4] at kTc4
    refine mv_putF C X kTc4 (xl.wr (i := 0) (j := 0) h00) 5 hnm p_0_38_3 rfl rfl (Nat.le_of_ble_eq_true rfl) d_MenuScreens_init_100 (fun H locs X => ?_)
    have X : vO S0 D vcl (vup hN (ad 0 0) (.inr (3, [.int 4, .int 16, .ref (ad4 1 0), .ref (ad4 6 0), .ref (ad4 2 0), .ref q7, .int 0, .int 0, .int 0, .int 0, .int 0, .long 0, .long 0]))) s H locs := X
    obtain ⟨v4, ev4⟩ : ∃ z, z = (vup hN (ad 0 0) (.inr (3, [.int 4, .int 16, .ref (ad4 1 0), .ref (ad4 6 0), .ref (ad4 2 0), .ref q7, .int 0, .int 0, .int 0, .int 0, .int 0, .long 0, .long 0]))) := ⟨_, rfl⟩
    have X : vO S0 D vcl (vup hN (ad 0 0) (.inr (3, [.int 4, .int 16, .ref (ad4 1 0), .ref (ad4 6 0), .ref (ad4 2 0), .ref q7, .int 0, .int 0, .int 0, .int 0, .int 0, .long 0, .long 0]))) s H locs := X
    rw [← ev4] at X
    obtain ⟨L4, eL4⟩ : ∃ z : vL, z = lput Lc4 0 0 (some (.inr (3, [.int 4, .int 16, .ref (ad4 1 0), .ref (ad4 6 0), .ref (ad4 2 0), .ref q7, .int 0, .int 0, .int 0, .int 0, .int 0, .long 0, .long 0]))) := ⟨_, rfl⟩
    have y4 : LR S0.heap.size hcv h0 ad L v4 ad4 L4 := by
      have q := yc4.put (i := 0) (j := 0) (e' := .inr (3, [.int 4, .int 16, .ref (ad4 1 0), .ref (ad4 6 0), .ref (ad4 2 0), .ref q7, .int 0, .int 0, .int 0, .int 0, .int 0, .long 0, .long 0])) tc4
      rw [ea4, ← ev4, ← eL4] at q; exact q
    have t4 : L4 0 0 = some (.inr (3, [.int 4, .int 16, .ref (ad4 1 0), .ref (ad4 6 0), .ref (ad4 2 0), .ref (ad4 8 0), .int 0, .int 0, .int 0, .int 0, .int 0, .long 0, .long 0])) := by rw [eL4, lput_s, eq4]
    have g4 : ∀ i, i ≠ 0 → L4 i = Lc4 i := fun i hi => by rw [eL4]; exact lput_k _ _ hi
    have kT4 := y4.1.get (i := 0) (j := 0) t4
    rw [ea4] at kT4
    exact mq_vret hQ C X hr hlk (⟨ad4, L4, y4, ⟨fun i hi => ⟨(g4 i (by omega)).trans ((kk4 i (by omega) (by omega)).1.trans ((kk2 i (by omega) (by omega) (by omega) (by omega) (by omega) (by omega) (by omega)).1.trans (kk1 i (by omega) (by omega)).1)), (kk4 i (by omega) (by omega)).2.trans ((kk2 i (by omega) (by omega) (by omega) (by omega) (by omega) (by omega) (by omega)).2.trans (kk1 i (by omega) (by omega)).2)⟩, ea4⟩, CR_in (by rw [show iH p1 p2 = 4 from if_neg hg, show iW p1 p2 = 16 from if_neg hg]; exact t4) ((congrFun (g4 1 (by decide)) 0).trans f10) ((congrFun (g4 1 (by decide)) 1).trans f11) ((congrFun (g4 2 (by decide)) 0).trans f20) ((congrFun (g4 3 (by decide)) 0).trans f30) ((congrFun (g4 4 (by decide)) 0).trans f40) ((congrFun (g4 5 (by decide)) 0).trans f50) ((congrFun (g4 6 (by decide)) 0).trans f60) ((congrFun (g4 7 (by decide)) 0).trans f70) ((congrFun (g4 7 (by decide)) 1).trans f71) ((congrFun (g4 7 (by decide)) 2).trans f72) ((congrFun (g4 8 (by decide)) 0).trans f80) ((congrFun (g4 8 (by decide)) 1).trans f81) ((congrFun (g4 8 (by decide)) 2).trans f82) ((congrFun (g4 8 (by decide)) 3).trans f83)⟩) (by omega) (by omega) d_MenuScreens_init_103
  refine lv_iload_n hx hb d_MenuScreens_init_4 rfl (lv_at hl 1 rfl) ?_
  refine lv_iconst (v := 1) hx hb d_MenuScreens_init_5 (by decide) ?_
  refine lv_icmp_lt (tgt := 30) hx hb d_MenuScreens_init_6 (by decide) (fun c9 => ?_) (fun c9 => ?_)
  · skip
    exact jn  ls  (gd_n1 (Or.inl c9)) (lv_sub hl [0, 1, 2] rfl)
  · skip
    refine lv_iload_n hx hb d_MenuScreens_init_9 rfl (lv_at hl 1 rfl) ?_
    refine lv_bipush (v := 40) hx hb d_MenuScreens_init_10 (by decide) ?_
    refine lv_icmp_gt (tgt := 30) hx hb d_MenuScreens_init_12 (by decide) (fun c10 => ?_) (fun c10 => ?_)
    · skip
      exact jn  ls  (gd_n1 (Or.inr (Or.inl c10))) (lv_sub hl [0, 1, 2] rfl)
    · skip
      refine lv_iload_n hx hb d_MenuScreens_init_15 rfl (lv_at hl 2 rfl) ?_
      refine lv_iconst (v := 1) hx hb d_MenuScreens_init_16 (by decide) ?_
      refine lv_icmp_lt (tgt := 30) hx hb d_MenuScreens_init_17 (by decide) (fun c11 => ?_) (fun c11 => ?_)
      · skip
        exact jn  ls  (gd_n1 (Or.inr (Or.inr (Or.inl c11)))) (lv_sub hl [0, 1, 2] rfl)
      · skip
        refine lv_iload_n hx hb d_MenuScreens_init_20 rfl (lv_at hl 2 rfl) ?_
        refine lv_bipush (v := 40) hx hb d_MenuScreens_init_21 (by decide) ?_
        refine lv_icmp_gt (tgt := 30) hx hb d_MenuScreens_init_23 (by decide) (fun c12 => ?_) (fun c12 => ?_)
        · skip
          exact jn  ls  (gd_n1 (Or.inr (Or.inr (Or.inr c12)))) (lv_sub hl [0, 1, 2] rfl)
        · skip
          have hg : (0 < p1 ∧ p1 < 41 ∧ 0 < p2 ∧ p2 < 41) := gd_of c9 c10 c11 c12
          refine lv_iconst (v := 1) hx hb d_MenuScreens_init_26 (by decide) ?_
          refine lv_goto (tgt := 31) hx hb d_MenuScreens_init_27 (by decide) ?_
          refine lv_istore_n (lv' := [(3, .int 1), (0, .ref (ad 0 0)), (1, .int p1), (2, .int p2)]) hx hb d_MenuScreens_init_31 rfl hl (by decide) rfl (fun ls hl => ?_)
          refine lv_aload_n hx hb d_MenuScreens_init_32 rfl (lv_at hl 1 rfl) ?_
          refine lv_iload_n hx hb d_MenuScreens_init_33 rfl (lv_at hl 0 rfl) ?_
          refine lv_if_eq (tgt := 41) hx hb d_MenuScreens_init_34 (by decide) (fun z => absurd z (by decide)) (fun c13 => ?_)
          refine lv_iload_n hx hb d_MenuScreens_init_37 rfl (lv_at hl 2 rfl) ?_
          refine lv_goto (tgt := 42) hx hb d_MenuScreens_init_38 (by decide) ?_
          refine mv_putF C X (xl.get (i := 0) (j := 0) h00) (xl.wr (i := 0) (j := 0) h00) 0 hnm p_0_9_3 rfl rfl (Nat.le_of_ble_eq_true rfl) d_MenuScreens_init_42 (fun H locs X => ?_)
          have X : vO S0 D vcl (vup h0 (ad 0 0) (.inr (3, [.int p1, .int 0, .null, .null, .null, .null, .int 0, .int 0, .int 0, .int 0, .int 0, .long 0, .long 0]))) s H locs := X
          refine lv_aload_n hx hb d_MenuScreens_init_45 rfl (lv_at hl 1 rfl) ?_
          refine lv_iload_n hx hb d_MenuScreens_init_46 rfl (lv_at hl 0 rfl) ?_
          refine lv_if_eq (tgt := 54) hx hb d_MenuScreens_init_47 (by decide) (fun z => absurd z (by decide)) (fun c14 => ?_)
          refine lv_iload_n hx hb d_MenuScreens_init_50 rfl (lv_at hl 3 rfl) ?_
          refine lv_goto (tgt := 56) hx hb d_MenuScreens_init_51 (by decide) ?_
          refine mv_putF C X (vup_s _ _ _) (xl.wr (i := 0) (j := 0) h00) 1 hnm p_0_13_3 rfl rfl (Nat.le_of_ble_eq_true rfl) d_MenuScreens_init_56 (fun H locs X => ?_)
          rw [vup_u] at X
          have X : vO S0 D vcl (vup h0 (ad 0 0) (.inr (3, [.int p1, .int p2, .null, .null, .null, .null, .int 0, .int 0, .int 0, .int 0, .int 0, .long 0, .long 0]))) s H locs := X
          refine lv_aload_n hx hb d_MenuScreens_init_59 rfl (lv_at hl 1 rfl) ?_
          refine mv_new C X n_0_16 (by show 0 + 1 ≤ 14; omega) (by show 0 + 4 ≤ 686; omega) d_MenuScreens_init_60 (fun q15 H z_q15 w_q15 X => ?_)
          have n__ad_0_0__q15 : (ad 0 0) ≠ q15 := vnf (vup_s _ _ _) z_q15
          have X : vO S0 D vcl (vup (vup h0 (ad 0 0) (.inr (3, [.int p1, .int p2, .null, .null, .null, .null, .int 0, .int 0, .int 0, .int 0, .int 0, .long 0, .long 0]))) q15 (.inr (1, [.null, .int 0, .int 0, .int 0]))) s H locs := X
          change W _ _ _ _ _ _ _ _ _ _ _ _ (0 + 1) (0 + 4) _ _
          refine lv_dup hx hb d_MenuScreens_init_63 rfl ?_
          refine mv_bv X (mv_rI (rest := [.ref q15, .ref (ad 0 0)]) (As := []) gt_good C X k_0_18 (cm_StringBuilder_init hE hJ (vup_s _ _ _) w_q15) ⟨Nat.le_of_ble_eq_true rfl, Nat.le_of_ble_eq_true rfl⟩ rfl hl.1 rfl (Nat.le_of_ble_eq_true rfl) d_MenuScreens_init_64 ⟨by show (0 + 1) + 1 ≤ 14; omega, by show (0 + 4) + 16 ≤ 686; omega⟩) (fun hN H locs hp X => ?_)
          obtain ⟨qb, zb, wb, eh⟩ := hp
          obtain ⟨ad1, ead1⟩ : ∃ z, z = lput (lput ad 1 0 q15) 1 1 qb := ⟨_, rfl⟩
          obtain ⟨Lc1, eLc1⟩ : ∃ z : vL, z = lput (lput (lput (lput L 0 0 (some (.inr (3, [.int p1, .int p2, .null, .null, .null, .null, .int 0, .int 0, .int 0, .int 0, .int 0, .long 0, .long 0])))) 1 0 (some (.inr (1, [.null, .int 0, .int 0, .int 0])))) 1 1 (some (.inl (dT 2, 16, .inl (fun _ => 0))))) 1 0 (some (.inr (1, [.ref qb, .int 0, .int 0, .int 0]))) := ⟨_, rfl⟩
          have yc1 : LR S0.heap.size hcv h0 ad L hN ad1 Lc1 := by
            rw [eh, ead1, eLc1]
            exact ((((LR.of xl).put (i := 0) (j := 0) (e' := .inr (3, [.int p1, .int p2, .null, .null, .null, .null, .int 0, .int 0, .int 0, .int 0, .int 0, .long 0, .long 0])) h00).new 1 0 (e' := .inr (1, [.null, .int 0, .int 0, .int 0])) z_q15 w_q15).new 1 1 (e' := .inl (dT 2, 16, .inl (fun _ => 0))) zb wb).put (i := 1) (j := 0) (e' := .inr (1, [.ref qb, .int 0, .int 0, .int 0])) rfl
          have eq1 : ad1 1 0 = q15 := by rw [ead1]; rfl
          have f10 : Lc1 1 0 = some (.inr (1, [.ref (ad1 1 1), .int 0, .int 0, .int 0])) := by rw [eLc1, ead1]; rfl
          have f11 : Lc1 1 1 = some (.inl (dT 2, 16, .inl (fun _ => 0))) := by rw [eLc1]; rfl
          have tc1 : Lc1 0 0 = some (.inr (3, [.int p1, .int p2, .null, .null, .null, .null, .int 0, .int 0, .int 0, .int 0, .int 0, .long 0, .long 0])) := by rw [eLc1]; rfl
          have ea1 : ad1 0 0 = ad 0 0 := by rw [ead1]; rfl
          have kk1 : ∀ i, i ≠ 0 → i ≠ 1 → Lc1 i = L i ∧ ad1 i = ad i := fun i q0 q1 => ⟨by rw [eLc1]; simp only [lput_k _ _ q0, lput_k _ _ q1], by rw [ead1]; simp only [lput_k _ _ q1]⟩
          have kTc1 := yc1.1.get (i := 0) (j := 0) tc1
          rw [ea1] at kTc1
          refine mv_putF C X kTc1 (xl.wr (i := 0) (j := 0) h00) 2 hnm p_0_19_3 rfl rfl (Nat.le_of_ble_eq_true rfl) d_MenuScreens_init_67 (fun H locs X => ?_)
          have X : vO S0 D vcl (vup hN (ad 0 0) (.inr (3, [.int p1, .int p2, .ref q15, .null, .null, .null, .int 0, .int 0, .int 0, .int 0, .int 0, .long 0, .long 0]))) s H locs := X
          obtain ⟨v1, ev1⟩ : ∃ z, z = (vup hN (ad 0 0) (.inr (3, [.int p1, .int p2, .ref q15, .null, .null, .null, .int 0, .int 0, .int 0, .int 0, .int 0, .long 0, .long 0]))) := ⟨_, rfl⟩
          have X : vO S0 D vcl (vup hN (ad 0 0) (.inr (3, [.int p1, .int p2, .ref q15, .null, .null, .null, .int 0, .int 0, .int 0, .int 0, .int 0, .long 0, .long 0]))) s H locs := X
          rw [← ev1] at X
          obtain ⟨L1, eL1⟩ : ∃ z : vL, z = lput Lc1 0 0 (some (.inr (3, [.int p1, .int p2, .ref q15, .null, .null, .null, .int 0, .int 0, .int 0, .int 0, .int 0, .long 0, .long 0]))) := ⟨_, rfl⟩
          have y1 : LR S0.heap.size hcv h0 ad L v1 ad1 L1 := by
            have q := yc1.put (i := 0) (j := 0) (e' := .inr (3, [.int p1, .int p2, .ref q15, .null, .null, .null, .int 0, .int 0, .int 0, .int 0, .int 0, .long 0, .long 0])) tc1
            rw [ea1, ← ev1, ← eL1] at q; exact q
          have t1 : L1 0 0 = some (.inr (3, [.int p1, .int p2, .ref (ad1 1 0), .null, .null, .null, .int 0, .int 0, .int 0, .int 0, .int 0, .long 0, .long 0])) := by rw [eL1, lput_s, eq1]
          have g1 : ∀ i, i ≠ 0 → L1 i = Lc1 i := fun i hi => by rw [eL1]; exact lput_k _ _ hi
          have kT1 := y1.1.get (i := 0) (j := 0) t1
          rw [ea1] at kT1
          refine lv_aload_n hx hb d_MenuScreens_init_70 rfl (lv_at hl 1 rfl) ?_
          refine mv_new C X n_0_23 (by show ((0 + 1) + 1) + 1 ≤ 14; omega) (by show ((0 + 4) + 16) + 4 ≤ 686; omega) d_MenuScreens_init_71 (fun q17 H z_q17 w_q17 X => ?_)
          have n__ad_0_0__q17 : (ad 0 0) ≠ q17 := vnf kT1 z_q17
          have X : vO S0 D vcl (vup v1 q17 (.inr (5, [.null, .null, .null, .null]))) s H locs := X
          change W _ _ _ _ _ _ _ _ _ _ _ _ (((0 + 1) + 1) + 1) (((0 + 4) + 16) + 4) _ _
          refine lv_dup hx hb d_MenuScreens_init_74 rfl ?_
          have n2 := y1.new 6 0 (e' := .inr (5, [.null, .null, .null, .null])) z_q17 w_q17
          refine mv_bv X (mv_rIN (rest := [.ref q17, .ref (ad 0 0)]) (As := []) gt_good C X (host := "MenuScreens") (y := y_Reader_init) (n := 0) ⟨va_Nw.of rfl (hE.2.1 _ (List.mem_append_right _ (List.mem_append_left _ (List.mem_of_getElem? (i := 71) (by decide +kernel : tables_1_1[71]? = some _))))), gt_1 72 (by decide +kernel) rfl, gt_1 6 (by decide +kernel) rfl, gt_1 73 (rfl) rfl, rfl, by decide +kernel⟩ (cm_Reader_init hE hJ n2.1 (lput_s _ _ _ _) hlt) ⟨Nat.le_of_ble_eq_true rfl, Nat.le_of_ble_eq_true rfl⟩ rfl hl.1 rfl (Nat.le_of_ble_eq_true rfl) d_MenuScreens_init_75 ⟨by show (((0 + 1) + 1) + 1) + 7 ≤ 14; omega, by show (((0 + 4) + 16) + 4) + 56 ≤ 686; omega⟩) (fun hN H locs hp X => ?_)
          obtain ⟨ad2, Lc2, zc2, kc2, eq2, f60, f20, f30, f40, f50, f70, f71, f72⟩ := hp
          replace eq2 : ad2 6 0 = q17 := eq2
          have yc2 := n2.trans zc2
          have kk2 : ∀ i, i ≠ 0 → i ≠ 2 → i ≠ 3 → i ≠ 4 → i ≠ 5 → i ≠ 6 → i ≠ 7 → Lc2 i = Lc1 i ∧ ad2 i = ad1 i := fun i q0 q2 q3 q4 q5 q6 q7 => ⟨(kc2 i q2 q3 q4 q5 q6 q7).1.trans ((lput_k _ _ q6).trans (g1 i q0)), (kc2 i q2 q3 q4 q5 q6 q7).2.trans (lput_k _ _ q6)⟩
          have tc2 : Lc2 0 0 = some (.inr (3, [.int p1, .int p2, .ref (ad2 1 0), .null, .null, .null, .int 0, .int 0, .int 0, .int 0, .int 0, .long 0, .long 0])) := by rw [(kk2 1 (by decide) (by decide) (by decide) (by decide) (by decide) (by decide) (by decide)).2, (kc2 0 (by decide) (by decide) (by decide) (by decide) (by decide) (by decide)).1, lput_k (i := 6) (j := 0) (i' := 0) _ _ (by decide)]; exact t1
          have ea2 : ad2 0 0 = ad 0 0 := by rw [(kc2 0 (by decide) (by decide) (by decide) (by decide) (by decide) (by decide)).2, lput_k (i := 6) (j := 0) (i' := 0) _ _ (by decide)]; exact ea1
          replace f10 : Lc2 1 0 = some (.inr (1, [.ref (ad2 1 1), .int 0, .int 0, .int 0])) := by rw [(kk2 1 (by decide) (by decide) (by decide) (by decide) (by decide) (by decide) (by decide)).1, (kk2 1 (by decide) (by decide) (by decide) (by decide) (by decide) (by decide) (by decide)).2]; exact f10
          replace f11 : Lc2 1 1 = some (.inl (dT 2, 16, .inl (fun _ => 0))) := by rw [(kk2 1 (by decide) (by decide) (by decide) (by decide) (by decide) (by decide) (by decide)).1]; exact f11
          have kTc2 := yc2.1.get (i := 0) (j := 0) tc2
          rw [ea2] at kTc2
          refine mv_putF C X kTc2 (xl.wr (i := 0) (j := 0) h00) 3 hnm p_0_26_3 rfl rfl (Nat.le_of_ble_eq_true rfl) d_MenuScreens_init_78 (fun H locs X => ?_)
          have X : vO S0 D vcl (vup hN (ad 0 0) (.inr (3, [.int p1, .int p2, .ref (ad2 1 0), .ref q17, .null, .null, .int 0, .int 0, .int 0, .int 0, .int 0, .long 0, .long 0]))) s H locs := X
          obtain ⟨v2, ev2⟩ : ∃ z, z = (vup hN (ad 0 0) (.inr (3, [.int p1, .int p2, .ref (ad2 1 0), .ref q17, .null, .null, .int 0, .int 0, .int 0, .int 0, .int 0, .long 0, .long 0]))) := ⟨_, rfl⟩
          have X : vO S0 D vcl (vup hN (ad 0 0) (.inr (3, [.int p1, .int p2, .ref (ad2 1 0), .ref q17, .null, .null, .int 0, .int 0, .int 0, .int 0, .int 0, .long 0, .long 0]))) s H locs := X
          rw [← ev2] at X
          obtain ⟨L2, eL2⟩ : ∃ z : vL, z = lput Lc2 0 0 (some (.inr (3, [.int p1, .int p2, .ref (ad2 1 0), .ref q17, .null, .null, .int 0, .int 0, .int 0, .int 0, .int 0, .long 0, .long 0]))) := ⟨_, rfl⟩
          have y2 : LR S0.heap.size hcv h0 ad L v2 ad2 L2 := by
            have q := yc2.put (i := 0) (j := 0) (e' := .inr (3, [.int p1, .int p2, .ref (ad2 1 0), .ref q17, .null, .null, .int 0, .int 0, .int 0, .int 0, .int 0, .long 0, .long 0])) tc2
            rw [ea2, ← ev2, ← eL2] at q; exact q
          have t2 : L2 0 0 = some (.inr (3, [.int p1, .int p2, .ref (ad2 1 0), .ref (ad2 6 0), .null, .null, .int 0, .int 0, .int 0, .int 0, .int 0, .long 0, .long 0])) := by rw [eL2, lput_s, eq2]
          have g2 : ∀ i, i ≠ 0 → L2 i = Lc2 i := fun i hi => by rw [eL2]; exact lput_k _ _ hi
          have kT2 := y2.1.get (i := 0) (j := 0) t2
          rw [ea2] at kT2
          have k62 := y2.1.get (i := 6) (j := 0) ((congrFun (g2 6 (by decide)) 0).trans f60)
          refine lv_aload_n hx hb d_MenuScreens_init_81 rfl (lv_at hl 1 rfl) ?_
          refine lv_aload_n hx hb d_MenuScreens_init_82 rfl (lv_at hl 1 rfl) ?_
          refine mv_get C X kT2 3 f_0_26_3 (v := .ref (ad2 6 0)) rfl d_MenuScreens_init_83 ?_
          refine mv_get C X k62 0 f_0_30_5 (v := .ref (ad2 2 0)) rfl d_MenuScreens_init_86 ?_
          refine mv_putF C X kT2 (xl.wr (i := 0) (j := 0) h00) 4 hnm p_0_34_3 rfl rfl (Nat.le_of_ble_eq_true rfl) d_MenuScreens_init_89 (fun H locs X => ?_)
          have X : vO S0 D vcl (vup v2 (ad 0 0) (.inr (3, [.int p1, .int p2, .ref (ad2 1 0), .ref (ad2 6 0), .ref (ad2 2 0), .null, .int 0, .int 0, .int 0, .int 0, .int 0, .long 0, .long 0]))) s H locs := X
          obtain ⟨v3, ev3⟩ : ∃ z, z = (vup v2 (ad 0 0) (.inr (3, [.int p1, .int p2, .ref (ad2 1 0), .ref (ad2 6 0), .ref (ad2 2 0), .null, .int 0, .int 0, .int 0, .int 0, .int 0, .long 0, .long 0]))) := ⟨_, rfl⟩
          have X : vO S0 D vcl (vup v2 (ad 0 0) (.inr (3, [.int p1, .int p2, .ref (ad2 1 0), .ref (ad2 6 0), .ref (ad2 2 0), .null, .int 0, .int 0, .int 0, .int 0, .int 0, .long 0, .long 0]))) s H locs := X
          rw [← ev3] at X
          obtain ⟨L3, eL3⟩ : ∃ z : vL, z = lput L2 0 0 (some (.inr (3, [.int p1, .int p2, .ref (ad2 1 0), .ref (ad2 6 0), .ref (ad2 2 0), .null, .int 0, .int 0, .int 0, .int 0, .int 0, .long 0, .long 0]))) := ⟨_, rfl⟩
          have y3 : LR S0.heap.size hcv h0 ad L v3 ad2 L3 := by
            have q := y2.put (i := 0) (j := 0) (e' := .inr (3, [.int p1, .int p2, .ref (ad2 1 0), .ref (ad2 6 0), .ref (ad2 2 0), .null, .int 0, .int 0, .int 0, .int 0, .int 0, .long 0, .long 0])) t2
            rw [ea2, ← ev3, ← eL3] at q; exact q
          have t3 : L3 0 0 = some (.inr (3, [.int p1, .int p2, .ref (ad2 1 0), .ref (ad2 6 0), .ref (ad2 2 0), .null, .int 0, .int 0, .int 0, .int 0, .int 0, .long 0, .long 0])) := by rw [eL3, lput_s]
          have g3 : ∀ i, i ≠ 0 → L3 i = Lc2 i := fun i hi => by rw [eL3, lput_k _ _ hi]; exact g2 i hi
          have ea3 := ea2
          have kT3 := y3.1.get (i := 0) (j := 0) t3
          rw [ea3] at kT3
          refine lv_aload_n hx hb d_MenuScreens_init_92 rfl (lv_at hl 1 rfl) ?_
          refine mv_new C X n_0_35 (by show ((((0 + 1) + 1) + 1) + 7) + 1 ≤ 14; omega) (by show ((((0 + 4) + 16) + 4) + 56) + 6 ≤ 686; omega) d_MenuScreens_init_93 (fun q19 H z_q19 w_q19 X => ?_)
          have n__ad_0_0__q19 : (ad 0 0) ≠ q19 := vnf kT3 z_q19
          have X : vO S0 D vcl (vup v3 q19 (.inr (7, [.null, .null, .null, .int 0, .int 0, .long 0]))) s H locs := X
          change W _ _ _ _ _ _ _ _ _ _ _ _ (((((0 + 1) + 1) + 1) + 7) + 1) (((((0 + 4) + 16) + 4) + 56) + 6) _ _
          refine lv_dup hx hb d_MenuScreens_init_96 rfl ?_
          have n4 := y3.new 8 0 (e' := .inr (7, [.null, .null, .null, .int 0, .int 0, .long 0])) z_q19 w_q19
          refine mv_bv X (mv_rIN (rest := [.ref q19, .ref (ad 0 0)]) (As := []) gt_good C X (host := "MenuScreens") (y := y_Warnings_init) (n := 0) ⟨va_Nw.of rfl (hE.2.1 _ (List.mem_append_right _ (List.mem_append_left _ (List.mem_of_getElem? (i := 160) (by decide +kernel : tables_1_1[160]? = some _))))), gt_1 161 (by decide +kernel) rfl, gt_1 12 (by decide +kernel) rfl, gt_1 162 (rfl) rfl, rfl, by decide +kernel⟩ (cm_Warnings_init hE hJ n4.1 (lput_s _ _ _ _)) ⟨Nat.le_of_ble_eq_true rfl, Nat.le_of_ble_eq_true rfl⟩ rfl hl.1 rfl (Nat.le_of_ble_eq_true rfl) d_MenuScreens_init_97 ⟨by show (((((0 + 1) + 1) + 1) + 7) + 1) + 3 ≤ 14; omega, by show (((((0 + 4) + 16) + 4) + 56) + 6) + 600 ≤ 686; omega⟩) (fun hN H locs hp X => ?_)
          obtain ⟨ad4, Lc4, zc4, kc4, eq4, f80, f81, f82, f83⟩ := hp
          replace eq4 : ad4 8 0 = q19 := eq4
          have yc4 := n4.trans zc4
          have kk4 : ∀ i, i ≠ 0 → i ≠ 8 → Lc4 i = Lc2 i ∧ ad4 i = ad2 i := fun i q0 q8 => ⟨(kc4 i q8).1.trans ((lput_k _ _ q8).trans (g3 i q0)), (kc4 i q8).2.trans (lput_k _ _ q8)⟩
          have tc4 : Lc4 0 0 = some (.inr (3, [.int p1, .int p2, .ref (ad4 1 0), .ref (ad4 6 0), .ref (ad4 2 0), .null, .int 0, .int 0, .int 0, .int 0, .int 0, .long 0, .long 0])) := by rw [(kk4 1 (by decide) (by decide)).2, (kk4 6 (by decide) (by decide)).2, (kk4 2 (by decide) (by decide)).2, (kc4 0 (by decide)).1, lput_k (i := 8) (j := 0) (i' := 0) _ _ (by decide)]; exact t3
          have ea4 : ad4 0 0 = ad 0 0 := by rw [(kc4 0 (by decide)).2, lput_k (i := 8) (j := 0) (i' := 0) _ _ (by decide)]; exact ea3
          replace f10 : Lc4 1 0 = some (.inr (1, [.ref (ad4 1 1), .int 0, .int 0, .int 0])) := by rw [(kk4 1 (by decide) (by decide)).1, (kk4 1 (by decide) (by decide)).2]; exact f10
          replace f11 : Lc4 1 1 = some (.inl (dT 2, 16, .inl (fun _ => 0))) := by rw [(kk4 1 (by decide) (by decide)).1]; exact f11
          replace f20 : Lc4 2 0 = some (.inr (4, [.ref (ad4 3 0), .ref (ad4 4 0), .ref (ad4 5 0), .int 0])) := by rw [(kk4 2 (by decide) (by decide)).1, (kk4 3 (by decide) (by decide)).2, (kk4 4 (by decide) (by decide)).2, (kk4 5 (by decide) (by decide)).2]; exact f20
          replace f30 : Lc4 3 0 = some (.inr (2, [.ref dE, .int 0, .int 0])) := by rw [(kk4 3 (by decide) (by decide)).1]; exact f30
          replace f40 : Lc4 4 0 = some (.inr (2, [.ref dE, .int 0, .int 0])) := by rw [(kk4 4 (by decide) (by decide)).1]; exact f40
          replace f50 : Lc4 5 0 = some (aI dT 30 (fun _ => 0)) := by rw [(kk4 5 (by decide) (by decide)).1]; exact f50
          replace f60 : Lc4 6 0 = some (.inr (5, [.ref (ad4 2 0), .ref (ad4 7 0), .null, .null])) := by rw [(kk4 6 (by decide) (by decide)).1, (kk4 2 (by decide) (by decide)).2, (kk4 7 (by decide) (by decide)).2]; exact f60
          replace f70 : Lc4 7 0 = some (.inr (6, [.ref (ad4 7 1), .ref (ad4 7 2), .ref lt, .int 0])) := by rw [(kk4 7 (by decide) (by decide)).1, (kk4 7 (by decide) (by decide)).2]; exact f70
          replace f71 : Lc4 7 1 = some (aI dT 6 (fun _ => 0)) := by rw [(kk4 7 (by decide) (by decide)).1]; exact f71
          replace f72 : Lc4 7 2 = some (aI dT 6 (fun _ => 0)) := by rw [(kk4 7 (by decide) (by decide)).1]; exact f72
          have kTc4 := yc4.1.get (i := 0) (j := 0) tc4
          rw [ea4] at kTc4
          refine mv_putF C X kTc4 (xl.wr (i := 0) (j := 0) h00) 5 hnm p_0_38_3 rfl rfl (Nat.le_of_ble_eq_true rfl) d_MenuScreens_init_100 (fun H locs X => ?_)
          have X : vO S0 D vcl (vup hN (ad 0 0) (.inr (3, [.int p1, .int p2, .ref (ad4 1 0), .ref (ad4 6 0), .ref (ad4 2 0), .ref q19, .int 0, .int 0, .int 0, .int 0, .int 0, .long 0, .long 0]))) s H locs := X
          obtain ⟨v4, ev4⟩ : ∃ z, z = (vup hN (ad 0 0) (.inr (3, [.int p1, .int p2, .ref (ad4 1 0), .ref (ad4 6 0), .ref (ad4 2 0), .ref q19, .int 0, .int 0, .int 0, .int 0, .int 0, .long 0, .long 0]))) := ⟨_, rfl⟩
          have X : vO S0 D vcl (vup hN (ad 0 0) (.inr (3, [.int p1, .int p2, .ref (ad4 1 0), .ref (ad4 6 0), .ref (ad4 2 0), .ref q19, .int 0, .int 0, .int 0, .int 0, .int 0, .long 0, .long 0]))) s H locs := X
          rw [← ev4] at X
          obtain ⟨L4, eL4⟩ : ∃ z : vL, z = lput Lc4 0 0 (some (.inr (3, [.int p1, .int p2, .ref (ad4 1 0), .ref (ad4 6 0), .ref (ad4 2 0), .ref q19, .int 0, .int 0, .int 0, .int 0, .int 0, .long 0, .long 0]))) := ⟨_, rfl⟩
          have y4 : LR S0.heap.size hcv h0 ad L v4 ad4 L4 := by
            have q := yc4.put (i := 0) (j := 0) (e' := .inr (3, [.int p1, .int p2, .ref (ad4 1 0), .ref (ad4 6 0), .ref (ad4 2 0), .ref q19, .int 0, .int 0, .int 0, .int 0, .int 0, .long 0, .long 0])) tc4
            rw [ea4, ← ev4, ← eL4] at q; exact q
          have t4 : L4 0 0 = some (.inr (3, [.int p1, .int p2, .ref (ad4 1 0), .ref (ad4 6 0), .ref (ad4 2 0), .ref (ad4 8 0), .int 0, .int 0, .int 0, .int 0, .int 0, .long 0, .long 0])) := by rw [eL4, lput_s, eq4]
          have g4 : ∀ i, i ≠ 0 → L4 i = Lc4 i := fun i hi => by rw [eL4]; exact lput_k _ _ hi
          have kT4 := y4.1.get (i := 0) (j := 0) t4
          rw [ea4] at kT4
          exact mq_vret hQ C X hr hlk (⟨ad4, L4, y4, ⟨fun i hi => ⟨(g4 i (by omega)).trans ((kk4 i (by omega) (by omega)).1.trans ((kk2 i (by omega) (by omega) (by omega) (by omega) (by omega) (by omega) (by omega)).1.trans (kk1 i (by omega) (by omega)).1)), (kk4 i (by omega) (by omega)).2.trans ((kk2 i (by omega) (by omega) (by omega) (by omega) (by omega) (by omega) (by omega)).2.trans (kk1 i (by omega) (by omega)).2)⟩, ea4⟩, CR_in (by rw [show iH p1 p2 = p1 from if_pos hg, show iW p1 p2 = p2 from if_pos hg]; exact t4) ((congrFun (g4 1 (by decide)) 0).trans f10) ((congrFun (g4 1 (by decide)) 1).trans f11) ((congrFun (g4 2 (by decide)) 0).trans f20) ((congrFun (g4 3 (by decide)) 0).trans f30) ((congrFun (g4 4 (by decide)) 0).trans f40) ((congrFun (g4 5 (by decide)) 0).trans f50) ((congrFun (g4 6 (by decide)) 0).trans f60) ((congrFun (g4 7 (by decide)) 0).trans f70) ((congrFun (g4 7 (by decide)) 1).trans f71) ((congrFun (g4 7 (by decide)) 2).trans f72) ((congrFun (g4 8 (by decide)) 0).trans f80) ((congrFun (g4 8 (by decide)) 1).trans f81) ((congrFun (g4 8 (by decide)) 2).trans f82) ((congrFun (g4 8 (by decide)) 3).trans f83)⟩) (by omega) (by omega) d_MenuScreens_init_103
