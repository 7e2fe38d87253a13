theorem d_Reader_takePiece10_0 : decode prog_6_method_12_code 0 = .ok (.aload_n 2, 1) := by decide +kernel
theorem d_Reader_takePiece10_1 : decode prog_6_method_12_code 1 = .ok (.getfield 177, 3) := by decide +kernel
theorem d_Reader_takePiece10_4 : decode prog_6_method_12_code 4 = .ok (.ifCond .lt 10, 3) := by decide +kernel
theorem d_Reader_takePiece10_7 : decode prog_6_method_12_code 7 = .ok (.aload_n 2, 1) := by decide +kernel
theorem d_Reader_takePiece10_8 : decode prog_6_method_12_code 8 = .ok (.getfield 183, 3) := by decide +kernel
theorem d_Reader_takePiece10_11 : decode prog_6_method_12_code 11 = .ok (.ifCond .ge 5, 3) := by decide +kernel
theorem d_Reader_takePiece10_14 : decode prog_6_method_12_code 14 = .ok (.iconst 0, 1) := by decide +kernel
theorem d_Reader_takePiece10_15 : decode prog_6_method_12_code 15 = .ok (.ireturn, 1) := by decide +kernel
theorem d_Reader_takePiece10_16 : decode prog_6_method_12_code 16 = .ok (.aload_n 1, 1) := by decide +kernel
theorem d_Reader_takePiece10_17 : decode prog_6_method_12_code 17 = .ok (.getfield 186, 3) := by decide +kernel
theorem d_Reader_takePiece10_20 : decode prog_6_method_12_code 20 = .ok (.aload_n 2, 1) := by decide +kernel
theorem d_Reader_takePiece10_21 : decode prog_6_method_12_code 21 = .ok (.invokevirtual 129, 3) := by decide +kernel
theorem d_Reader_takePiece10_24 : decode prog_6_method_12_code 24 = .ok (.pop, 1) := by decide +kernel
theorem d_Reader_takePiece10_25 : decode prog_6_method_12_code 25 = .ok (.aload_n 0, 1) := by decide +kernel
theorem d_Reader_takePiece10_26 : decode prog_6_method_12_code 26 = .ok (.aconst_null, 1) := by decide +kernel
theorem d_Reader_takePiece10_27 : decode prog_6_method_12_code 27 = .ok (.putfield 29, 3) := by decide +kernel
theorem d_Reader_takePiece10_30 : decode prog_6_method_12_code 30 = .ok (.iconst 1, 1) := by decide +kernel
theorem d_Reader_takePiece10_31 : decode prog_6_method_12_code 31 = .ok (.ireturn, 1) := by decide +kernel
set_option maxRecDepth 100000 in
set_option maxHeartbeats 4000000 in
theorem cm_Reader_takePiece10 {l : Launch} {S0 : State} {b : Nat} {D : va_G} {dT : Nat → ClassId} (hE : vEnv S0 b D dT) {dE mO : Nat} (hJ : vJ S0 dE mO) {h0 : vH} {hcv : vH} {ad : Nat → Nat → Nat} {L : vL} {rc : Int32} {A : Nat → Nat → Int32} {B : Nat → Nat → Int64} {nv ns np nc : Nat} {pf cb ce cs : Nat → Nat} {c0 : Nat} (x : LH S0.heap.size hcv h0 ad L) (hcE : ∃ fE, hcv dE = some (aR dT 0 fE)) (hR : PR dT dE h0 ad L A B nv ns np nc pf cb ce cs c0 rc) (hnv : nv ≤ 40) (hns : ns ≤ 30) (hnp : np ≤ 600) (hnc : nc ≤ 600) (hns0 : 0 < ns) {q0 : Nat} {ro co : Int32} {y1 y2 y5 : Value} (eq0 : ad 16 np = q0) (h16 : L 16 np = some (.inr (10, [y1, y2, .int ro, .int co, y5]))) : vMi l S0 D vcl GT y_Reader_takePiece prog_6_method_12_code 3 (some .boolean) 7 161 1 (10 + 2 * (np - pf (ns - 1))) [.ref (ad 6 0), .ref (ad 11 (ns - 1)), .ref q0] h0 (fun r h' => ((ro < 0 ∨ co < 0) ∧ r = 0 ∧ h' = h0) ∨ ((¬ ro < 0 ∧ ¬ co < 0) ∧ r = 1 ∧ ∃ b1 e1 e2, LR S0.heap.size hcv h0 ad L h' (lput ad 13 (ns - 1) b1) (lput (lput (lput L 12 (ns - 1) (some e1)) 13 (ns - 1) (some e2)) 6 0 (some (.inr (5, [.ref (ad 2 0), .ref (ad 7 0), va_rf (if 0 < ns then some (ad 11 (ns - 1)) else none), .null])))) ∧ ∃ ea' md' cap' f', e1 = eLst ea' (np - pf (ns - 1) + 1) md' ∧ b1 = ea' ∧ e2 = aR dT cap' f' ∧ (np - pf (ns - 1) + 1 ≤ cap' ∧ cap' ≤ 2000) ∧ (∀ k, k < np - pf (ns - 1) → f' k = some (ad 16 (pf (ns - 1) + k))) ∧ f' (np - pf (ns - 1)) = some q0)) := by
  unfold vMi
  refine vM_ofQ hE.1 (by decide) (Nat.le_of_ble_eq_true rfl) (fun p e s m args below meth c ls Q hQ C hr hlk hnm X hl => ?_)
  have C : vC p s m _ c _ _ "MenuScreens$Reader" GT D vcl (vty dT) := C
  have hx := C.1.1
  have hb := C.1.2.1
  obtain ⟨H, eH⟩ : ∃ z, z = s.heap := ⟨_, rfl⟩
  obtain ⟨locs, elocs⟩ : ∃ z : List Loc, z = [] := ⟨_, rfl⟩
  rw [← eH, ← elocs] at X
  rw [← eH, ← elocs]
  clear eH elocs
  have hl : lv_has ls 3 [(0, .ref (ad 6 0)), (1, .ref (ad 11 (ns - 1))), (2, .ref q0)] := hl
  have hR0 := hR
  obtain ⟨hRP, h20, h60⟩ := hR0
  obtain ⟨hS, hps, -, -, -⟩ := hRP.2.1.2 (ns - 1) (by omega)
  have en1 : ns - 1 + 1 = ns := by omega
  rw [en1] at hS hps
  rw [hRP.2.2.2.2.1.1.2.1] at hps
  have kq : h0 q0 = some (.inr (10, [y1, y2, .int ro, .int co, y5])) := by rw [← eq0]; exact x.get h16
  refine lv_aload_n hx hb d_Reader_takePiece10_0 rfl (lv_at hl 2 rfl) ?_
  refine mv_get C X kq 2 f_5_177_10 (v := .int ro) rfl d_Reader_takePiece10_1 ?_
  refine lv_if_lt (tgt := 14) hx hb d_Reader_takePiece10_4 (by decide) (fun c1 => ?_) (fun c1 => ?_)
  · skip
    refine lv_iconst (v := 0) hx hb d_Reader_takePiece10_14 (by decide) ?_
    exact mq_iret hQ C X hr rfl hlk (Or.inl ⟨Or.inl c1, rfl, rfl⟩) (by omega) (by omega) d_Reader_takePiece10_15
  · skip
    refine lv_aload_n hx hb d_Reader_takePiece10_7 rfl (lv_at hl 2 rfl) ?_
    refine mv_get C X kq 3 f_5_183_10 (v := .int co) rfl d_Reader_takePiece10_8 ?_
    refine lv_if_ge (tgt := 16) hx hb d_Reader_takePiece10_11 (by decide) (fun c2 => ?_) (fun c2 => ?_)
    · skip
      refine lv_aload_n hx hb d_Reader_takePiece10_16 rfl (lv_at hl 1 rfl) ?_
      refine mv_get C X (x.get (i := 11) (j := (ns - 1)) hS) 2 f_5_186_9 (v := .ref (ad 12 (ns - 1))) rfl d_Reader_takePiece10_17 ?_
      refine lv_aload_n hx hb d_Reader_takePiece10_20 rfl (lv_at hl 2 rfl) ?_
      obtain ⟨fE, hcE2⟩ := hcE
      obtain ⟨ea, cap, fl, md, hL2, hfl, hLL, hea⟩ := hps.hp x hcE2
      refine mv_bi X (mv_rV (rest := []) (As := [.ref q0]) gt_good C X k_5_129 (cm_AL_add_10 hE hJ hL2 (hRP.el x hns0 hfl) kq) hL2.1 rfl rfl ⟨Nat.le_of_ble_eq_true rfl, Nat.le_of_ble_eq_true rfl⟩ rfl hl.1 rfl (Nat.le_of_ble_eq_true rfl) d_Reader_takePiece10_21 ⟨by show 0 + 1 ≤ 1; omega, by show 0 + (10 + 2 * (np - pf (ns - 1))) ≤ (10 + 2 * (np - pf (ns - 1))); omega⟩) (fun r3 hN H locs hp X => ?_)
      obtain ⟨er, hadd⟩ := hp
      subst er
      obtain ⟨b1, e1, e2, x3, kx⟩ := lst_add (LR.of x) (by decide) hLL hea hL2.2.2.1 hL2.2.2.2.1.2 (by omega) (x.1 _ _ hcE2).1 hfl hadd
      refine lv_pop hx hb d_Reader_takePiece10_24 rfl ?_
      refine lv_aload_n hx hb d_Reader_takePiece10_25 rfl (lv_at hl 0 rfl) ?_
      refine lv_null hx hb d_Reader_takePiece10_26 ?_
      refine mv_put C X (x3.1.get (i := 6) (j := 0) h60) (x3.1.wr (i := 6) (j := 0) h60) 3 p_5_29_5 rfl rfl (Nat.le_of_ble_eq_true rfl) d_Reader_takePiece10_27 (fun H locs X => ?_)
      have X : vO S0 D vcl (vup hN (ad 6 0) (.inr (5, [.ref (ad 2 0), .ref (ad 7 0), va_rf (if 0 < ns then some (ad 11 (ns - 1)) else none), .null]))) s H locs := X
      refine lv_iconst (v := 1) hx hb d_Reader_takePiece10_30 (by decide) ?_
      exact mq_iret hQ C X hr rfl hlk (Or.inr ⟨⟨c1, Int32.not_lt.mpr c2⟩, rfl, b1, e1, e2, x3.put (i := 6) (j := 0) h60, kx⟩) (by omega) (by omega) d_Reader_takePiece10_31
    · skip
      refine lv_iconst (v := 0) hx hb d_Reader_takePiece10_14 (by decide) ?_
      exact mq_iret hQ C X hr rfl hlk (Or.inl ⟨Or.inr (Int32.not_le.mp c2), rfl, rfl⟩) (by omega) (by omega) d_Reader_takePiece10_15
theorem d_Reader_takePiece11_0 : decode prog_6_method_12_code 0 = .ok (.aload_n 2, 1) := by decide +kernel
theorem d_Reader_takePiece11_1 : decode prog_6_method_12_code 1 = .ok (.getfield 177, 3) := by decide +kernel
theorem d_Reader_takePiece11_4 : decode prog_6_method_12_code 4 = .ok (.ifCond .lt 10, 3) := by decide +kernel
theorem d_Reader_takePiece11_7 : decode prog_6_method_12_code 7 = .ok (.aload_n 2, 1) := by decide +kernel
theorem d_Reader_takePiece11_8 : decode prog_6_method_12_code 8 = .ok (.getfield 183, 3) := by decide +kernel
theorem d_Reader_takePiece11_11 : decode prog_6_method_12_code 11 = .ok (.ifCond .ge 5, 3) := by decide +kernel
theorem d_Reader_takePiece11_14 : decode prog_6_method_12_code 14 = .ok (.iconst 0, 1) := by decide +kernel
theorem d_Reader_takePiece11_15 : decode prog_6_method_12_code 15 = .ok (.ireturn, 1) := by decide +kernel
theorem d_Reader_takePiece11_16 : decode prog_6_method_12_code 16 = .ok (.aload_n 1, 1) := by decide +kernel
theorem d_Reader_takePiece11_17 : decode prog_6_method_12_code 17 = .ok (.getfield 186, 3) := by decide +kernel
theorem d_Reader_takePiece11_20 : decode prog_6_method_12_code 20 = .ok (.aload_n 2, 1) := by decide +kernel
theorem d_Reader_takePiece11_21 : decode prog_6_method_12_code 21 = .ok (.invokevirtual 129, 3) := by decide +kernel
theorem d_Reader_takePiece11_24 : decode prog_6_method_12_code 24 = .ok (.pop, 1) := by decide +kernel
theorem d_Reader_takePiece11_25 : decode prog_6_method_12_code 25 = .ok (.aload_n 0, 1) := by decide +kernel
theorem d_Reader_takePiece11_26 : decode prog_6_method_12_code 26 = .ok (.aconst_null, 1) := by decide +kernel
theorem d_Reader_takePiece11_27 : decode prog_6_method_12_code 27 = .ok (.putfield 29, 3) := by decide +kernel
theorem d_Reader_takePiece11_30 : decode prog_6_method_12_code 30 = .ok (.iconst 1, 1) := by decide +kernel
theorem d_Reader_takePiece11_31 : decode prog_6_method_12_code 31 = .ok (.ireturn, 1) := by decide +kernel
set_option maxRecDepth 100000 in
set_option maxHeartbeats 4000000 in
theorem cm_Reader_takePiece11 {l : Launch} {S0 : State} {b : Nat} {D : va_G} {dT : Nat → ClassId} (hE : vEnv S0 b D dT) {dE mO : Nat} (hJ : vJ S0 dE mO) {h0 : vH} {hcv : vH} {ad : Nat → Nat → Nat} {L : vL} {rc : Int32} {A : Nat → Nat → Int32} {B : Nat → Nat → Int64} {nv ns np nc : Nat} {pf cb ce cs : Nat → Nat} {c0 : Nat} (x : LH S0.heap.size hcv h0 ad L) (hcE : ∃ fE, hcv dE = some (aR dT 0 fE)) (hR : PR dT dE h0 ad L A B nv ns np nc pf cb ce cs c0 rc) (hnv : nv ≤ 40) (hns : ns ≤ 30) (hnp : np ≤ 600) (hnc : nc ≤ 600) (hns0 : 0 < ns) {q0 : Nat} {ro co : Int32} {y1 y2 y5 : Value} (eq0 : ad 16 np = q0) (h16 : L 16 np = some (.inr (11, [y1, y2, .int ro, .int co, y5]))) : vMi l S0 D vcl GT y_Reader_takePiece prog_6_method_12_code 3 (some .boolean) 7 161 1 (10 + 2 * (np - pf (ns - 1))) [.ref (ad 6 0), .ref (ad 11 (ns - 1)), .ref q0] h0 (fun r h' => ((ro < 0 ∨ co < 0) ∧ r = 0 ∧ h' = h0) ∨ ((¬ ro < 0 ∧ ¬ co < 0) ∧ r = 1 ∧ ∃ b1 e1 e2, LR S0.heap.size hcv h0 ad L h' (lput ad 13 (ns - 1) b1) (lput (lput (lput L 12 (ns - 1) (some e1)) 13 (ns - 1) (some e2)) 6 0 (some (.inr (5, [.ref (ad 2 0), .ref (ad 7 0), va_rf (if 0 < ns then some (ad 11 (ns - 1)) else none), .null])))) ∧ ∃ ea' md' cap' f', e1 = eLst ea' (np - pf (ns - 1) + 1) md' ∧ b1 = ea' ∧ e2 = aR dT cap' f' ∧ (np - pf (ns - 1) + 1 ≤ cap' ∧ cap' ≤ 2000) ∧ (∀ k, k < np - pf (ns - 1) → f' k = some (ad 16 (pf (ns - 1) + k))) ∧ f' (np - pf (ns - 1)) = some q0)) := by
  unfold vMi
  refine vM_ofQ hE.1 (by decide) (Nat.le_of_ble_eq_true rfl) (fun p e s m args below meth c ls Q hQ C hr hlk hnm X hl => ?_)
  have C : vC p s m _ c _ _ "MenuScreens$Reader" GT D vcl (vty dT) := C
  have hx := C.1.1
  have hb := C.1.2.1
  obtain ⟨H, eH⟩ : ∃ z, z = s.heap := ⟨_, rfl⟩
  obtain ⟨locs, elocs⟩ : ∃ z : List Loc, z = [] := ⟨_, rfl⟩
  rw [← eH, ← elocs] at X
  rw [← eH, ← elocs]
  clear eH elocs
  have hl : lv_has ls 3 [(0, .ref (ad 6 0)), (1, .ref (ad 11 (ns - 1))), (2, .ref q0)] := hl
  have hR0 := hR
  obtain ⟨hRP, h20, h60⟩ := hR0
  obtain ⟨hS, hps, -, -, -⟩ := hRP.2.1.2 (ns - 1) (by omega)
  have en1 : ns - 1 + 1 = ns := by omega
  rw [en1] at hS hps
  rw [hRP.2.2.2.2.1.1.2.1] at hps
  have kq : h0 q0 = some (.inr (11, [y1, y2, .int ro, .int co, y5])) := by rw [← eq0]; exact x.get h16
  refine lv_aload_n hx hb d_Reader_takePiece11_0 rfl (lv_at hl 2 rfl) ?_
  refine mv_get C X kq 2 f_5_177_11 (v := .int ro) rfl d_Reader_takePiece11_1 ?_
  refine lv_if_lt (tgt := 14) hx hb d_Reader_takePiece11_4 (by decide) (fun c1 => ?_) (fun c1 => ?_)
  · skip
    refine lv_iconst (v := 0) hx hb d_Reader_takePiece11_14 (by decide) ?_
    exact mq_iret hQ C X hr rfl hlk (Or.inl ⟨Or.inl c1, rfl, rfl⟩) (by omega) (by omega) d_Reader_takePiece11_15
  · skip
    refine lv_aload_n hx hb d_Reader_takePiece11_7 rfl (lv_at hl 2 rfl) ?_
    refine mv_get C X kq 3 f_5_183_11 (v := .int co) rfl d_Reader_takePiece11_8 ?_
    refine lv_if_ge (tgt := 16) hx hb d_Reader_takePiece11_11 (by decide) (fun c2 => ?_) (fun c2 => ?_)
    · skip
      refine lv_aload_n hx hb d_Reader_takePiece11_16 rfl (lv_at hl 1 rfl) ?_
      refine mv_get C X (x.get (i := 11) (j := (ns - 1)) hS) 2 f_5_186_9 (v := .ref (ad 12 (ns - 1))) rfl d_Reader_takePiece11_17 ?_
      refine lv_aload_n hx hb d_Reader_takePiece11_20 rfl (lv_at hl 2 rfl) ?_
      obtain ⟨fE, hcE2⟩ := hcE
      obtain ⟨ea, cap, fl, md, hL2, hfl, hLL, hea⟩ := hps.hp x hcE2
      refine mv_bi X (mv_rV (rest := []) (As := [.ref q0]) gt_good C X k_5_129 (cm_AL_add_11 hE hJ hL2 (hRP.el x hns0 hfl) kq) hL2.1 rfl rfl ⟨Nat.le_of_ble_eq_true rfl, Nat.le_of_ble_eq_true rfl⟩ rfl hl.1 rfl (Nat.le_of_ble_eq_true rfl) d_Reader_takePiece11_21 ⟨by show 0 + 1 ≤ 1; omega, by show 0 + (10 + 2 * (np - pf (ns - 1))) ≤ (10 + 2 * (np - pf (ns - 1))); omega⟩) (fun r3 hN H locs hp X => ?_)
      obtain ⟨er, hadd⟩ := hp
      subst er
      obtain ⟨b1, e1, e2, x3, kx⟩ := lst_add (LR.of x) (by decide) hLL hea hL2.2.2.1 hL2.2.2.2.1.2 (by omega) (x.1 _ _ hcE2).1 hfl hadd
      refine lv_pop hx hb d_Reader_takePiece11_24 rfl ?_
      refine lv_aload_n hx hb d_Reader_takePiece11_25 rfl (lv_at hl 0 rfl) ?_
      refine lv_null hx hb d_Reader_takePiece11_26 ?_
      refine mv_put C X (x3.1.get (i := 6) (j := 0) h60) (x3.1.wr (i := 6) (j := 0) h60) 3 p_5_29_5 rfl rfl (Nat.le_of_ble_eq_true rfl) d_Reader_takePiece11_27 (fun H locs X => ?_)
      have X : vO S0 D vcl (vup hN (ad 6 0) (.inr (5, [.ref (ad 2 0), .ref (ad 7 0), va_rf (if 0 < ns then some (ad 11 (ns - 1)) else none), .null]))) s H locs := X
      refine lv_iconst (v := 1) hx hb d_Reader_takePiece11_30 (by decide) ?_
      exact mq_iret hQ C X hr rfl hlk (Or.inr ⟨⟨c1, Int32.not_lt.mpr c2⟩, rfl, b1, e1, e2, x3.put (i := 6) (j := 0) h60, kx⟩) (by omega) (by omega) d_Reader_takePiece11_31
    · skip
      refine lv_iconst (v := 0) hx hb d_Reader_takePiece11_14 (by decide) ?_
      exact mq_iret hQ C X hr rfl hlk (Or.inl ⟨Or.inr (Int32.not_le.mp c2), rfl, rfl⟩) (by omega) (by omega) d_Reader_takePiece11_15
