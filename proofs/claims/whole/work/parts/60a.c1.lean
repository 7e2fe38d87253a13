theorem d_Value_init1_0 : decode prog_8_method_1_code 0 = .ok (.aload_n 0, 1) := by decide +kernel
theorem d_Value_init1_1 : decode prog_8_method_1_code 1 = .ok (.invokespecial 3, 3) := by decide +kernel
theorem d_Value_init1_4 : decode prog_8_method_1_code 4 = .ok (.aload_n 0, 1) := by decide +kernel
theorem d_Value_init1_5 : decode prog_8_method_1_code 5 = .ok (.lload_n 1, 1) := by decide +kernel
theorem d_Value_init1_6 : decode prog_8_method_1_code 6 = .ok (.putfield 9, 3) := by decide +kernel
theorem d_Value_init1_9 : decode prog_8_method_1_code 9 = .ok (.aload_n 0, 1) := by decide +kernel
theorem d_Value_init1_10 : decode prog_8_method_1_code 10 = .ok (.iconst 0, 1) := by decide +kernel
theorem d_Value_init1_11 : decode prog_8_method_1_code 11 = .ok (.putfield 15, 3) := by decide +kernel
theorem d_Value_init1_14 : decode prog_8_method_1_code 14 = .ok (.aload_n 0, 1) := by decide +kernel
theorem d_Value_init1_15 : decode prog_8_method_1_code 15 = .ok (.ldc2_w 19, 3) := by decide +kernel
theorem d_Value_init1_18 : decode prog_8_method_1_code 18 = .ok (.putfield 21, 3) := by decide +kernel
theorem d_Value_init1_21 : decode prog_8_method_1_code 21 = .ok (.aload_n 0, 1) := by decide +kernel
theorem d_Value_init1_22 : decode prog_8_method_1_code 22 = .ok (.ldc2_w 24, 3) := by decide +kernel
theorem d_Value_init1_25 : decode prog_8_method_1_code 25 = .ok (.putfield 26, 3) := by decide +kernel
theorem d_Value_init1_28 : decode prog_8_method_1_code 28 = .ok (.return_, 1) := by decide +kernel
set_option maxRecDepth 100000 in
set_option maxHeartbeats 4000000 in
theorem cm_Value_init1 {l : Launch} {S0 : State} {b : Nat} {D : va_G} {dT : Nat → ClassId} (hE : vEnv S0 b D dT) {h0 : vH} {a : Nat} {nm : Int64} (ka : h0 a = some (.inr (8, [.long 0, .int 0, .long 0, .long 0, .long 0, .int 0]))) (wa : S0.heap.size ≤ a) : vMv l S0 D vcl GT y_Value_init prog_8_method_1_code 3 none 1 12 0 0 [.ref a, .long nm] h0 (fun h' => h' = vup h0 a (eVal nm 0 (-999999) 999999 0 0)) := by
  unfold vMv
  refine vM_ofQ hE.1 (by decide) (Nat.le_of_ble_eq_true rfl) (fun p e s m args below meth c ls Q hQ C hr hlk hnm X hl => ?_)
  have C : vC p s m _ c _ _ "MenuScreens$Value" GT D vcl (vty dT) := C
  have hx := C.1.1
  have hb := C.1.2.1
  obtain ⟨H, eH⟩ : ∃ z, z = s.heap := ⟨_, rfl⟩
  obtain ⟨locs, elocs⟩ : ∃ z : List Loc, z = [] := ⟨_, rfl⟩
  rw [← eH, ← elocs] at X
  rw [← eH, ← elocs]
  clear eH elocs
  have hl : lv_has ls 3 [(0, .ref a), (1, .long nm)] := hl
  refine lv_aload_n hx hb d_Value_init1_0 rfl (lv_at hl 0 rfl) ?_
  refine mv_obj C hl.1 ⟨gt_3 67 (by decide +kernel) rfl, gt_1 34 (by decide +kernel) rfl, gt_1 35 (rfl) rfl⟩ (Nat.le_of_ble_eq_true rfl) (Nat.le_of_ble_eq_true rfl) d_Value_init1_1 ?_
  refine lv_aload_n hx hb d_Value_init1_4 rfl (lv_at hl 0 rfl) ?_
  refine lv_lload_n hx hb d_Value_init1_5 rfl (lv_at hl 1 rfl) ?_
  refine mv_putF C X ka wa 0 hnm p_7_9_8 rfl rfl (Nat.le_of_ble_eq_true rfl) d_Value_init1_6 (fun H locs X => ?_)
  have X : vO S0 D vcl (vup h0 a (.inr (8, [.long nm, .int 0, .long 0, .long 0, .long 0, .int 0]))) s H locs := X
  refine lv_aload_n hx hb d_Value_init1_9 rfl (lv_at hl 0 rfl) ?_
  refine lv_iconst (v := 0) hx hb d_Value_init1_10 (by decide) ?_
  refine mv_putF C X (vup_s _ _ _) wa 1 hnm p_7_15_8 rfl rfl (Nat.le_of_ble_eq_true rfl) d_Value_init1_11 (fun H locs X => ?_)
  rw [vup_u] at X
  have X : vO S0 D vcl (vup h0 a (.inr (8, [.long nm, .int 0, .long 0, .long 0, .long 0, .int 0]))) s H locs := X
  refine lv_aload_n hx hb d_Value_init1_14 rfl (lv_at hl 0 rfl) ?_
  refine lv_ldc2 (v := (-999999)) hx hb C.1.2.2.2.1 (C.1.2.2.2.2 _ (gt_3 68 (by decide +kernel) rfl)) d_Value_init1_15 ?_
  refine mv_putF C X (vup_s _ _ _) wa 2 hnm p_7_21_8 rfl rfl (Nat.le_of_ble_eq_true rfl) d_Value_init1_18 (fun H locs X => ?_)
  rw [vup_u] at X
  have X : vO S0 D vcl (vup h0 a (.inr (8, [.long nm, .int 0, .long (-999999), .long 0, .long 0, .int 0]))) s H locs := X
  refine lv_aload_n hx hb d_Value_init1_21 rfl (lv_at hl 0 rfl) ?_
  refine lv_ldc2 (v := 999999) hx hb C.1.2.2.2.1 (C.1.2.2.2.2 _ (gt_3 69 (by decide +kernel) rfl)) d_Value_init1_22 ?_
  refine mv_putF C X (vup_s _ _ _) wa 3 hnm p_7_26_8 rfl rfl (Nat.le_of_ble_eq_true rfl) d_Value_init1_25 (fun H locs X => ?_)
  rw [vup_u] at X
  have X : vO S0 D vcl (vup h0 a (.inr (8, [.long nm, .int 0, .long (-999999), .long 999999, .long 0, .int 0]))) s H locs := X
  exact mq_vret hQ C X hr hlk rfl (by omega) (by omega) d_Value_init1_28
theorem d_Value_init4_0 : decode prog_8_method_2_code 0 = .ok (.aload_n 0, 1) := by decide +kernel
theorem d_Value_init4_1 : decode prog_8_method_2_code 1 = .ok (.invokespecial 3, 3) := by decide +kernel
theorem d_Value_init4_4 : decode prog_8_method_2_code 4 = .ok (.aload_n 0, 1) := by decide +kernel
theorem d_Value_init4_5 : decode prog_8_method_2_code 5 = .ok (.lload_n 1, 1) := by decide +kernel
theorem d_Value_init4_6 : decode prog_8_method_2_code 6 = .ok (.putfield 9, 3) := by decide +kernel
theorem d_Value_init4_9 : decode prog_8_method_2_code 9 = .ok (.aload_n 0, 1) := by decide +kernel
theorem d_Value_init4_10 : decode prog_8_method_2_code 10 = .ok (.iconst 1, 1) := by decide +kernel
theorem d_Value_init4_11 : decode prog_8_method_2_code 11 = .ok (.putfield 15, 3) := by decide +kernel
theorem d_Value_init4_14 : decode prog_8_method_2_code 14 = .ok (.aload_n 0, 1) := by decide +kernel
theorem d_Value_init4_15 : decode prog_8_method_2_code 15 = .ok (.lload_n 3, 1) := by decide +kernel
theorem d_Value_init4_16 : decode prog_8_method_2_code 16 = .ok (.putfield 21, 3) := by decide +kernel
theorem d_Value_init4_19 : decode prog_8_method_2_code 19 = .ok (.aload_n 0, 1) := by decide +kernel
theorem d_Value_init4_20 : decode prog_8_method_2_code 20 = .ok (.lload 5, 2) := by decide +kernel
theorem d_Value_init4_22 : decode prog_8_method_2_code 22 = .ok (.putfield 26, 3) := by decide +kernel
theorem d_Value_init4_25 : decode prog_8_method_2_code 25 = .ok (.aload_n 0, 1) := by decide +kernel
theorem d_Value_init4_26 : decode prog_8_method_2_code 26 = .ok (.lload 7, 2) := by decide +kernel
theorem d_Value_init4_28 : decode prog_8_method_2_code 28 = .ok (.putfield 29, 3) := by decide +kernel
theorem d_Value_init4_31 : decode prog_8_method_2_code 31 = .ok (.aload_n 0, 1) := by decide +kernel
theorem d_Value_init4_32 : decode prog_8_method_2_code 32 = .ok (.iconst 1, 1) := by decide +kernel
theorem d_Value_init4_33 : decode prog_8_method_2_code 33 = .ok (.putfield 32, 3) := by decide +kernel
theorem d_Value_init4_36 : decode prog_8_method_2_code 36 = .ok (.return_, 1) := by decide +kernel
set_option maxRecDepth 100000 in
set_option maxHeartbeats 4000000 in
theorem cm_Value_init4 {l : Launch} {S0 : State} {b : Nat} {D : va_G} {dT : Nat → ClassId} (hE : vEnv S0 b D dT) {h0 : vH} {a : Nat} {nm lo hi nw : Int64} (ka : h0 a = some (.inr (8, [.long 0, .int 0, .long 0, .long 0, .long 0, .int 0]))) (wa : S0.heap.size ≤ a) : vMv l S0 D vcl GT y_Value_init_2 prog_8_method_2_code 9 none 1 12 0 0 [.ref a, .long nm, .long lo, .long hi, .long nw] h0 (fun h' => h' = vup h0 a (eVal nm 1 lo hi nw 1)) := by
  unfold vMv
  refine vM_ofQ hE.1 (by decide) (Nat.le_of_ble_eq_true rfl) (fun p e s m args below meth c ls Q hQ C hr hlk hnm X hl => ?_)
  have C : vC p s m _ c _ _ "MenuScreens$Value" GT D vcl (vty dT) := C
  have hx := C.1.1
  have hb := C.1.2.1
  obtain ⟨H, eH⟩ : ∃ z, z = s.heap := ⟨_, rfl⟩
  obtain ⟨locs, elocs⟩ : ∃ z : List Loc, z = [] := ⟨_, rfl⟩
  rw [← eH, ← elocs] at X
  rw [← eH, ← elocs]
  clear eH elocs
  have hl : lv_has ls 9 [(0, .ref a), (1, .long nm), (3, .long lo), (5, .long hi), (7, .long nw)] := hl
  refine lv_aload_n hx hb d_Value_init4_0 rfl (lv_at hl 0 rfl) ?_
  refine mv_obj C hl.1 ⟨gt_3 67 (by decide +kernel) rfl, gt_1 34 (by decide +kernel) rfl, gt_1 35 (rfl) rfl⟩ (Nat.le_of_ble_eq_true rfl) (Nat.le_of_ble_eq_true rfl) d_Value_init4_1 ?_
  refine lv_aload_n hx hb d_Value_init4_4 rfl (lv_at hl 0 rfl) ?_
  refine lv_lload_n hx hb d_Value_init4_5 rfl (lv_at hl 1 rfl) ?_
  refine mv_putF C X ka wa 0 hnm p_7_9_8 rfl rfl (Nat.le_of_ble_eq_true rfl) d_Value_init4_6 (fun H locs X => ?_)
  have X : vO S0 D vcl (vup h0 a (.inr (8, [.long nm, .int 0, .long 0, .long 0, .long 0, .int 0]))) s H locs := X
  refine lv_aload_n hx hb d_Value_init4_9 rfl (lv_at hl 0 rfl) ?_
  refine lv_iconst (v := 1) hx hb d_Value_init4_10 (by decide) ?_
  refine mv_putF C X (vup_s _ _ _) wa 1 hnm p_7_15_8 rfl rfl (Nat.le_of_ble_eq_true rfl) d_Value_init4_11 (fun H locs X => ?_)
  rw [vup_u] at X
  have X : vO S0 D vcl (vup h0 a (.inr (8, [.long nm, .int 1, .long 0, .long 0, .long 0, .int 0]))) s H locs := X
  refine lv_aload_n hx hb d_Value_init4_14 rfl (lv_at hl 0 rfl) ?_
  refine lv_lload_n hx hb d_Value_init4_15 rfl (lv_at hl 2 rfl) ?_
  refine mv_putF C X (vup_s _ _ _) wa 2 hnm p_7_21_8 rfl rfl (Nat.le_of_ble_eq_true rfl) d_Value_init4_16 (fun H locs X => ?_)
  rw [vup_u] at X
  have X : vO S0 D vcl (vup h0 a (.inr (8, [.long nm, .int 1, .long lo, .long 0, .long 0, .int 0]))) s H locs := X
  refine lv_aload_n hx hb d_Value_init4_19 rfl (lv_at hl 0 rfl) ?_
  refine lv_lload hx hb d_Value_init4_20 (lv_at hl 3 rfl) ?_
  refine mv_putF C X (vup_s _ _ _) wa 3 hnm p_7_26_8 rfl rfl (Nat.le_of_ble_eq_true rfl) d_Value_init4_22 (fun H locs X => ?_)
  rw [vup_u] at X
  have X : vO S0 D vcl (vup h0 a (.inr (8, [.long nm, .int 1, .long lo, .long hi, .long 0, .int 0]))) s H locs := X
  refine lv_aload_n hx hb d_Value_init4_25 rfl (lv_at hl 0 rfl) ?_
  refine lv_lload hx hb d_Value_init4_26 (lv_at hl 4 rfl) ?_
  refine mv_put C X (vup_s _ _ _) wa 4 p_7_29_8 rfl rfl (Nat.le_of_ble_eq_true rfl) d_Value_init4_28 (fun H locs X => ?_)
  rw [vup_u] at X
  have X : vO S0 D vcl (vup h0 a (.inr (8, [.long nm, .int 1, .long lo, .long hi, .long nw, .int 0]))) s H locs := X
  refine lv_aload_n hx hb d_Value_init4_31 rfl (lv_at hl 0 rfl) ?_
  refine lv_iconst (v := 1) hx hb d_Value_init4_32 (by decide) ?_
  refine mv_put C X (vup_s _ _ _) wa 5 p_7_32_8 rfl rfl (Nat.le_of_ble_eq_true rfl) d_Value_init4_33 (fun H locs X => ?_)
  rw [vup_u] at X
  have X : vO S0 D vcl (vup h0 a (.inr (8, [.long nm, .int 1, .long lo, .long hi, .long nw, .int 1]))) s H locs := X
  exact mq_vret hQ C X hr hlk rfl (by omega) (by omega) d_Value_init4_36
theorem d_Condition_initn_0 : decode prog_2_method_1_code 0 = .ok (.aload_n 0, 1) := by decide +kernel
theorem d_Condition_initn_1 : decode prog_2_method_1_code 1 = .ok (.invokespecial 1, 3) := by decide +kernel
theorem d_Condition_initn_4 : decode prog_2_method_1_code 4 = .ok (.aload_n 0, 1) := by decide +kernel
theorem d_Condition_initn_5 : decode prog_2_method_1_code 5 = .ok (.aload_n 1, 1) := by decide +kernel
theorem d_Condition_initn_6 : decode prog_2_method_1_code 6 = .ok (.putfield 7, 3) := by decide +kernel
theorem d_Condition_initn_9 : decode prog_2_method_1_code 9 = .ok (.aload_n 0, 1) := by decide +kernel
theorem d_Condition_initn_10 : decode prog_2_method_1_code 10 = .ok (.iload_n 2, 1) := by decide +kernel
theorem d_Condition_initn_11 : decode prog_2_method_1_code 11 = .ok (.putfield 13, 3) := by decide +kernel
theorem d_Condition_initn_14 : decode prog_2_method_1_code 14 = .ok (.aload_n 0, 1) := by decide +kernel
theorem d_Condition_initn_15 : decode prog_2_method_1_code 15 = .ok (.iload_n 3, 1) := by decide +kernel
theorem d_Condition_initn_16 : decode prog_2_method_1_code 16 = .ok (.putfield 17, 3) := by decide +kernel
theorem d_Condition_initn_19 : decode prog_2_method_1_code 19 = .ok (.aload_n 0, 1) := by decide +kernel
theorem d_Condition_initn_20 : decode prog_2_method_1_code 20 = .ok (.aload 4, 2) := by decide +kernel
theorem d_Condition_initn_22 : decode prog_2_method_1_code 22 = .ok (.putfield 21, 3) := by decide +kernel
theorem d_Condition_initn_25 : decode prog_2_method_1_code 25 = .ok (.return_, 1) := by decide +kernel
set_option maxRecDepth 100000 in
set_option maxHeartbeats 4000000 in
theorem cm_Condition_initn {l : Launch} {S0 : State} {b : Nat} {D : va_G} {dT : Nat → ClassId} (hE : vEnv S0 b D dT) {h0 : vH} {a v c0 : Nat} {nu : Int32}  (hc : c0 < 128) (ka : h0 a = some (.inr (12, [.null, .int 0, .int 0, .null]))) (wa : S0.heap.size ≤ a) : vMv l S0 D vcl GT y_Condition_init prog_2_method_1_code 5 none 1 12 0 0 [.ref a, .ref v, .int (nI c0), .int nu, .null] h0 (fun h' => h' = vup h0 a (eCon v (nI c0) nu none)) := by
  unfold vMv
  refine vM_ofQ hE.1 (by decide) (Nat.le_of_ble_eq_true rfl) (fun p e s m args below meth c ls Q hQ C hr hlk hnm X hl => ?_)
  have C : vC p s m _ c _ _ "MenuScreens$Condition" GT D vcl (vty dT) := C
  have hx := C.1.1
  have hb := C.1.2.1
  obtain ⟨H, eH⟩ : ∃ z, z = s.heap := ⟨_, rfl⟩
  obtain ⟨locs, elocs⟩ : ∃ z : List Loc, z = [] := ⟨_, rfl⟩
  rw [← eH, ← elocs] at X
  rw [← eH, ← elocs]
  clear eH elocs
  have hl : lv_has ls 5 [(0, .ref a), (1, .ref v), (2, .int (nI c0)), (3, .int nu), (4, .null)] := hl
  refine lv_aload_n hx hb d_Condition_initn_0 rfl (lv_at hl 0 rfl) ?_
  refine mv_obj C hl.1 ⟨gt_4 48 (by decide +kernel) rfl, gt_1 34 (by decide +kernel) rfl, gt_1 35 (rfl) rfl⟩ (Nat.le_of_ble_eq_true rfl) (Nat.le_of_ble_eq_true rfl) d_Condition_initn_1 ?_
  refine lv_aload_n hx hb d_Condition_initn_4 rfl (lv_at hl 0 rfl) ?_
  refine lv_aload_n hx hb d_Condition_initn_5 rfl (lv_at hl 1 rfl) ?_
  refine mv_putF C X ka wa 0 hnm p_1_7_12 rfl rfl (Nat.le_of_ble_eq_true rfl) d_Condition_initn_6 (fun H locs X => ?_)
  have X : vO S0 D vcl (vup h0 a (.inr (12, [.ref v, .int 0, .int 0, .null]))) s H locs := X
  refine lv_aload_n hx hb d_Condition_initn_9 rfl (lv_at hl 0 rfl) ?_
  refine lv_iload_n hx hb d_Condition_initn_10 rfl (lv_at hl 2 rfl) ?_
  refine mv_putF C X (vup_s _ _ _) wa 1 hnm p_1_13_12 (nar_c hc) (fit_c hc) (Nat.le_of_ble_eq_true rfl) d_Condition_initn_11 (fun H locs X => ?_)
  rw [vup_u] at X
  have X : vO S0 D vcl (vup h0 a (.inr (12, [.ref v, .int (nI c0), .int 0, .null]))) s H locs := X
  refine lv_aload_n hx hb d_Condition_initn_14 rfl (lv_at hl 0 rfl) ?_
  refine lv_iload_n hx hb d_Condition_initn_15 rfl (lv_at hl 3 rfl) ?_
  refine mv_putF C X (vup_s _ _ _) wa 2 hnm p_1_17_12 rfl rfl (Nat.le_of_ble_eq_true rfl) d_Condition_initn_16 (fun H locs X => ?_)
  rw [vup_u] at X
  have X : vO S0 D vcl (vup h0 a (.inr (12, [.ref v, .int (nI c0), .int nu, .null]))) s H locs := X
  refine lv_aload_n hx hb d_Condition_initn_19 rfl (lv_at hl 0 rfl) ?_
  refine lv_aloadN hx hb d_Condition_initn_20 (lv_at hl 4 rfl) ?_
  refine mv_putF C X (vup_s _ _ _) wa 3 hnm p_1_21_12 rfl rfl (Nat.le_of_ble_eq_true rfl) d_Condition_initn_22 (fun H locs X => ?_)
  rw [vup_u] at X
  have X : vO S0 D vcl (vup h0 a (.inr (12, [.ref v, .int (nI c0), .int nu, .null]))) s H locs := X
  exact mq_vret hQ C X hr hlk rfl (by omega) (by omega) d_Condition_initn_25
theorem d_Condition_inits_0 : decode prog_2_method_1_code 0 = .ok (.aload_n 0, 1) := by decide +kernel
theorem d_Condition_inits_1 : decode prog_2_method_1_code 1 = .ok (.invokespecial 1, 3) := by decide +kernel
theorem d_Condition_inits_4 : decode prog_2_method_1_code 4 = .ok (.aload_n 0, 1) := by decide +kernel
theorem d_Condition_inits_5 : decode prog_2_method_1_code 5 = .ok (.aload_n 1, 1) := by decide +kernel
theorem d_Condition_inits_6 : decode prog_2_method_1_code 6 = .ok (.putfield 7, 3) := by decide +kernel
theorem d_Condition_inits_9 : decode prog_2_method_1_code 9 = .ok (.aload_n 0, 1) := by decide +kernel
theorem d_Condition_inits_10 : decode prog_2_method_1_code 10 = .ok (.iload_n 2, 1) := by decide +kernel
theorem d_Condition_inits_11 : decode prog_2_method_1_code 11 = .ok (.putfield 13, 3) := by decide +kernel
theorem d_Condition_inits_14 : decode prog_2_method_1_code 14 = .ok (.aload_n 0, 1) := by decide +kernel
theorem d_Condition_inits_15 : decode prog_2_method_1_code 15 = .ok (.iload_n 3, 1) := by decide +kernel
theorem d_Condition_inits_16 : decode prog_2_method_1_code 16 = .ok (.putfield 17, 3) := by decide +kernel
theorem d_Condition_inits_19 : decode prog_2_method_1_code 19 = .ok (.aload_n 0, 1) := by decide +kernel
theorem d_Condition_inits_20 : decode prog_2_method_1_code 20 = .ok (.aload 4, 2) := by decide +kernel
theorem d_Condition_inits_22 : decode prog_2_method_1_code 22 = .ok (.putfield 21, 3) := by decide +kernel
theorem d_Condition_inits_25 : decode prog_2_method_1_code 25 = .ok (.return_, 1) := by decide +kernel
set_option maxRecDepth 100000 in
set_option maxHeartbeats 4000000 in
theorem cm_Condition_inits {l : Launch} {S0 : State} {b : Nat} {D : va_G} {dT : Nat → ClassId} (hE : vEnv S0 b D dT) {h0 : vH} {a v c0 : Nat} {nu : Int32} {bf0 : Nat} (hc : c0 < 128) (ka : h0 a = some (.inr (12, [.null, .int 0, .int 0, .null]))) (wa : S0.heap.size ≤ a) : vMv l S0 D vcl GT y_Condition_init prog_2_method_1_code 5 none 1 12 0 0 [.ref a, .ref v, .int (nI c0), .int nu, .ref bf0] h0 (fun h' => h' = vup h0 a (eCon v (nI c0) nu (some bf0))) := by
  unfold vMv
  refine vM_ofQ hE.1 (by decide) (Nat.le_of_ble_eq_true rfl) (fun p e s m args below meth c ls Q hQ C hr hlk hnm X hl => ?_)
  have C : vC p s m _ c _ _ "MenuScreens$Condition" GT D vcl (vty dT) := C
  have hx := C.1.1
  have hb := C.1.2.1
  obtain ⟨H, eH⟩ : ∃ z, z = s.heap := ⟨_, rfl⟩
  obtain ⟨locs, elocs⟩ : ∃ z : List Loc, z = [] := ⟨_, rfl⟩
  rw [← eH, ← elocs] at X
  rw [← eH, ← elocs]
  clear eH elocs
  have hl : lv_has ls 5 [(0, .ref a), (1, .ref v), (2, .int (nI c0)), (3, .int nu), (4, .ref bf0)] := hl
  refine lv_aload_n hx hb d_Condition_inits_0 rfl (lv_at hl 0 rfl) ?_
  refine mv_obj C hl.1 ⟨gt_4 48 (by decide +kernel) rfl, gt_1 34 (by decide +kernel) rfl, gt_1 35 (rfl) rfl⟩ (Nat.le_of_ble_eq_true rfl) (Nat.le_of_ble_eq_true rfl) d_Condition_inits_1 ?_
  refine lv_aload_n hx hb d_Condition_inits_4 rfl (lv_at hl 0 rfl) ?_
  refine lv_aload_n hx hb d_Condition_inits_5 rfl (lv_at hl 1 rfl) ?_
  refine mv_putF C X ka wa 0 hnm p_1_7_12 rfl rfl (Nat.le_of_ble_eq_true rfl) d_Condition_inits_6 (fun H locs X => ?_)
  have X : vO S0 D vcl (vup h0 a (.inr (12, [.ref v, .int 0, .int 0, .null]))) s H locs := X
  refine lv_aload_n hx hb d_Condition_inits_9 rfl (lv_at hl 0 rfl) ?_
  refine lv_iload_n hx hb d_Condition_inits_10 rfl (lv_at hl 2 rfl) ?_
  refine mv_putF C X (vup_s _ _ _) wa 1 hnm p_1_13_12 (nar_c hc) (fit_c hc) (Nat.le_of_ble_eq_true rfl) d_Condition_inits_11 (fun H locs X => ?_)
  rw [vup_u] at X
  have X : vO S0 D vcl (vup h0 a (.inr (12, [.ref v, .int (nI c0), .int 0, .null]))) s H locs := X
  refine lv_aload_n hx hb d_Condition_inits_14 rfl (lv_at hl 0 rfl) ?_
  refine lv_iload_n hx hb d_Condition_inits_15 rfl (lv_at hl 3 rfl) ?_
  refine mv_putF C X (vup_s _ _ _) wa 2 hnm p_1_17_12 rfl rfl (Nat.le_of_ble_eq_true rfl) d_Condition_inits_16 (fun H locs X => ?_)
  rw [vup_u] at X
  have X : vO S0 D vcl (vup h0 a (.inr (12, [.ref v, .int (nI c0), .int nu, .null]))) s H locs := X
  refine lv_aload_n hx hb d_Condition_inits_19 rfl (lv_at hl 0 rfl) ?_
  refine lv_aload hx hb d_Condition_inits_20 (lv_at hl 4 rfl) ?_
  refine mv_putF C X (vup_s _ _ _) wa 3 hnm p_1_21_12 rfl rfl (Nat.le_of_ble_eq_true rfl) d_Condition_inits_22 (fun H locs X => ?_)
  rw [vup_u] at X
  have X : vO S0 D vcl (vup h0 a (.inr (12, [.ref v, .int (nI c0), .int nu, .ref bf0]))) s H locs := X
  exact mq_vret hQ C X hr hlk rfl (by omega) (by omega) d_Condition_inits_25
theorem cm_Condition_init {l : Launch} {S0 : State} {b : Nat} {D : va_G} {dT : Nat → ClassId} (hE : vEnv S0 b D dT) {h0 : vH} {a v c0 : Nat} {nu : Int32} {bf : Option Nat} (hc : c0 < 128) (ka : h0 a = some (.inr (12, [.null, .int 0, .int 0, .null]))) (wa : S0.heap.size ≤ a) : vMv l S0 D vcl GT y_Condition_init prog_2_method_1_code 5 none 1 12 0 0 [.ref a, .ref v, .int (nI c0), .int nu, va_rf bf] h0 (fun h' => h' = vup h0 a (eCon v (nI c0) nu bf)) := by
  cases bf with
  | none => exact cm_Condition_initn hE hc ka wa
  | some x => exact cm_Condition_inits hE hc ka wa
theorem d_Piece_init10n_0 : decode prog_4_method_1_code 0 = .ok (.aload_n 0, 1) := by decide +kernel
theorem d_Piece_init10n_1 : decode prog_4_method_1_code 1 = .ok (.invokespecial 1, 3) := by decide +kernel
theorem d_Piece_init10n_4 : decode prog_4_method_1_code 4 = .ok (.aload_n 0, 1) := by decide +kernel
theorem d_Piece_init10n_5 : decode prog_4_method_1_code 5 = .ok (.iload_n 1, 1) := by decide +kernel
theorem d_Piece_init10n_6 : decode prog_4_method_1_code 6 = .ok (.putfield 7, 3) := by decide +kernel
theorem d_Piece_init10n_9 : decode prog_4_method_1_code 9 = .ok (.aload_n 0, 1) := by decide +kernel
theorem d_Piece_init10n_10 : decode prog_4_method_1_code 10 = .ok (.iload_n 2, 1) := by decide +kernel
theorem d_Piece_init10n_11 : decode prog_4_method_1_code 11 = .ok (.putfield 13, 3) := by decide +kernel
theorem d_Piece_init10n_14 : decode prog_4_method_1_code 14 = .ok (.aload_n 0, 1) := by decide +kernel
theorem d_Piece_init10n_15 : decode prog_4_method_1_code 15 = .ok (.aload_n 3, 1) := by decide +kernel
theorem d_Piece_init10n_16 : decode prog_4_method_1_code 16 = .ok (.putfield 16, 3) := by decide +kernel
theorem d_Piece_init10n_19 : decode prog_4_method_1_code 19 = .ok (.return_, 1) := by decide +kernel
set_option maxRecDepth 100000 in
set_option maxHeartbeats 4000000 in
theorem cm_Piece_init10n {l : Launch} {S0 : State} {b : Nat} {D : va_G} {dT : Nat → ClassId} (hE : vEnv S0 b D dT) {h0 : vH} {a : Nat} {ro co : Int32}  (ka : h0 a = some (.inr (10, [.null, .null, .int 0, .int 0, .null]))) (wa : S0.heap.size ≤ a) : vMv l S0 D vcl GT y_Piece_init prog_4_method_1_code 4 none 1 12 0 0 [.ref a, .int ro, .int co, .null] h0 (fun h' => h' = vup h0 a (.inr (10, [.null, .null, .int ro, .int co, va_rf none]))) := by
  unfold vMv
  refine vM_ofQ hE.1 (by decide) (Nat.le_of_ble_eq_true rfl) (fun p e s m args below meth c ls Q hQ C hr hlk hnm X hl => ?_)
  have C : vC p s m _ c _ _ "MenuScreens$Piece" GT D vcl (vty dT) := C
  have hx := C.1.1
  have hb := C.1.2.1
  obtain ⟨H, eH⟩ : ∃ z, z = s.heap := ⟨_, rfl⟩
  obtain ⟨locs, elocs⟩ : ∃ z : List Loc, z = [] := ⟨_, rfl⟩
  rw [← eH, ← elocs] at X
  rw [← eH, ← elocs]
  clear eH elocs
  have hl : lv_has ls 4 [(0, .ref a), (1, .int ro), (2, .int co), (3, .null)] := hl
  refine lv_aload_n hx hb d_Piece_init10n_0 rfl (lv_at hl 0 rfl) ?_
  refine mv_obj C hl.1 ⟨gt_3 223 (by decide +kernel) rfl, gt_1 34 (by decide +kernel) rfl, gt_1 35 (rfl) rfl⟩ (Nat.le_of_ble_eq_true rfl) (Nat.le_of_ble_eq_true rfl) d_Piece_init10n_1 ?_
  refine lv_aload_n hx hb d_Piece_init10n_4 rfl (lv_at hl 0 rfl) ?_
  refine lv_iload_n hx hb d_Piece_init10n_5 rfl (lv_at hl 1 rfl) ?_
  refine mv_putF C X ka wa 2 hnm p_3_7_10 rfl rfl (Nat.le_of_ble_eq_true rfl) d_Piece_init10n_6 (fun H locs X => ?_)
  have X : vO S0 D vcl (vup h0 a (.inr (10, [.null, .null, .int ro, .int 0, .null]))) s H locs := X
  refine lv_aload_n hx hb d_Piece_init10n_9 rfl (lv_at hl 0 rfl) ?_
  refine lv_iload_n hx hb d_Piece_init10n_10 rfl (lv_at hl 2 rfl) ?_
  refine mv_putF C X (vup_s _ _ _) wa 3 hnm p_3_13_10 rfl rfl (Nat.le_of_ble_eq_true rfl) d_Piece_init10n_11 (fun H locs X => ?_)
  rw [vup_u] at X
  have X : vO S0 D vcl (vup h0 a (.inr (10, [.null, .null, .int ro, .int co, .null]))) s H locs := X
  refine lv_aload_n hx hb d_Piece_init10n_14 rfl (lv_at hl 0 rfl) ?_
  refine lv_aload_nN hx hb d_Piece_init10n_15 rfl (lv_at hl 3 rfl) ?_
  refine mv_putF C X (vup_s _ _ _) wa 4 hnm p_3_16_10 rfl rfl (Nat.le_of_ble_eq_true rfl) d_Piece_init10n_16 (fun H locs X => ?_)
  rw [vup_u] at X
  have X : vO S0 D vcl (vup h0 a (.inr (10, [.null, .null, .int ro, .int co, .null]))) s H locs := X
  exact mq_vret hQ C X hr hlk rfl (by omega) (by omega) d_Piece_init10n_19
theorem d_Piece_init10s_0 : decode prog_4_method_1_code 0 = .ok (.aload_n 0, 1) := by decide +kernel
theorem d_Piece_init10s_1 : decode prog_4_method_1_code 1 = .ok (.invokespecial 1, 3) := by decide +kernel
theorem d_Piece_init10s_4 : decode prog_4_method_1_code 4 = .ok (.aload_n 0, 1) := by decide +kernel
theorem d_Piece_init10s_5 : decode prog_4_method_1_code 5 = .ok (.iload_n 1, 1) := by decide +kernel
theorem d_Piece_init10s_6 : decode prog_4_method_1_code 6 = .ok (.putfield 7, 3) := by decide +kernel
theorem d_Piece_init10s_9 : decode prog_4_method_1_code 9 = .ok (.aload_n 0, 1) := by decide +kernel
theorem d_Piece_init10s_10 : decode prog_4_method_1_code 10 = .ok (.iload_n 2, 1) := by decide +kernel
theorem d_Piece_init10s_11 : decode prog_4_method_1_code 11 = .ok (.putfield 13, 3) := by decide +kernel
theorem d_Piece_init10s_14 : decode prog_4_method_1_code 14 = .ok (.aload_n 0, 1) := by decide +kernel
theorem d_Piece_init10s_15 : decode prog_4_method_1_code 15 = .ok (.aload_n 3, 1) := by decide +kernel
theorem d_Piece_init10s_16 : decode prog_4_method_1_code 16 = .ok (.putfield 16, 3) := by decide +kernel
theorem d_Piece_init10s_19 : decode prog_4_method_1_code 19 = .ok (.return_, 1) := by decide +kernel
set_option maxRecDepth 100000 in
set_option maxHeartbeats 4000000 in
theorem cm_Piece_init10s {l : Launch} {S0 : State} {b : Nat} {D : va_G} {dT : Nat → ClassId} (hE : vEnv S0 b D dT) {h0 : vH} {a : Nat} {ro co : Int32} {cn0 : Nat} (ka : h0 a = some (.inr (10, [.null, .null, .int 0, .int 0, .null]))) (wa : S0.heap.size ≤ a) : vMv l S0 D vcl GT y_Piece_init prog_4_method_1_code 4 none 1 12 0 0 [.ref a, .int ro, .int co, .ref cn0] h0 (fun h' => h' = vup h0 a (.inr (10, [.null, .null, .int ro, .int co, va_rf (some cn0)]))) := by
  unfold vMv
  refine vM_ofQ hE.1 (by decide) (Nat.le_of_ble_eq_true rfl) (fun p e s m args below meth c ls Q hQ C hr hlk hnm X hl => ?_)
  have C : vC p s m _ c _ _ "MenuScreens$Piece" GT D vcl (vty dT) := C
  have hx := C.1.1
  have hb := C.1.2.1
  obtain ⟨H, eH⟩ : ∃ z, z = s.heap := ⟨_, rfl⟩
  obtain ⟨locs, elocs⟩ : ∃ z : List Loc, z = [] := ⟨_, rfl⟩
  rw [← eH, ← elocs] at X
  rw [← eH, ← elocs]
  clear eH elocs
  have hl : lv_has ls 4 [(0, .ref a), (1, .int ro), (2, .int co), (3, .ref cn0)] := hl
  refine lv_aload_n hx hb d_Piece_init10s_0 rfl (lv_at hl 0 rfl) ?_
  refine mv_obj C hl.1 ⟨gt_3 223 (by decide +kernel) rfl, gt_1 34 (by decide +kernel) rfl, gt_1 35 (rfl) rfl⟩ (Nat.le_of_ble_eq_true rfl) (Nat.le_of_ble_eq_true rfl) d_Piece_init10s_1 ?_
  refine lv_aload_n hx hb d_Piece_init10s_4 rfl (lv_at hl 0 rfl) ?_
  refine lv_iload_n hx hb d_Piece_init10s_5 rfl (lv_at hl 1 rfl) ?_
  refine mv_putF C X ka wa 2 hnm p_3_7_10 rfl rfl (Nat.le_of_ble_eq_true rfl) d_Piece_init10s_6 (fun H locs X => ?_)
  have X : vO S0 D vcl (vup h0 a (.inr (10, [.null, .null, .int ro, .int 0, .null]))) s H locs := X
  refine lv_aload_n hx hb d_Piece_init10s_9 rfl (lv_at hl 0 rfl) ?_
  refine lv_iload_n hx hb d_Piece_init10s_10 rfl (lv_at hl 2 rfl) ?_
  refine mv_putF C X (vup_s _ _ _) wa 3 hnm p_3_13_10 rfl rfl (Nat.le_of_ble_eq_true rfl) d_Piece_init10s_11 (fun H locs X => ?_)
  rw [vup_u] at X
  have X : vO S0 D vcl (vup h0 a (.inr (10, [.null, .null, .int ro, .int co, .null]))) s H locs := X
  refine lv_aload_n hx hb d_Piece_init10s_14 rfl (lv_at hl 0 rfl) ?_
  refine lv_aload_n hx hb d_Piece_init10s_15 rfl (lv_at hl 3 rfl) ?_
  refine mv_putF C X (vup_s _ _ _) wa 4 hnm p_3_16_10 rfl rfl (Nat.le_of_ble_eq_true rfl) d_Piece_init10s_16 (fun H locs X => ?_)
  rw [vup_u] at X
  have X : vO S0 D vcl (vup h0 a (.inr (10, [.null, .null, .int ro, .int co, .ref cn0]))) s H locs := X
  exact mq_vret hQ C X hr hlk rfl (by omega) (by omega) d_Piece_init10s_19
theorem cm_Piece_init10 {l : Launch} {S0 : State} {b : Nat} {D : va_G} {dT : Nat → ClassId} (hE : vEnv S0 b D dT) {h0 : vH} {a : Nat} {ro co : Int32} {cn : Option Nat} (ka : h0 a = some (.inr (10, [.null, .null, .int 0, .int 0, .null]))) (wa : S0.heap.size ≤ a) : vMv l S0 D vcl GT y_Piece_init prog_4_method_1_code 4 none 1 12 0 0 [.ref a, .int ro, .int co, va_rf cn] h0 (fun h' => h' = vup h0 a (.inr (10, [.null, .null, .int ro, .int co, va_rf cn]))) := by
  cases cn with
  | none => exact cm_Piece_init10n hE ka wa
  | some x => exact cm_Piece_init10s hE ka wa
theorem d_Piece_init11n_0 : decode prog_4_method_1_code 0 = .ok (.aload_n 0, 1) := by decide +kernel
theorem d_Piece_init11n_1 : decode prog_4_method_1_code 1 = .ok (.invokespecial 1, 3) := by decide +kernel
theorem d_Piece_init11n_4 : decode prog_4_method_1_code 4 = .ok (.aload_n 0, 1) := by decide +kernel
theorem d_Piece_init11n_5 : decode prog_4_method_1_code 5 = .ok (.iload_n 1, 1) := by decide +kernel
theorem d_Piece_init11n_6 : decode prog_4_method_1_code 6 = .ok (.putfield 7, 3) := by decide +kernel
theorem d_Piece_init11n_9 : decode prog_4_method_1_code 9 = .ok (.aload_n 0, 1) := by decide +kernel
theorem d_Piece_init11n_10 : decode prog_4_method_1_code 10 = .ok (.iload_n 2, 1) := by decide +kernel
theorem d_Piece_init11n_11 : decode prog_4_method_1_code 11 = .ok (.putfield 13, 3) := by decide +kernel
theorem d_Piece_init11n_14 : decode prog_4_method_1_code 14 = .ok (.aload_n 0, 1) := by decide +kernel
theorem d_Piece_init11n_15 : decode prog_4_method_1_code 15 = .ok (.aload_n 3, 1) := by decide +kernel
theorem d_Piece_init11n_16 : decode prog_4_method_1_code 16 = .ok (.putfield 16, 3) := by decide +kernel
theorem d_Piece_init11n_19 : decode prog_4_method_1_code 19 = .ok (.return_, 1) := by decide +kernel
set_option maxRecDepth 100000 in
set_option maxHeartbeats 4000000 in
theorem cm_Piece_init11n {l : Launch} {S0 : State} {b : Nat} {D : va_G} {dT : Nat → ClassId} (hE : vEnv S0 b D dT) {h0 : vH} {a : Nat} {ro co : Int32}  (ka : h0 a = some (.inr (11, [.null, .int 0, .int 0, .int 0, .null]))) (wa : S0.heap.size ≤ a) : vMv l S0 D vcl GT y_Piece_init prog_4_method_1_code 4 none 1 12 0 0 [.ref a, .int ro, .int co, .null] h0 (fun h' => h' = vup h0 a (.inr (11, [.null, .int 0, .int ro, .int co, va_rf none]))) := by
  unfold vMv
  refine vM_ofQ hE.1 (by decide) (Nat.le_of_ble_eq_true rfl) (fun p e s m args below meth c ls Q hQ C hr hlk hnm X hl => ?_)
  have C : vC p s m _ c _ _ "MenuScreens$Piece" GT D vcl (vty dT) := C
  have hx := C.1.1
  have hb := C.1.2.1
  obtain ⟨H, eH⟩ : ∃ z, z = s.heap := ⟨_, rfl⟩
  obtain ⟨locs, elocs⟩ : ∃ z : List Loc, z = [] := ⟨_, rfl⟩
  rw [← eH, ← elocs] at X
  rw [← eH, ← elocs]
  clear eH elocs
  have hl : lv_has ls 4 [(0, .ref a), (1, .int ro), (2, .int co), (3, .null)] := hl
  refine lv_aload_n hx hb d_Piece_init11n_0 rfl (lv_at hl 0 rfl) ?_
  refine mv_obj C hl.1 ⟨gt_3 223 (by decide +kernel) rfl, gt_1 34 (by decide +kernel) rfl, gt_1 35 (rfl) rfl⟩ (Nat.le_of_ble_eq_true rfl) (Nat.le_of_ble_eq_true rfl) d_Piece_init11n_1 ?_
  refine lv_aload_n hx hb d_Piece_init11n_4 rfl (lv_at hl 0 rfl) ?_
  refine lv_iload_n hx hb d_Piece_init11n_5 rfl (lv_at hl 1 rfl) ?_
  refine mv_putF C X ka wa 2 hnm p_3_7_11 rfl rfl (Nat.le_of_ble_eq_true rfl) d_Piece_init11n_6 (fun H locs X => ?_)
  have X : vO S0 D vcl (vup h0 a (.inr (11, [.null, .int 0, .int ro, .int 0, .null]))) s H locs := X
  refine lv_aload_n hx hb d_Piece_init11n_9 rfl (lv_at hl 0 rfl) ?_
  refine lv_iload_n hx hb d_Piece_init11n_10 rfl (lv_at hl 2 rfl) ?_
  refine mv_putF C X (vup_s _ _ _) wa 3 hnm p_3_13_11 rfl rfl (Nat.le_of_ble_eq_true rfl) d_Piece_init11n_11 (fun H locs X => ?_)
  rw [vup_u] at X
  have X : vO S0 D vcl (vup h0 a (.inr (11, [.null, .int 0, .int ro, .int co, .null]))) s H locs := X
  refine lv_aload_n hx hb d_Piece_init11n_14 rfl (lv_at hl 0 rfl) ?_
  refine lv_aload_nN hx hb d_Piece_init11n_15 rfl (lv_at hl 3 rfl) ?_
  refine mv_putF C X (vup_s _ _ _) wa 4 hnm p_3_16_11 rfl rfl (Nat.le_of_ble_eq_true rfl) d_Piece_init11n_16 (fun H locs X => ?_)
  rw [vup_u] at X
  have X : vO S0 D vcl (vup h0 a (.inr (11, [.null, .int 0, .int ro, .int co, .null]))) s H locs := X
  exact mq_vret hQ C X hr hlk rfl (by omega) (by omega) d_Piece_init11n_19
theorem d_Piece_init11s_0 : decode prog_4_method_1_code 0 = .ok (.aload_n 0, 1) := by decide +kernel
theorem d_Piece_init11s_1 : decode prog_4_method_1_code 1 = .ok (.invokespecial 1, 3) := by decide +kernel
theorem d_Piece_init11s_4 : decode prog_4_method_1_code 4 = .ok (.aload_n 0, 1) := by decide +kernel
theorem d_Piece_init11s_5 : decode prog_4_method_1_code 5 = .ok (.iload_n 1, 1) := by decide +kernel
theorem d_Piece_init11s_6 : decode prog_4_method_1_code 6 = .ok (.putfield 7, 3) := by decide +kernel
theorem d_Piece_init11s_9 : decode prog_4_method_1_code 9 = .ok (.aload_n 0, 1) := by decide +kernel
theorem d_Piece_init11s_10 : decode prog_4_method_1_code 10 = .ok (.iload_n 2, 1) := by decide +kernel
theorem d_Piece_init11s_11 : decode prog_4_method_1_code 11 = .ok (.putfield 13, 3) := by decide +kernel
theorem d_Piece_init11s_14 : decode prog_4_method_1_code 14 = .ok (.aload_n 0, 1) := by decide +kernel
theorem d_Piece_init11s_15 : decode prog_4_method_1_code 15 = .ok (.aload_n 3, 1) := by decide +kernel
theorem d_Piece_init11s_16 : decode prog_4_method_1_code 16 = .ok (.putfield 16, 3) := by decide +kernel
theorem d_Piece_init11s_19 : decode prog_4_method_1_code 19 = .ok (.return_, 1) := by decide +kernel
set_option maxRecDepth 100000 in
set_option maxHeartbeats 4000000 in
theorem cm_Piece_init11s {l : Launch} {S0 : State} {b : Nat} {D : va_G} {dT : Nat → ClassId} (hE : vEnv S0 b D dT) {h0 : vH} {a : Nat} {ro co : Int32} {cn0 : Nat} (ka : h0 a = some (.inr (11, [.null, .int 0, .int 0, .int 0, .null]))) (wa : S0.heap.size ≤ a) : vMv l S0 D vcl GT y_Piece_init prog_4_method_1_code 4 none 1 12 0 0 [.ref a, .int ro, .int co, .ref cn0] h0 (fun h' => h' = vup h0 a (.inr (11, [.null, .int 0, .int ro, .int co, va_rf (some cn0)]))) := by
  unfold vMv
  refine vM_ofQ hE.1 (by decide) (Nat.le_of_ble_eq_true rfl) (fun p e s m args below meth c ls Q hQ C hr hlk hnm X hl => ?_)
  have C : vC p s m _ c _ _ "MenuScreens$Piece" GT D vcl (vty dT) := C
  have hx := C.1.1
  have hb := C.1.2.1
  obtain ⟨H, eH⟩ : ∃ z, z = s.heap := ⟨_, rfl⟩
  obtain ⟨locs, elocs⟩ : ∃ z : List Loc, z = [] := ⟨_, rfl⟩
  rw [← eH, ← elocs] at X
  rw [← eH, ← elocs]
  clear eH elocs
  have hl : lv_has ls 4 [(0, .ref a), (1, .int ro), (2, .int co), (3, .ref cn0)] := hl
  refine lv_aload_n hx hb d_Piece_init11s_0 rfl (lv_at hl 0 rfl) ?_
  refine mv_obj C hl.1 ⟨gt_3 223 (by decide +kernel) rfl, gt_1 34 (by decide +kernel) rfl, gt_1 35 (rfl) rfl⟩ (Nat.le_of_ble_eq_true rfl) (Nat.le_of_ble_eq_true rfl) d_Piece_init11s_1 ?_
  refine lv_aload_n hx hb d_Piece_init11s_4 rfl (lv_at hl 0 rfl) ?_
  refine lv_iload_n hx hb d_Piece_init11s_5 rfl (lv_at hl 1 rfl) ?_
  refine mv_putF C X ka wa 2 hnm p_3_7_11 rfl rfl (Nat.le_of_ble_eq_true rfl) d_Piece_init11s_6 (fun H locs X => ?_)
  have X : vO S0 D vcl (vup h0 a (.inr (11, [.null, .int 0, .int ro, .int 0, .null]))) s H locs := X
  refine lv_aload_n hx hb d_Piece_init11s_9 rfl (lv_at hl 0 rfl) ?_
  refine lv_iload_n hx hb d_Piece_init11s_10 rfl (lv_at hl 2 rfl) ?_
  refine mv_putF C X (vup_s _ _ _) wa 3 hnm p_3_13_11 rfl rfl (Nat.le_of_ble_eq_true rfl) d_Piece_init11s_11 (fun H locs X => ?_)
  rw [vup_u] at X
  have X : vO S0 D vcl (vup h0 a (.inr (11, [.null, .int 0, .int ro, .int co, .null]))) s H locs := X
  refine lv_aload_n hx hb d_Piece_init11s_14 rfl (lv_at hl 0 rfl) ?_
  refine lv_aload_n hx hb d_Piece_init11s_15 rfl (lv_at hl 3 rfl) ?_
  refine mv_putF C X (vup_s _ _ _) wa 4 hnm p_3_16_11 rfl rfl (Nat.le_of_ble_eq_true rfl) d_Piece_init11s_16 (fun H locs X => ?_)
  rw [vup_u] at X
  have X : vO S0 D vcl (vup h0 a (.inr (11, [.null, .int 0, .int ro, .int co, .ref cn0]))) s H locs := X
  exact mq_vret hQ C X hr hlk rfl (by omega) (by omega) d_Piece_init11s_19
theorem cm_Piece_init11 {l : Launch} {S0 : State} {b : Nat} {D : va_G} {dT : Nat → ClassId} (hE : vEnv S0 b D dT) {h0 : vH} {a : Nat} {ro co : Int32} {cn : Option Nat} (ka : h0 a = some (.inr (11, [.null, .int 0, .int 0, .int 0, .null]))) (wa : S0.heap.size ≤ a) : vMv l S0 D vcl GT y_Piece_init prog_4_method_1_code 4 none 1 12 0 0 [.ref a, .int ro, .int co, va_rf cn] h0 (fun h' => h' = vup h0 a (.inr (11, [.null, .int 0, .int ro, .int co, va_rf cn]))) := by
  cases cn with
  | none => exact cm_Piece_init11n hE ka wa
  | some x => exact cm_Piece_init11s hE ka wa
theorem d_WordPiece_initn_0 : decode prog_11_method_1_code 0 = .ok (.aload_n 0, 1) := by decide +kernel
theorem d_WordPiece_initn_1 : decode prog_11_method_1_code 1 = .ok (.iload_n 1, 1) := by decide +kernel
theorem d_WordPiece_initn_2 : decode prog_11_method_1_code 2 = .ok (.iload_n 2, 1) := by decide +kernel
theorem d_WordPiece_initn_3 : decode prog_11_method_1_code 3 = .ok (.aload_n 3, 1) := by decide +kernel
theorem d_WordPiece_initn_4 : decode prog_11_method_1_code 4 = .ok (.invokespecial 3, 3) := by decide +kernel
theorem d_WordPiece_initn_7 : decode prog_11_method_1_code 7 = .ok (.aload_n 0, 1) := by decide +kernel
theorem d_WordPiece_initn_8 : decode prog_11_method_1_code 8 = .ok (.aload 4, 2) := by decide +kernel
theorem d_WordPiece_initn_10 : decode prog_11_method_1_code 10 = .ok (.putfield 9, 3) := by decide +kernel
theorem d_WordPiece_initn_13 : decode prog_11_method_1_code 13 = .ok (.aload_n 0, 1) := by decide +kernel
theorem d_WordPiece_initn_14 : decode prog_11_method_1_code 14 = .ok (.aload 5, 2) := by decide +kernel
theorem d_WordPiece_initn_16 : decode prog_11_method_1_code 16 = .ok (.putfield 15, 3) := by decide +kernel
theorem d_WordPiece_initn_19 : decode prog_11_method_1_code 19 = .ok (.return_, 1) := by decide +kernel
set_option maxRecDepth 100000 in
set_option maxHeartbeats 4000000 in
theorem cm_WordPiece_initn {l : Launch} {S0 : State} {b : Nat} {D : va_G} {dT : Nat → ClassId} (hE : vEnv S0 b D dT) {h0 : vH} {a w1 w2 : Nat} {ro co : Int32}  (ka : h0 a = some (.inr (10, [.null, .null, .int 0, .int 0, .null]))) (wa : S0.heap.size ≤ a) : vMv l S0 D vcl GT y_WordPiece_init prog_11_method_1_code 6 none 2 35 0 0 [.ref a, .int ro, .int co, .null, .ref w1, .ref w2] h0 (fun h' => h' = vup h0 a (ePut ro co none w1 w2)) := by
  unfold vMv
  refine vM_ofQ hE.1 (by decide) (Nat.le_of_ble_eq_true rfl) (fun p e s m args below meth c ls Q hQ C hr hlk hnm X hl => ?_)
  have C : vC p s m _ c _ _ "MenuScreens$WordPiece" GT D vcl (vty dT) := C
  have hx := C.1.1
  have hb := C.1.2.1
  obtain ⟨H, eH⟩ : ∃ z, z = s.heap := ⟨_, rfl⟩
  obtain ⟨locs, elocs⟩ : ∃ z : List Loc, z = [] := ⟨_, rfl⟩
  rw [← eH, ← elocs] at X
  rw [← eH, ← elocs]
  clear eH elocs
  have hl : lv_has ls 6 [(0, .ref a), (1, .int ro), (2, .int co), (3, .null), (4, .ref w1), (5, .ref w2)] := hl
  refine lv_aload_n hx hb d_WordPiece_initn_0 rfl (lv_at hl 0 rfl) ?_
  refine lv_iload_n hx hb d_WordPiece_initn_1 rfl (lv_at hl 1 rfl) ?_
  refine lv_iload_n hx hb d_WordPiece_initn_2 rfl (lv_at hl 2 rfl) ?_
  refine lv_aload_nN hx hb d_WordPiece_initn_3 rfl (lv_at hl 3 rfl) ?_
  refine mv_bv X (mv_rI (rest := []) (As := [.int ro, .int co, .null]) gt_good C X k_10_3 (cm_Piece_init10n hE ka wa) ⟨Nat.le_of_ble_eq_true rfl, Nat.le_of_ble_eq_true rfl⟩ rfl hl.1 rfl (Nat.le_of_ble_eq_true rfl) d_WordPiece_initn_4 ⟨Nat.zero_le _, Nat.zero_le _⟩) (fun hN H locs hp X => ?_)
  replace hp := hp.symm
  subst hp
  have X : vO S0 D vcl (vup h0 a (.inr (10, [.null, .null, .int ro, .int co, .null]))) s H locs := X
  refine lv_aload_n hx hb d_WordPiece_initn_7 rfl (lv_at hl 0 rfl) ?_
  refine lv_aload hx hb d_WordPiece_initn_8 (lv_at hl 4 rfl) ?_
  refine mv_putF C X (vup_s _ _ _) wa 0 hnm p_10_9_10 rfl rfl (Nat.le_of_ble_eq_true rfl) d_WordPiece_initn_10 (fun H locs X => ?_)
  rw [vup_u] at X
  have X : vO S0 D vcl (vup h0 a (.inr (10, [.ref w1, .null, .int ro, .int co, .null]))) s H locs := X
  refine lv_aload_n hx hb d_WordPiece_initn_13 rfl (lv_at hl 0 rfl) ?_
  refine lv_aload hx hb d_WordPiece_initn_14 (lv_at hl 5 rfl) ?_
  refine mv_putF C X (vup_s _ _ _) wa 1 hnm p_10_15_10 rfl rfl (Nat.le_of_ble_eq_true rfl) d_WordPiece_initn_16 (fun H locs X => ?_)
  rw [vup_u] at X
  have X : vO S0 D vcl (vup h0 a (.inr (10, [.ref w1, .ref w2, .int ro, .int co, .null]))) s H locs := X
  exact mq_vret hQ C X hr hlk rfl (by omega) (by omega) d_WordPiece_initn_19
theorem d_WordPiece_inits_0 : decode prog_11_method_1_code 0 = .ok (.aload_n 0, 1) := by decide +kernel
theorem d_WordPiece_inits_1 : decode prog_11_method_1_code 1 = .ok (.iload_n 1, 1) := by decide +kernel
theorem d_WordPiece_inits_2 : decode prog_11_method_1_code 2 = .ok (.iload_n 2, 1) := by decide +kernel
theorem d_WordPiece_inits_3 : decode prog_11_method_1_code 3 = .ok (.aload_n 3, 1) := by decide +kernel
theorem d_WordPiece_inits_4 : decode prog_11_method_1_code 4 = .ok (.invokespecial 3, 3) := by decide +kernel
theorem d_WordPiece_inits_7 : decode prog_11_method_1_code 7 = .ok (.aload_n 0, 1) := by decide +kernel
theorem d_WordPiece_inits_8 : decode prog_11_method_1_code 8 = .ok (.aload 4, 2) := by decide +kernel
theorem d_WordPiece_inits_10 : decode prog_11_method_1_code 10 = .ok (.putfield 9, 3) := by decide +kernel
theorem d_WordPiece_inits_13 : decode prog_11_method_1_code 13 = .ok (.aload_n 0, 1) := by decide +kernel
theorem d_WordPiece_inits_14 : decode prog_11_method_1_code 14 = .ok (.aload 5, 2) := by decide +kernel
theorem d_WordPiece_inits_16 : decode prog_11_method_1_code 16 = .ok (.putfield 15, 3) := by decide +kernel
theorem d_WordPiece_inits_19 : decode prog_11_method_1_code 19 = .ok (.return_, 1) := by decide +kernel
set_option maxRecDepth 100000 in
set_option maxHeartbeats 4000000 in
theorem cm_WordPiece_inits {l : Launch} {S0 : State} {b : Nat} {D : va_G} {dT : Nat → ClassId} (hE : vEnv S0 b D dT) {h0 : vH} {a w1 w2 : Nat} {ro co : Int32} {cn0 : Nat} (ka : h0 a = some (.inr (10, [.null, .null, .int 0, .int 0, .null]))) (wa : S0.heap.size ≤ a) : vMv l S0 D vcl GT y_WordPiece_init prog_11_method_1_code 6 none 2 35 0 0 [.ref a, .int ro, .int co, .ref cn0, .ref w1, .ref w2] h0 (fun h' => h' = vup h0 a (ePut ro co (some cn0) w1 w2)) := by
  unfold vMv
  refine vM_ofQ hE.1 (by decide) (Nat.le_of_ble_eq_true rfl) (fun p e s m args below meth c ls Q hQ C hr hlk hnm X hl => ?_)
  have C : vC p s m _ c _ _ "MenuScreens$WordPiece" GT D vcl (vty dT) := C
  have hx := C.1.1
  have hb := C.1.2.1
  obtain ⟨H, eH⟩ : ∃ z, z = s.heap := ⟨_, rfl⟩
  obtain ⟨locs, elocs⟩ : ∃ z : List Loc, z = [] := ⟨_, rfl⟩
  rw [← eH, ← elocs] at X
  rw [← eH, ← elocs]
  clear eH elocs
  have hl : lv_has ls 6 [(0, .ref a), (1, .int ro), (2, .int co), (3, .ref cn0), (4, .ref w1), (5, .ref w2)] := hl
  refine lv_aload_n hx hb d_WordPiece_inits_0 rfl (lv_at hl 0 rfl) ?_
  refine lv_iload_n hx hb d_WordPiece_inits_1 rfl (lv_at hl 1 rfl) ?_
  refine lv_iload_n hx hb d_WordPiece_inits_2 rfl (lv_at hl 2 rfl) ?_
  refine lv_aload_n hx hb d_WordPiece_inits_3 rfl (lv_at hl 3 rfl) ?_
  refine mv_bv X (mv_rI (rest := []) (As := [.int ro, .int co, .ref cn0]) gt_good C X k_10_3 (cm_Piece_init10s hE ka wa) ⟨Nat.le_of_ble_eq_true rfl, Nat.le_of_ble_eq_true rfl⟩ rfl hl.1 rfl (Nat.le_of_ble_eq_true rfl) d_WordPiece_inits_4 ⟨Nat.zero_le _, Nat.zero_le _⟩) (fun hN H locs hp X => ?_)
  replace hp := hp.symm
  subst hp
  have X : vO S0 D vcl (vup h0 a (.inr (10, [.null, .null, .int ro, .int co, .ref cn0]))) s H locs := X
  refine lv_aload_n hx hb d_WordPiece_inits_7 rfl (lv_at hl 0 rfl) ?_
  refine lv_aload hx hb d_WordPiece_inits_8 (lv_at hl 4 rfl) ?_
  refine mv_putF C X (vup_s _ _ _) wa 0 hnm p_10_9_10 rfl rfl (Nat.le_of_ble_eq_true rfl) d_WordPiece_inits_10 (fun H locs X => ?_)
  rw [vup_u] at X
  have X : vO S0 D vcl (vup h0 a (.inr (10, [.ref w1, .null, .int ro, .int co, .ref cn0]))) s H locs := X
  refine lv_aload_n hx hb d_WordPiece_inits_13 rfl (lv_at hl 0 rfl) ?_
  refine lv_aload hx hb d_WordPiece_inits_14 (lv_at hl 5 rfl) ?_
  refine mv_putF C X (vup_s _ _ _) wa 1 hnm p_10_15_10 rfl rfl (Nat.le_of_ble_eq_true rfl) d_WordPiece_inits_16 (fun H locs X => ?_)
  rw [vup_u] at X
  have X : vO S0 D vcl (vup h0 a (.inr (10, [.ref w1, .ref w2, .int ro, .int co, .ref cn0]))) s H locs := X
  exact mq_vret hQ C X hr hlk rfl (by omega) (by omega) d_WordPiece_inits_19
theorem cm_WordPiece_init {l : Launch} {S0 : State} {b : Nat} {D : va_G} {dT : Nat → ClassId} (hE : vEnv S0 b D dT) {h0 : vH} {a w1 w2 : Nat} {ro co : Int32} {cn : Option Nat} (ka : h0 a = some (.inr (10, [.null, .null, .int 0, .int 0, .null]))) (wa : S0.heap.size ≤ a) : vMv l S0 D vcl GT y_WordPiece_init prog_11_method_1_code 6 none 2 35 0 0 [.ref a, .int ro, .int co, va_rf cn, .ref w1, .ref w2] h0 (fun h' => h' = vup h0 a (ePut ro co cn w1 w2)) := by
  cases cn with
  | none => exact cm_WordPiece_initn hE ka wa
  | some x => exact cm_WordPiece_inits hE ka wa
theorem d_ValuePiece_initn_0 : decode prog_9_method_1_code 0 = .ok (.aload_n 0, 1) := by decide +kernel
theorem d_ValuePiece_initn_1 : decode prog_9_method_1_code 1 = .ok (.iload_n 1, 1) := by decide +kernel
theorem d_ValuePiece_initn_2 : decode prog_9_method_1_code 2 = .ok (.iload_n 2, 1) := by decide +kernel
theorem d_ValuePiece_initn_3 : decode prog_9_method_1_code 3 = .ok (.aload_n 3, 1) := by decide +kernel
theorem d_ValuePiece_initn_4 : decode prog_9_method_1_code 4 = .ok (.invokespecial 3, 3) := by decide +kernel
theorem d_ValuePiece_initn_7 : decode prog_9_method_1_code 7 = .ok (.aload_n 0, 1) := by decide +kernel
theorem d_ValuePiece_initn_8 : decode prog_9_method_1_code 8 = .ok (.aload 4, 2) := by decide +kernel
theorem d_ValuePiece_initn_10 : decode prog_9_method_1_code 10 = .ok (.putfield 9, 3) := by decide +kernel
theorem d_ValuePiece_initn_13 : decode prog_9_method_1_code 13 = .ok (.aload_n 0, 1) := by decide +kernel
theorem d_ValuePiece_initn_14 : decode prog_9_method_1_code 14 = .ok (.iload 5, 2) := by decide +kernel
theorem d_ValuePiece_initn_16 : decode prog_9_method_1_code 16 = .ok (.putfield 15, 3) := by decide +kernel
theorem d_ValuePiece_initn_19 : decode prog_9_method_1_code 19 = .ok (.return_, 1) := by decide +kernel
set_option maxRecDepth 100000 in
set_option maxHeartbeats 4000000 in
theorem cm_ValuePiece_initn {l : Launch} {S0 : State} {b : Nat} {D : va_G} {dT : Nat → ClassId} (hE : vEnv S0 b D dT) {h0 : vH} {a v : Nat} {ro co wd : Int32}  (ka : h0 a = some (.inr (11, [.null, .int 0, .int 0, .int 0, .null]))) (wa : S0.heap.size ≤ a) : vMv l S0 D vcl GT y_ValuePiece_init prog_9_method_1_code 6 none 2 35 0 0 [.ref a, .int ro, .int co, .null, .ref v, .int wd] h0 (fun h' => h' = vup h0 a (eSho ro co none v wd)) := by
  unfold vMv
  refine vM_ofQ hE.1 (by decide) (Nat.le_of_ble_eq_true rfl) (fun p e s m args below meth c ls Q hQ C hr hlk hnm X hl => ?_)
  have C : vC p s m _ c _ _ "MenuScreens$ValuePiece" GT D vcl (vty dT) := C
  have hx := C.1.1
  have hb := C.1.2.1
  obtain ⟨H, eH⟩ : ∃ z, z = s.heap := ⟨_, rfl⟩
  obtain ⟨locs, elocs⟩ : ∃ z : List Loc, z = [] := ⟨_, rfl⟩
  rw [← eH, ← elocs] at X
  rw [← eH, ← elocs]
  clear eH elocs
  have hl : lv_has ls 6 [(0, .ref a), (1, .int ro), (2, .int co), (3, .null), (4, .ref v), (5, .int wd)] := hl
  refine lv_aload_n hx hb d_ValuePiece_initn_0 rfl (lv_at hl 0 rfl) ?_
  refine lv_iload_n hx hb d_ValuePiece_initn_1 rfl (lv_at hl 1 rfl) ?_
  refine lv_iload_n hx hb d_ValuePiece_initn_2 rfl (lv_at hl 2 rfl) ?_
  refine lv_aload_nN hx hb d_ValuePiece_initn_3 rfl (lv_at hl 3 rfl) ?_
  refine mv_bv X (mv_rI (rest := []) (As := [.int ro, .int co, .null]) gt_good C X k_8_3 (cm_Piece_init11n hE ka wa) ⟨Nat.le_of_ble_eq_true rfl, Nat.le_of_ble_eq_true rfl⟩ rfl hl.1 rfl (Nat.le_of_ble_eq_true rfl) d_ValuePiece_initn_4 ⟨Nat.zero_le _, Nat.zero_le _⟩) (fun hN H locs hp X => ?_)
  replace hp := hp.symm
  subst hp
  have X : vO S0 D vcl (vup h0 a (.inr (11, [.null, .int 0, .int ro, .int co, .null]))) s H locs := X
  refine lv_aload_n hx hb d_ValuePiece_initn_7 rfl (lv_at hl 0 rfl) ?_
  refine lv_aload hx hb d_ValuePiece_initn_8 (lv_at hl 4 rfl) ?_
  refine mv_putF C X (vup_s _ _ _) wa 0 hnm p_8_9_11 rfl rfl (Nat.le_of_ble_eq_true rfl) d_ValuePiece_initn_10 (fun H locs X => ?_)
  rw [vup_u] at X
  have X : vO S0 D vcl (vup h0 a (.inr (11, [.ref v, .int 0, .int ro, .int co, .null]))) s H locs := X
  refine lv_aload_n hx hb d_ValuePiece_initn_13 rfl (lv_at hl 0 rfl) ?_
  refine lv_iload hx hb d_ValuePiece_initn_14 (lv_at hl 5 rfl) ?_
  refine mv_putF C X (vup_s _ _ _) wa 1 hnm p_8_15_11 rfl rfl (Nat.le_of_ble_eq_true rfl) d_ValuePiece_initn_16 (fun H locs X => ?_)
  rw [vup_u] at X
  have X : vO S0 D vcl (vup h0 a (.inr (11, [.ref v, .int wd, .int ro, .int co, .null]))) s H locs := X
  exact mq_vret hQ C X hr hlk rfl (by omega) (by omega) d_ValuePiece_initn_19
theorem d_ValuePiece_inits_0 : decode prog_9_method_1_code 0 = .ok (.aload_n 0, 1) := by decide +kernel
theorem d_ValuePiece_inits_1 : decode prog_9_method_1_code 1 = .ok (.iload_n 1, 1) := by decide +kernel
theorem d_ValuePiece_inits_2 : decode prog_9_method_1_code 2 = .ok (.iload_n 2, 1) := by decide +kernel
theorem d_ValuePiece_inits_3 : decode prog_9_method_1_code 3 = .ok (.aload_n 3, 1) := by decide +kernel
theorem d_ValuePiece_inits_4 : decode prog_9_method_1_code 4 = .ok (.invokespecial 3, 3) := by decide +kernel
theorem d_ValuePiece_inits_7 : decode prog_9_method_1_code 7 = .ok (.aload_n 0, 1) := by decide +kernel
theorem d_ValuePiece_inits_8 : decode prog_9_method_1_code 8 = .ok (.aload 4, 2) := by decide +kernel
theorem d_ValuePiece_inits_10 : decode prog_9_method_1_code 10 = .ok (.putfield 9, 3) := by decide +kernel
theorem d_ValuePiece_inits_13 : decode prog_9_method_1_code 13 = .ok (.aload_n 0, 1) := by decide +kernel
theorem d_ValuePiece_inits_14 : decode prog_9_method_1_code 14 = .ok (.iload 5, 2) := by decide +kernel
theorem d_ValuePiece_inits_16 : decode prog_9_method_1_code 16 = .ok (.putfield 15, 3) := by decide +kernel
theorem d_ValuePiece_inits_19 : decode prog_9_method_1_code 19 = .ok (.return_, 1) := by decide +kernel
set_option maxRecDepth 100000 in
set_option maxHeartbeats 4000000 in
theorem cm_ValuePiece_inits {l : Launch} {S0 : State} {b : Nat} {D : va_G} {dT : Nat → ClassId} (hE : vEnv S0 b D dT) {h0 : vH} {a v : Nat} {ro co wd : Int32} {cn0 : Nat} (ka : h0 a = some (.inr (11, [.null, .int 0, .int 0, .int 0, .null]))) (wa : S0.heap.size ≤ a) : vMv l S0 D vcl GT y_ValuePiece_init prog_9_method_1_code 6 none 2 35 0 0 [.ref a, .int ro, .int co, .ref cn0, .ref v, .int wd] h0 (fun h' => h' = vup h0 a (eSho ro co (some cn0) v wd)) := by
  unfold vMv
  refine vM_ofQ hE.1 (by decide) (Nat.le_of_ble_eq_true rfl) (fun p e s m args below meth c ls Q hQ C hr hlk hnm X hl => ?_)
  have C : vC p s m _ c _ _ "MenuScreens$ValuePiece" GT D vcl (vty dT) := C
  have hx := C.1.1
  have hb := C.1.2.1
  obtain ⟨H, eH⟩ : ∃ z, z = s.heap := ⟨_, rfl⟩
  obtain ⟨locs, elocs⟩ : ∃ z : List Loc, z = [] := ⟨_, rfl⟩
  rw [← eH, ← elocs] at X
  rw [← eH, ← elocs]
  clear eH elocs
  have hl : lv_has ls 6 [(0, .ref a), (1, .int ro), (2, .int co), (3, .ref cn0), (4, .ref v), (5, .int wd)] := hl
  refine lv_aload_n hx hb d_ValuePiece_inits_0 rfl (lv_at hl 0 rfl) ?_
  refine lv_iload_n hx hb d_ValuePiece_inits_1 rfl (lv_at hl 1 rfl) ?_
  refine lv_iload_n hx hb d_ValuePiece_inits_2 rfl (lv_at hl 2 rfl) ?_
  refine lv_aload_n hx hb d_ValuePiece_inits_3 rfl (lv_at hl 3 rfl) ?_
  refine mv_bv X (mv_rI (rest := []) (As := [.int ro, .int co, .ref cn0]) gt_good C X k_8_3 (cm_Piece_init11s hE ka wa) ⟨Nat.le_of_ble_eq_true rfl, Nat.le_of_ble_eq_true rfl⟩ rfl hl.1 rfl (Nat.le_of_ble_eq_true rfl) d_ValuePiece_inits_4 ⟨Nat.zero_le _, Nat.zero_le _⟩) (fun hN H locs hp X => ?_)
  replace hp := hp.symm
  subst hp
  have X : vO S0 D vcl (vup h0 a (.inr (11, [.null, .int 0, .int ro, .int co, .ref cn0]))) s H locs := X
  refine lv_aload_n hx hb d_ValuePiece_inits_7 rfl (lv_at hl 0 rfl) ?_
  refine lv_aload hx hb d_ValuePiece_inits_8 (lv_at hl 4 rfl) ?_
  refine mv_putF C X (vup_s _ _ _) wa 0 hnm p_8_9_11 rfl rfl (Nat.le_of_ble_eq_true rfl) d_ValuePiece_inits_10 (fun H locs X => ?_)
  rw [vup_u] at X
  have X : vO S0 D vcl (vup h0 a (.inr (11, [.ref v, .int 0, .int ro, .int co, .ref cn0]))) s H locs := X
  refine lv_aload_n hx hb d_ValuePiece_inits_13 rfl (lv_at hl 0 rfl) ?_
  refine lv_iload hx hb d_ValuePiece_inits_14 (lv_at hl 5 rfl) ?_
  refine mv_putF C X (vup_s _ _ _) wa 1 hnm p_8_15_11 rfl rfl (Nat.le_of_ble_eq_true rfl) d_ValuePiece_inits_16 (fun H locs X => ?_)
  rw [vup_u] at X
  have X : vO S0 D vcl (vup h0 a (.inr (11, [.ref v, .int wd, .int ro, .int co, .ref cn0]))) s H locs := X
  exact mq_vret hQ C X hr hlk rfl (by omega) (by omega) d_ValuePiece_inits_19
theorem cm_ValuePiece_init {l : Launch} {S0 : State} {b : Nat} {D : va_G} {dT : Nat → ClassId} (hE : vEnv S0 b D dT) {h0 : vH} {a v : Nat} {ro co wd : Int32} {cn : Option Nat} (ka : h0 a = some (.inr (11, [.null, .int 0, .int 0, .int 0, .null]))) (wa : S0.heap.size ≤ a) : vMv l S0 D vcl GT y_ValuePiece_init prog_9_method_1_code 6 none 2 35 0 0 [.ref a, .int ro, .int co, va_rf cn, .ref v, .int wd] h0 (fun h' => h' = vup h0 a (eSho ro co cn v wd)) := by
  cases cn with
  | none => exact cm_ValuePiece_initn hE ka wa
  | some x => exact cm_ValuePiece_inits hE ka wa
theorem d_Condition_holds_0 : decode prog_2_method_2_code 0 = .ok (.aload_n 0, 1) := by decide +kernel
theorem d_Condition_holds_1 : decode prog_2_method_2_code 1 = .ok (.getfield 7, 3) := by decide +kernel
theorem d_Condition_holds_4 : decode prog_2_method_2_code 4 = .ok (.getfield 25, 3) := by decide +kernel
theorem d_Condition_holds_7 : decode prog_2_method_2_code 7 = .ok (.ifCond .ne 5, 3) := by decide +kernel
theorem d_Condition_holds_10 : decode prog_2_method_2_code 10 = .ok (.iconst 0, 1) := by decide +kernel
theorem d_Condition_holds_11 : decode prog_2_method_2_code 11 = .ok (.ireturn, 1) := by decide +kernel
theorem d_Condition_holds_12 : decode prog_2_method_2_code 12 = .ok (.aload_n 0, 1) := by decide +kernel
theorem d_Condition_holds_13 : decode prog_2_method_2_code 13 = .ok (.getfield 13, 3) := by decide +kernel
theorem d_Condition_holds_16 : decode prog_2_method_2_code 16 = .ok (.bipush 61, 2) := by decide +kernel
theorem d_Condition_holds_18 : decode prog_2_method_2_code 18 = .ok (.if_icmp .ne 25, 3) := by decide +kernel
theorem d_Condition_holds_21 : decode prog_2_method_2_code 21 = .ok (.aload_n 0, 1) := by decide +kernel
theorem d_Condition_holds_22 : decode prog_2_method_2_code 22 = .ok (.getfield 7, 3) := by decide +kernel
theorem d_Condition_holds_25 : decode prog_2_method_2_code 25 = .ok (.getfield 31, 3) := by decide +kernel
theorem d_Condition_holds_28 : decode prog_2_method_2_code 28 = .ok (.aload_n 0, 1) := by decide +kernel
theorem d_Condition_holds_29 : decode prog_2_method_2_code 29 = .ok (.getfield 17, 3) := by decide +kernel
theorem d_Condition_holds_32 : decode prog_2_method_2_code 32 = .ok (.i2l, 1) := by decide +kernel
theorem d_Condition_holds_33 : decode prog_2_method_2_code 33 = .ok (.lcmp, 1) := by decide +kernel
theorem d_Condition_holds_34 : decode prog_2_method_2_code 34 = .ok (.ifCond .ne 7, 3) := by decide +kernel
theorem d_Condition_holds_37 : decode prog_2_method_2_code 37 = .ok (.iconst 1, 1) := by decide +kernel
theorem d_Condition_holds_38 : decode prog_2_method_2_code 38 = .ok (.goto 4, 3) := by decide +kernel
theorem d_Condition_holds_41 : decode prog_2_method_2_code 41 = .ok (.iconst 0, 1) := by decide +kernel
theorem d_Condition_holds_42 : decode prog_2_method_2_code 42 = .ok (.ireturn, 1) := by decide +kernel
theorem d_Condition_holds_43 : decode prog_2_method_2_code 43 = .ok (.aload_n 0, 1) := by decide +kernel
theorem d_Condition_holds_44 : decode prog_2_method_2_code 44 = .ok (.getfield 13, 3) := by decide +kernel
theorem d_Condition_holds_47 : decode prog_2_method_2_code 47 = .ok (.bipush 60, 2) := by decide +kernel
theorem d_Condition_holds_49 : decode prog_2_method_2_code 49 = .ok (.if_icmp .ne 27, 3) := by decide +kernel
theorem d_Condition_holds_52 : decode prog_2_method_2_code 52 = .ok (.aload_n 0, 1) := by decide +kernel
theorem d_Condition_holds_53 : decode prog_2_method_2_code 53 = .ok (.getfield 7, 3) := by decide +kernel
theorem d_Condition_holds_56 : decode prog_2_method_2_code 56 = .ok (.getfield 31, 3) := by decide +kernel
theorem d_Condition_holds_59 : decode prog_2_method_2_code 59 = .ok (.aload_n 0, 1) := by decide +kernel
theorem d_Condition_holds_60 : decode prog_2_method_2_code 60 = .ok (.getfield 17, 3) := by decide +kernel
theorem d_Condition_holds_63 : decode prog_2_method_2_code 63 = .ok (.i2l, 1) := by decide +kernel
theorem d_Condition_holds_64 : decode prog_2_method_2_code 64 = .ok (.lcmp, 1) := by decide +kernel
theorem d_Condition_holds_65 : decode prog_2_method_2_code 65 = .ok (.ifCond .ge 7, 3) := by decide +kernel
theorem d_Condition_holds_68 : decode prog_2_method_2_code 68 = .ok (.iconst 1, 1) := by decide +kernel
theorem d_Condition_holds_69 : decode prog_2_method_2_code 69 = .ok (.goto 28, 3) := by decide +kernel
theorem d_Condition_holds_72 : decode prog_2_method_2_code 72 = .ok (.iconst 0, 1) := by decide +kernel
theorem d_Condition_holds_73 : decode prog_2_method_2_code 73 = .ok (.goto 24, 3) := by decide +kernel
theorem d_Condition_holds_76 : decode prog_2_method_2_code 76 = .ok (.aload_n 0, 1) := by decide +kernel
theorem d_Condition_holds_77 : decode prog_2_method_2_code 77 = .ok (.getfield 7, 3) := by decide +kernel
theorem d_Condition_holds_80 : decode prog_2_method_2_code 80 = .ok (.getfield 31, 3) := by decide +kernel
theorem d_Condition_holds_83 : decode prog_2_method_2_code 83 = .ok (.aload_n 0, 1) := by decide +kernel
theorem d_Condition_holds_84 : decode prog_2_method_2_code 84 = .ok (.getfield 17, 3) := by decide +kernel
theorem d_Condition_holds_87 : decode prog_2_method_2_code 87 = .ok (.i2l, 1) := by decide +kernel
theorem d_Condition_holds_88 : decode prog_2_method_2_code 88 = .ok (.lcmp, 1) := by decide +kernel
theorem d_Condition_holds_89 : decode prog_2_method_2_code 89 = .ok (.ifCond .le 7, 3) := by decide +kernel
theorem d_Condition_holds_92 : decode prog_2_method_2_code 92 = .ok (.iconst 1, 1) := by decide +kernel
theorem d_Condition_holds_93 : decode prog_2_method_2_code 93 = .ok (.goto 4, 3) := by decide +kernel
theorem d_Condition_holds_96 : decode prog_2_method_2_code 96 = .ok (.iconst 0, 1) := by decide +kernel
theorem d_Condition_holds_97 : decode prog_2_method_2_code 97 = .ok (.ireturn, 1) := by decide +kernel
set_option maxRecDepth 100000 in
set_option maxHeartbeats 4000000 in
theorem cm_Condition_holds {l : Launch} {S0 : State} {b : Nat} {D : va_G} {dT : Nat → ClassId} (hE : vEnv S0 b D dT) {h0 : vH} {a v : Nat} {op nu vd : Int32} {nw : Int64} {bf : Option Nat} {u1 u2 u3 u4 : Value} (ka : h0 a = some (.inr (12, [.ref v, .int op, .int nu, va_rf bf]))) (kv : h0 v = some (.inr (8, [u1, u2, u3, u4, .long nw, .int vd]))) : vMi l S0 D vcl GT y_Condition_holds prog_2_method_2_code 1 (some .boolean) 0 0 0 0 [.ref a] h0 (fun r h' => h' = h0 ∧ r = bI (hlB vd op nw nu.toInt64)) := by
  unfold vMi
  refine vM_ofQ hE.1 (by decide) (Nat.le_of_ble_eq_true rfl) (fun p e s m args below meth c ls Q hQ C hr hlk hnm X hl => ?_)
  have C : vC p s m _ c _ _ "MenuScreens$Condition" GT D vcl (vty dT) := C
  have hx := C.1.1
  have hb := C.1.2.1
  obtain ⟨H, eH⟩ : ∃ z, z = s.heap := ⟨_, rfl⟩
  obtain ⟨locs, elocs⟩ : ∃ z : List Loc, z = [] := ⟨_, rfl⟩
  rw [← eH, ← elocs] at X
  rw [← eH, ← elocs]
  clear eH elocs
  have hl : lv_has ls 1 [(0, .ref a)] := hl
  refine lv_aload_n hx hb d_Condition_holds_0 rfl (lv_at hl 0 rfl) ?_
  refine mv_get C X ka 0 f_1_7_12 (v := .ref v) rfl d_Condition_holds_1 ?_
  refine mv_get C X kv 5 f_1_25_8 (v := .int vd) rfl d_Condition_holds_4 ?_
  refine lv_if_ne (tgt := 12) hx hb d_Condition_holds_7 (by decide) (fun c1 => ?_) (fun c1 => ?_)
  · skip
    refine lv_aload_n hx hb d_Condition_holds_12 rfl (lv_at hl 0 rfl) ?_
    refine mv_get C X ka 1 f_1_13_12 (v := .int op) rfl d_Condition_holds_13 ?_
    refine lv_bipush (v := 61) hx hb d_Condition_holds_16 (by decide) ?_
    refine lv_icmp_ne (tgt := 43) hx hb d_Condition_holds_18 (by decide) (fun c2 => ?_) (fun c2 => ?_)
    · skip
      refine lv_aload_n hx hb d_Condition_holds_43 rfl (lv_at hl 0 rfl) ?_
      refine mv_get C X ka 1 f_1_13_12 (v := .int op) rfl d_Condition_holds_44 ?_
      refine lv_bipush (v := 60) hx hb d_Condition_holds_47 (by decide) ?_
      refine lv_icmp_ne (tgt := 76) hx hb d_Condition_holds_49 (by decide) (fun c3 => ?_) (fun c3 => ?_)
      · skip
        refine lv_aload_n hx hb d_Condition_holds_76 rfl (lv_at hl 0 rfl) ?_
        refine mv_get C X ka 0 f_1_7_12 (v := .ref v) rfl d_Condition_holds_77 ?_
        refine mv_get C X kv 4 f_1_31_8 (v := .long nw) rfl d_Condition_holds_80 ?_
        refine lv_aload_n hx hb d_Condition_holds_83 rfl (lv_at hl 0 rfl) ?_
        refine mv_get C X ka 2 f_1_17_12 (v := .int nu) rfl d_Condition_holds_84 ?_
        refine lv_i2l (v := (nu : Int32).toInt64) hx hb d_Condition_holds_87 rfl ?_
        refine W.lcmp hx hb d_Condition_holds_88 ?_
        refine lv_if_le (tgt := 96) hx hb d_Condition_holds_89 (by decide) (fun c4 => ?_) (fun c4 => ?_)
        · skip
          refine lv_iconst (v := 0) hx hb d_Condition_holds_96 (by decide) ?_
          exact mq_iret hQ C X hr rfl hlk (⟨rfl, by unfold hlB; rw [decide_eq_true c1, Bool.true_and]; rw [if_neg c2]; rw [if_neg c3, decide_eq_false (Int64.not_lt.mpr ((lg_cmp_le _ _).mp c4))]; rfl⟩) (by omega) (by omega) d_Condition_holds_97
        · skip
          refine lv_iconst (v := 1) hx hb d_Condition_holds_92 (by decide) ?_
          refine lv_goto (tgt := 97) hx hb d_Condition_holds_93 (by decide) ?_
          exact mq_iret hQ C X hr rfl hlk (⟨rfl, by unfold hlB; rw [decide_eq_true c1, Bool.true_and]; rw [if_neg c2]; rw [if_neg c3, decide_eq_true (Int64.not_le.mp (fun z => c4 ((lg_cmp_le _ _).mpr z)))]; rfl⟩) (by omega) (by omega) d_Condition_holds_97
      · skip
        refine lv_aload_n hx hb d_Condition_holds_52 rfl (lv_at hl 0 rfl) ?_
        refine mv_get C X ka 0 f_1_7_12 (v := .ref v) rfl d_Condition_holds_53 ?_
        refine mv_get C X kv 4 f_1_31_8 (v := .long nw) rfl d_Condition_holds_56 ?_
        refine lv_aload_n hx hb d_Condition_holds_59 rfl (lv_at hl 0 rfl) ?_
        refine mv_get C X ka 2 f_1_17_12 (v := .int nu) rfl d_Condition_holds_60 ?_
        refine lv_i2l (v := (nu : Int32).toInt64) hx hb d_Condition_holds_63 rfl ?_
        refine W.lcmp hx hb d_Condition_holds_64 ?_
        refine lv_if_ge (tgt := 72) hx hb d_Condition_holds_65 (by decide) (fun c5 => ?_) (fun c5 => ?_)
        · skip
          refine lv_iconst (v := 0) hx hb d_Condition_holds_72 (by decide) ?_
          refine lv_goto (tgt := 97) hx hb d_Condition_holds_73 (by decide) ?_
          exact mq_iret hQ C X hr rfl hlk (⟨rfl, by unfold hlB; rw [decide_eq_true c1, Bool.true_and]; rw [if_neg c2]; rw [if_pos c3, decide_eq_false (Int64.not_lt.mpr ((lg_cmp_ge _ _).mp c5))]; rfl⟩) (by omega) (by omega) d_Condition_holds_97
        · skip
          refine lv_iconst (v := 1) hx hb d_Condition_holds_68 (by decide) ?_
          refine lv_goto (tgt := 97) hx hb d_Condition_holds_69 (by decide) ?_
          exact mq_iret hQ C X hr rfl hlk (⟨rfl, by unfold hlB; rw [decide_eq_true c1, Bool.true_and]; rw [if_neg c2]; rw [if_pos c3, decide_eq_true (Int64.not_le.mp (fun z => c5 ((lg_cmp_ge _ _).mpr z)))]; rfl⟩) (by omega) (by omega) d_Condition_holds_97
    · skip
      refine lv_aload_n hx hb d_Condition_holds_21 rfl (lv_at hl 0 rfl) ?_
      refine mv_get C X ka 0 f_1_7_12 (v := .ref v) rfl d_Condition_holds_22 ?_
      refine mv_get C X kv 4 f_1_31_8 (v := .long nw) rfl d_Condition_holds_25 ?_
      refine lv_aload_n hx hb d_Condition_holds_28 rfl (lv_at hl 0 rfl) ?_
      refine mv_get C X ka 2 f_1_17_12 (v := .int nu) rfl d_Condition_holds_29 ?_
      refine lv_i2l (v := (nu : Int32).toInt64) hx hb d_Condition_holds_32 rfl ?_
      refine W.lcmp hx hb d_Condition_holds_33 ?_
      refine lv_if_ne (tgt := 41) hx hb d_Condition_holds_34 (by decide) (fun c6 => ?_) (fun c6 => ?_)
      · skip
        refine lv_iconst (v := 0) hx hb d_Condition_holds_41 (by decide) ?_
        exact mq_iret hQ C X hr rfl hlk (⟨rfl, by unfold hlB; rw [decide_eq_true c1, Bool.true_and]; rw [if_pos c2, decide_eq_false (fun z => c6 ((lg_cmp_eq _ _).mpr z))]; rfl⟩) (by omega) (by omega) d_Condition_holds_42
      · skip
        refine lv_iconst (v := 1) hx hb d_Condition_holds_37 (by decide) ?_
        refine lv_goto (tgt := 42) hx hb d_Condition_holds_38 (by decide) ?_
        exact mq_iret hQ C X hr rfl hlk (⟨rfl, by unfold hlB; rw [decide_eq_true c1, Bool.true_and]; rw [if_pos c2, decide_eq_true ((lg_cmp_eq _ _).mp c6)]; rfl⟩) (by omega) (by omega) d_Condition_holds_42
  · skip
    refine lv_iconst (v := 0) hx hb d_Condition_holds_10 (by decide) ?_
    exact mq_iret hQ C X hr rfl hlk (⟨rfl, by unfold hlB; rw [decide_eq_false (fun z => z c1)]; rfl⟩) (by omega) (by omega) d_Condition_holds_11
theorem d_Piece_isOn10_0 : decode prog_4_method_3_code 0 = .ok (.aload_n 0, 1) := by decide +kernel
theorem d_Piece_isOn10_1 : decode prog_4_method_3_code 1 = .ok (.getfield 16, 3) := by decide +kernel
theorem d_Piece_isOn10_4 : decode prog_4_method_3_code 4 = .ok (.astore_n 1, 1) := by decide +kernel
theorem d_Piece_isOn10_5 : decode prog_4_method_3_code 5 = .ok (.aload_n 1, 1) := by decide +kernel
theorem d_Piece_isOn10_6 : decode prog_4_method_3_code 6 = .ok (.ifnull 20, 3) := by decide +kernel
theorem d_Piece_isOn10_9 : decode prog_4_method_3_code 9 = .ok (.aload_n 1, 1) := by decide +kernel
theorem d_Piece_isOn10_10 : decode prog_4_method_3_code 10 = .ok (.invokevirtual 20, 3) := by decide +kernel
theorem d_Piece_isOn10_13 : decode prog_4_method_3_code 13 = .ok (.ifCond .ne 5, 3) := by decide +kernel
theorem d_Piece_isOn10_16 : decode prog_4_method_3_code 16 = .ok (.iconst 0, 1) := by decide +kernel
theorem d_Piece_isOn10_17 : decode prog_4_method_3_code 17 = .ok (.ireturn, 1) := by decide +kernel
theorem d_Piece_isOn10_18 : decode prog_4_method_3_code 18 = .ok (.aload_n 1, 1) := by decide +kernel
theorem d_Piece_isOn10_19 : decode prog_4_method_3_code 19 = .ok (.getfield 26, 3) := by decide +kernel
theorem d_Piece_isOn10_22 : decode prog_4_method_3_code 22 = .ok (.astore_n 1, 1) := by decide +kernel
theorem d_Piece_isOn10_23 : decode prog_4_method_3_code 23 = .ok (.goto (-18), 3) := by decide +kernel
theorem d_Piece_isOn10_26 : decode prog_4_method_3_code 26 = .ok (.iconst 1, 1) := by decide +kernel
theorem d_Piece_isOn10_27 : decode prog_4_method_3_code 27 = .ok (.ireturn, 1) := by decide +kernel
set_option maxRecDepth 100000 in
set_option maxHeartbeats 4000000 in
theorem cm_Piece_isOn10 {l : Launch} {S0 : State} {b : Nat} {D : va_G} {dT : Nat → ClassId} (hE : vEnv S0 b D dT) {h0 : vH} {a cb ce : Nat} {ad va : Nat → Nat} {op nu vd : Nat → Int32} {nw : Nat → Int64} {u1 u2 u3 u4 : Nat → Value} {r1 r2 r3 r4 : Value} (hcb : cb ≤ ce) (hC : ∀ k, cb ≤ k → k < ce → h0 (ad k) = some (eCon (va k) (op k) (nu k) (if cb < k then some (ad (k - 1)) else none)) ∧ h0 (va k) = some (.inr (8, [u1 k, u2 k, u3 k, u4 k, .long (nw k), .int (vd k)]))) (ka : h0 a = some (.inr (10, [r1, r2, r3, r4, va_rf (if cb < ce then some (ad (ce - 1)) else none)]))) : vMi l S0 D vcl GT y_Piece_isOn prog_4_method_3_code 2 (some .boolean) 1 20 0 0 [.ref a] h0 (fun r h' => h' = h0 ∧ r = bI (allB (fun j => hlB (vd (cb + j)) (op (cb + j)) (nw (cb + j)) (nu (cb + j)).toInt64) (ce - cb))) := by
  unfold vMi
  refine vM_ofQ hE.1 (by decide) (Nat.le_of_ble_eq_true rfl) (fun p e s m args below meth c ls Q hQ C hr hlk hnm X hl => ?_)
  have C : vC p s m _ c _ _ "MenuScreens$Piece" GT D vcl (vty dT) := C
  have hx := C.1.1
  have hb := C.1.2.1
  obtain ⟨H, eH⟩ : ∃ z, z = s.heap := ⟨_, rfl⟩
  obtain ⟨locs, elocs⟩ : ∃ z : List Loc, z = [] := ⟨_, rfl⟩
  rw [← eH, ← elocs] at X
  rw [← eH, ← elocs]
  clear eH elocs
  have hl : lv_has ls 2 [(0, .ref a)] := hl
  refine lv_aload_n hx hb d_Piece_isOn10_0 rfl (lv_at hl 0 rfl) ?_
  refine mv_get C X ka 4 f_3_16_10 (v := va_rf (if cb < ce then some (ad (ce - 1)) else none)) rfl d_Piece_isOn10_1 ?_
  by_cases hk : cb < ce
  · rw [if_pos hk]
    change W _ _ _ _ _ _ _ _ _ _ _ _ _ _ _ (F0 _ _ _ (.ref (ad (ce - 1)) :: _))
    refine lv_astore_n (lv' := [(1, .ref (ad (ce - 1))), (0, .ref a)]) hx hb d_Piece_isOn10_4 rfl hl (by decide) rfl (fun ls hl => ?_)
    have lp : ∀ (n_lp : Nat) (k : Nat) (ls : Array Slot) (H : Heap) (locs : List Loc), (cb < k) → (k ≤ ce) → (∀ j, k ≤ j → j < ce → hlB (vd j) (op j) (nw j) (nu j).toInt64 = true) → (k - cb) < n_lp → vO S0 D vcl h0 s H locs → lv_has ls 2 [(1, .ref (ad (k - 1))), (0, .ref a)] → W p l e (vRm 1 20 0 0) s m args below meth c H locs 0 0 Q (F0 m 5 ls []) := by
      intro n_lp
      induction n_lp with
      | zero => intros; exact absurd (by assumption) (Nat.not_lt_zero _)
      | succ n_lp ih_lp =>
        intro k ls H locs hk0 hk2 ha hmu_lp X hl
        refine lv_aload_n hx hb d_Piece_isOn10_5 rfl (lv_at hl 0 rfl) ?_
        refine lv_ifnull hx hb d_Piece_isOn10_6 ?_
        have hc1 := (hC (k - 1) (by omega) (by omega)).1
        have hc2 := (hC (k - 1) (by omega) (by omega)).2
        refine lv_aload_n hx hb d_Piece_isOn10_9 rfl (lv_at hl 0 rfl) ?_
        refine mv_bi X (mv_rV (rest := []) (As := []) gt_good C X k_3_20 (cm_Condition_holds hE hc1 hc2) hc1 rfl rfl ⟨Nat.le_of_ble_eq_true rfl, Nat.le_of_ble_eq_true rfl⟩ rfl hl.1 rfl (Nat.le_of_ble_eq_true rfl) d_Piece_isOn10_10 ⟨Nat.zero_le _, Nat.zero_le _⟩) (fun r1 hN H locs hp X => ?_)
        obtain ⟨eh, er⟩ := hp
        replace eh := eh.symm
        subst eh
        refine lv_if_ne (tgt := 18) hx hb d_Piece_isOn10_13 (by decide) (fun c2 => ?_) (fun c2 => ?_)
        · skip
          have hd : hlB (vd (k - 1)) (op (k - 1)) (nw (k - 1)) (nu (k - 1)).toInt64 = true := bI_n (fun z => c2 (er.trans z))
          refine lv_aload_n hx hb d_Piece_isOn10_18 rfl (lv_at hl 0 rfl) ?_
          refine mv_get C X hc1 3 f_3_26_12 (v := va_rf (if cb < k - 1 then some (ad (k - 1 - 1)) else none)) rfl d_Piece_isOn10_19 ?_
          by_cases hk : cb < k - 1
          · rw [if_pos hk]
            change W _ _ _ _ _ _ _ _ _ _ _ _ _ _ _ (F0 _ _ _ (.ref (ad (k - 1 - 1)) :: _))
            refine lv_astore_n (lv' := [(1, .ref (ad (k - 1 - 1))), (0, .ref a)]) hx hb d_Piece_isOn10_22 rfl hl (by decide) rfl (fun ls hl => ?_)
            refine lv_goto (tgt := 5) hx hb d_Piece_isOn10_23 (by decide) ?_
            exact ih_lp (k - 1) ls _ _ hk (by omega) (fun j q1 q2 => by
                by_cases z : j = k - 1
                · rw [z]; exact hd
                · exact ha j (by omega) q2) (by omega) X (lv_sub hl [0, 1] rfl)
          · rw [if_neg hk]
            change W _ _ _ _ _ _ _ _ _ _ _ _ _ _ _ (F0 _ _ _ (.null :: _))
            refine lv_astore_nN (lv' := [(1, .null), (0, .ref a)]) hx hb d_Piece_isOn10_22 rfl hl (by decide) rfl (fun ls hl => ?_)
            refine lv_goto (tgt := 5) hx hb d_Piece_isOn10_23 (by decide) ?_
            refine lv_aload_nN hx hb d_Piece_isOn10_5 rfl (lv_at hl 0 rfl) ?_
            refine lv_ifnullN (tgt := 26) hx hb d_Piece_isOn10_6 (by decide) ?_
            refine lv_iconst (v := 1) hx hb d_Piece_isOn10_26 (by decide) ?_
            exact mq_iret hQ C X hr rfl hlk (⟨rfl, by
                rw [allB_t (ce - cb) (fun j hj => ?_)]
                · rfl
                · show hlB (vd (cb + j)) (op (cb + j)) (nw (cb + j)) (nu (cb + j)).toInt64 = true
                  by_cases z : cb + j = k - 1
                  · rw [z]; exact hd
                  · exact ha (cb + j) (by omega) (by omega)⟩) (by omega) (by omega) d_Piece_isOn10_27
        · skip
          refine lv_iconst (v := 0) hx hb d_Piece_isOn10_16 (by decide) ?_
          exact mq_iret hQ C X hr rfl hlk (⟨rfl, by rw [allB_f (k := k - 1 - cb) (ce - cb) (by omega) (by show hlB (vd (cb + (k - 1 - cb))) (op (cb + (k - 1 - cb))) (nw (cb + (k - 1 - cb))) (nu (cb + (k - 1 - cb))).toInt64 = false; rw [show cb + (k - 1 - cb) = k - 1 by omega]; exact bI_0 (er.symm.trans c2))]; rfl⟩) (by omega) (by omega) d_Piece_isOn10_17
    exact lp (ce - cb + 1) ce ls _ _ hk (Nat.le_refl _) (fun j q1 q2 => absurd q2 (Nat.not_lt.mpr q1)) (Nat.lt_succ_self _) X (lv_sub hl [0, 1] rfl)
  · rw [if_neg hk]
    change W _ _ _ _ _ _ _ _ _ _ _ _ _ _ _ (F0 _ _ _ (.null :: _))
    refine lv_astore_nN (lv' := [(1, .null), (0, .ref a)]) hx hb d_Piece_isOn10_4 rfl hl (by decide) rfl (fun ls hl => ?_)
    refine lv_aload_nN hx hb d_Piece_isOn10_5 rfl (lv_at hl 0 rfl) ?_
    refine lv_ifnullN (tgt := 26) hx hb d_Piece_isOn10_6 (by decide) ?_
    refine lv_iconst (v := 1) hx hb d_Piece_isOn10_26 (by decide) ?_
    exact mq_iret hQ C X hr rfl hlk (⟨rfl, by rw [show ce - cb = 0 by omega]; rfl⟩) (by omega) (by omega) d_Piece_isOn10_27
theorem d_Piece_isOn11_0 : decode prog_4_method_3_code 0 = .ok (.aload_n 0, 1) := by decide +kernel
theorem d_Piece_isOn11_1 : decode prog_4_method_3_code 1 = .ok (.getfield 16, 3) := by decide +kernel
theorem d_Piece_isOn11_4 : decode prog_4_method_3_code 4 = .ok (.astore_n 1, 1) := by decide +kernel
theorem d_Piece_isOn11_5 : decode prog_4_method_3_code 5 = .ok (.aload_n 1, 1) := by decide +kernel
theorem d_Piece_isOn11_6 : decode prog_4_method_3_code 6 = .ok (.ifnull 20, 3) := by decide +kernel
theorem d_Piece_isOn11_9 : decode prog_4_method_3_code 9 = .ok (.aload_n 1, 1) := by decide +kernel
theorem d_Piece_isOn11_10 : decode prog_4_method_3_code 10 = .ok (.invokevirtual 20, 3) := by decide +kernel
theorem d_Piece_isOn11_13 : decode prog_4_method_3_code 13 = .ok (.ifCond .ne 5, 3) := by decide +kernel
theorem d_Piece_isOn11_16 : decode prog_4_method_3_code 16 = .ok (.iconst 0, 1) := by decide +kernel
theorem d_Piece_isOn11_17 : decode prog_4_method_3_code 17 = .ok (.ireturn, 1) := by decide +kernel
theorem d_Piece_isOn11_18 : decode prog_4_method_3_code 18 = .ok (.aload_n 1, 1) := by decide +kernel
theorem d_Piece_isOn11_19 : decode prog_4_method_3_code 19 = .ok (.getfield 26, 3) := by decide +kernel
theorem d_Piece_isOn11_22 : decode prog_4_method_3_code 22 = .ok (.astore_n 1, 1) := by decide +kernel
theorem d_Piece_isOn11_23 : decode prog_4_method_3_code 23 = .ok (.goto (-18), 3) := by decide +kernel
theorem d_Piece_isOn11_26 : decode prog_4_method_3_code 26 = .ok (.iconst 1, 1) := by decide +kernel
theorem d_Piece_isOn11_27 : decode prog_4_method_3_code 27 = .ok (.ireturn, 1) := by decide +kernel
set_option maxRecDepth 100000 in
set_option maxHeartbeats 4000000 in
theorem cm_Piece_isOn11 {l : Launch} {S0 : State} {b : Nat} {D : va_G} {dT : Nat → ClassId} (hE : vEnv S0 b D dT) {h0 : vH} {a cb ce : Nat} {ad va : Nat → Nat} {op nu vd : Nat → Int32} {nw : Nat → Int64} {u1 u2 u3 u4 : Nat → Value} {r1 r2 r3 r4 : Value} (hcb : cb ≤ ce) (hC : ∀ k, cb ≤ k → k < ce → h0 (ad k) = some (eCon (va k) (op k) (nu k) (if cb < k then some (ad (k - 1)) else none)) ∧ h0 (va k) = some (.inr (8, [u1 k, u2 k, u3 k, u4 k, .long (nw k), .int (vd k)]))) (ka : h0 a = some (.inr (11, [r1, r2, r3, r4, va_rf (if cb < ce then some (ad (ce - 1)) else none)]))) : vMi l S0 D vcl GT y_Piece_isOn prog_4_method_3_code 2 (some .boolean) 1 20 0 0 [.ref a] h0 (fun r h' => h' = h0 ∧ r = bI (allB (fun j => hlB (vd (cb + j)) (op (cb + j)) (nw (cb + j)) (nu (cb + j)).toInt64) (ce - cb))) := by
  unfold vMi
  refine vM_ofQ hE.1 (by decide) (Nat.le_of_ble_eq_true rfl) (fun p e s m args below meth c ls Q hQ C hr hlk hnm X hl => ?_)
  have C : vC p s m _ c _ _ "MenuScreens$Piece" GT D vcl (vty dT) := C
  have hx := C.1.1
  have hb := C.1.2.1
  obtain ⟨H, eH⟩ : ∃ z, z = s.heap := ⟨_, rfl⟩
  obtain ⟨locs, elocs⟩ : ∃ z : List Loc, z = [] := ⟨_, rfl⟩
  rw [← eH, ← elocs] at X
  rw [← eH, ← elocs]
  clear eH elocs
  have hl : lv_has ls 2 [(0, .ref a)] := hl
  refine lv_aload_n hx hb d_Piece_isOn11_0 rfl (lv_at hl 0 rfl) ?_
  refine mv_get C X ka 4 f_3_16_11 (v := va_rf (if cb < ce then some (ad (ce - 1)) else none)) rfl d_Piece_isOn11_1 ?_
  by_cases hk : cb < ce
  · rw [if_pos hk]
    change W _ _ _ _ _ _ _ _ _ _ _ _ _ _ _ (F0 _ _ _ (.ref (ad (ce - 1)) :: _))
    refine lv_astore_n (lv' := [(1, .ref (ad (ce - 1))), (0, .ref a)]) hx hb d_Piece_isOn11_4 rfl hl (by decide) rfl (fun ls hl => ?_)
    have lp : ∀ (n_lp : Nat) (k : Nat) (ls : Array Slot) (H : Heap) (locs : List Loc), (cb < k) → (k ≤ ce) → (∀ j, k ≤ j → j < ce → hlB (vd j) (op j) (nw j) (nu j).toInt64 = true) → (k - cb) < n_lp → vO S0 D vcl h0 s H locs → lv_has ls 2 [(1, .ref (ad (k - 1))), (0, .ref a)] → W p l e (vRm 1 20 0 0) s m args below meth c H locs 0 0 Q (F0 m 5 ls []) := by
      intro n_lp
      induction n_lp with
      | zero => intros; exact absurd (by assumption) (Nat.not_lt_zero _)
      | succ n_lp ih_lp =>
        intro k ls H locs hk0 hk2 ha hmu_lp X hl
        refine lv_aload_n hx hb d_Piece_isOn11_5 rfl (lv_at hl 0 rfl) ?_
        refine lv_ifnull hx hb d_Piece_isOn11_6 ?_
        have hc1 := (hC (k - 1) (by omega) (by omega)).1
        have hc2 := (hC (k - 1) (by omega) (by omega)).2
        refine lv_aload_n hx hb d_Piece_isOn11_9 rfl (lv_at hl 0 rfl) ?_
        refine mv_bi X (mv_rV (rest := []) (As := []) gt_good C X k_3_20 (cm_Condition_holds hE hc1 hc2) hc1 rfl rfl ⟨Nat.le_of_ble_eq_true rfl, Nat.le_of_ble_eq_true rfl⟩ rfl hl.1 rfl (Nat.le_of_ble_eq_true rfl) d_Piece_isOn11_10 ⟨Nat.zero_le _, Nat.zero_le _⟩) (fun r1 hN H locs hp X => ?_)
        obtain ⟨eh, er⟩ := hp
        replace eh := eh.symm
        subst eh
        refine lv_if_ne (tgt := 18) hx hb d_Piece_isOn11_13 (by decide) (fun c2 => ?_) (fun c2 => ?_)
        · skip
          have hd : hlB (vd (k - 1)) (op (k - 1)) (nw (k - 1)) (nu (k - 1)).toInt64 = true := bI_n (fun z => c2 (er.trans z))
          refine lv_aload_n hx hb d_Piece_isOn11_18 rfl (lv_at hl 0 rfl) ?_
          refine mv_get C X hc1 3 f_3_26_12 (v := va_rf (if cb < k - 1 then some (ad (k - 1 - 1)) else none)) rfl d_Piece_isOn11_19 ?_
          by_cases hk : cb < k - 1
          · rw [if_pos hk]
            change W _ _ _ _ _ _ _ _ _ _ _ _ _ _ _ (F0 _ _ _ (.ref (ad (k - 1 - 1)) :: _))
            refine lv_astore_n (lv' := [(1, .ref (ad (k - 1 - 1))), (0, .ref a)]) hx hb d_Piece_isOn11_22 rfl hl (by decide) rfl (fun ls hl => ?_)
            refine lv_goto (tgt := 5) hx hb d_Piece_isOn11_23 (by decide) ?_
            exact ih_lp (k - 1) ls _ _ hk (by omega) (fun j q1 q2 => by
                by_cases z : j = k - 1
                · rw [z]; exact hd
                · exact ha j (by omega) q2) (by omega) X (lv_sub hl [0, 1] rfl)
          · rw [if_neg hk]
            change W _ _ _ _ _ _ _ _ _ _ _ _ _ _ _ (F0 _ _ _ (.null :: _))
            refine lv_astore_nN (lv' := [(1, .null), (0, .ref a)]) hx hb d_Piece_isOn11_22 rfl hl (by decide) rfl (fun ls hl => ?_)
            refine lv_goto (tgt := 5) hx hb d_Piece_isOn11_23 (by decide) ?_
            refine lv_aload_nN hx hb d_Piece_isOn11_5 rfl (lv_at hl 0 rfl) ?_
            refine lv_ifnullN (tgt := 26) hx hb d_Piece_isOn11_6 (by decide) ?_
            refine lv_iconst (v := 1) hx hb d_Piece_isOn11_26 (by decide) ?_
            exact mq_iret hQ C X hr rfl hlk (⟨rfl, by
                rw [allB_t (ce - cb) (fun j hj => ?_)]
                · rfl
                · show hlB (vd (cb + j)) (op (cb + j)) (nw (cb + j)) (nu (cb + j)).toInt64 = true
                  by_cases z : cb + j = k - 1
                  · rw [z]; exact hd
                  · exact ha (cb + j) (by omega) (by omega)⟩) (by omega) (by omega) d_Piece_isOn11_27
        · skip
          refine lv_iconst (v := 0) hx hb d_Piece_isOn11_16 (by decide) ?_
          exact mq_iret hQ C X hr rfl hlk (⟨rfl, by rw [allB_f (k := k - 1 - cb) (ce - cb) (by omega) (by show hlB (vd (cb + (k - 1 - cb))) (op (cb + (k - 1 - cb))) (nw (cb + (k - 1 - cb))) (nu (cb + (k - 1 - cb))).toInt64 = false; rw [show cb + (k - 1 - cb) = k - 1 by omega]; exact bI_0 (er.symm.trans c2))]; rfl⟩) (by omega) (by omega) d_Piece_isOn11_17
    exact lp (ce - cb + 1) ce ls _ _ hk (Nat.le_refl _) (fun j q1 q2 => absurd q2 (Nat.not_lt.mpr q1)) (Nat.lt_succ_self _) X (lv_sub hl [0, 1] rfl)
  · rw [if_neg hk]
    change W _ _ _ _ _ _ _ _ _ _ _ _ _ _ _ (F0 _ _ _ (.null :: _))
    refine lv_astore_nN (lv' := [(1, .null), (0, .ref a)]) hx hb d_Piece_isOn11_4 rfl hl (by decide) rfl (fun ls hl => ?_)
    refine lv_aload_nN hx hb d_Piece_isOn11_5 rfl (lv_at hl 0 rfl) ?_
    refine lv_ifnullN (tgt := 26) hx hb d_Piece_isOn11_6 (by decide) ?_
    refine lv_iconst (v := 1) hx hb d_Piece_isOn11_26 (by decide) ?_
    exact mq_iret hQ C X hr rfl hlk (⟨rfl, by rw [show ce - cb = 0 by omega]; rfl⟩) (by omega) (by omega) d_Piece_isOn11_27
