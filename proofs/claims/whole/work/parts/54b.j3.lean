theorem d_AbstractStringBuilder_init_0 : decode prog_15_method_2_code 0 = .ok (.aload_n 0, 1) := by decide +kernel
theorem d_AbstractStringBuilder_init_1 : decode prog_15_method_2_code 1 = .ok (.invokespecial 3, 3) := by decide +kernel
theorem d_AbstractStringBuilder_init_4 : decode prog_15_method_2_code 4 = .ok (.getstatic 18, 3) := by decide +kernel
theorem d_AbstractStringBuilder_init_7 : decode prog_15_method_2_code 7 = .ok (.ifCond .eq 18, 3) := by decide +kernel
theorem d_AbstractStringBuilder_init_10 : decode prog_15_method_2_code 10 = .ok (.aload_n 0, 1) := by decide +kernel
theorem d_AbstractStringBuilder_init_11 : decode prog_15_method_2_code 11 = .ok (.iload_n 1, 1) := by decide +kernel
theorem d_AbstractStringBuilder_init_12 : decode prog_15_method_2_code 12 = .ok (.newarray .byte, 2) := by decide +kernel
theorem d_AbstractStringBuilder_init_14 : decode prog_15_method_2_code 14 = .ok (.putfield 15, 3) := by decide +kernel
theorem d_AbstractStringBuilder_init_17 : decode prog_15_method_2_code 17 = .ok (.aload_n 0, 1) := by decide +kernel
theorem d_AbstractStringBuilder_init_18 : decode prog_15_method_2_code 18 = .ok (.iconst 0, 1) := by decide +kernel
theorem d_AbstractStringBuilder_init_19 : decode prog_15_method_2_code 19 = .ok (.putfield 22, 3) := by decide +kernel
theorem d_AbstractStringBuilder_init_22 : decode prog_15_method_2_code 22 = .ok (.goto 16, 3) := by decide +kernel
theorem d_AbstractStringBuilder_init_38 : decode prog_15_method_2_code 38 = .ok (.return_, 1) := by decide +kernel
set_option maxRecDepth 100000 in
set_option maxHeartbeats 4000000 in
theorem cm_AbstractStringBuilder_init {l : Launch} {S0 : State} {b : Nat} {D : va_G} {dT : Nat → ClassId} (hE : vEnv S0 b D dT) {dE mO : Nat} (hJ : vJ S0 dE mO) {h0 : vH} {a : Nat} (ka : h0 a = some (.inr (1, [.null, .int 0, .int 0, .int 0]))) (wa : S0.heap.size ≤ a) : vMv l S0 D vcl GT y_AbstractStringBuilder_init prog_15_method_2_code 2 none 1 12 1 16 [.ref a, .int 16] h0 (fun h' => ∃ q, h0 q = none ∧ S0.heap.size ≤ q ∧ h' = vup (vup h0 q (.inl (dT 2, 16, .inl (fun _ => 0)))) a (.inr (1, [.ref q, .int 0, .int 0, .int 0]))) := by
  unfold vMv
  refine vM_ofQ hE.1 (by decide) (Nat.le_of_ble_eq_true rfl) (fun p e s m args below meth c ls Q hQ C hr hlk hnm X hl => ?_)
  have C : vC p s m _ c _ _ "java/lang/AbstractStringBuilder" GT D vcl (vty dT) := C
  have hx := C.1.1
  have hb := C.1.2.1
  obtain ⟨H, eH⟩ : ∃ z, z = s.heap := ⟨_, rfl⟩
  obtain ⟨locs, elocs⟩ : ∃ z : List Loc, z = [] := ⟨_, rfl⟩
  rw [← eH, ← elocs] at X
  rw [← eH, ← elocs]
  clear eH elocs
  have hl : lv_has ls 2 [(0, .ref a), (1, .int 16)] := hl
  refine lv_aload_n hx hb d_AbstractStringBuilder_init_0 rfl (lv_at hl 0 rfl) ?_
  refine mv_obj C hl.1 ⟨gt_1 44 (by decide +kernel) rfl, gt_1 34 (by decide +kernel) rfl, gt_1 35 (rfl) rfl⟩ (Nat.le_of_ble_eq_true rfl) (Nat.le_of_ble_eq_true rfl) d_AbstractStringBuilder_init_1 ?_
  refine mv_gets C X hJ.1 (gt_1 45 (by decide +kernel) rfl) rfl d_AbstractStringBuilder_init_4 ?_
  refine lv_if_eq (tgt := 25) hx hb d_AbstractStringBuilder_init_7 (by decide) (fun z => absurd z (by decide)) (fun c1 => ?_)
  refine lv_aload_n hx hb d_AbstractStringBuilder_init_10 rfl (lv_at hl 0 rfl) ?_
  refine lv_iload_n hx hb d_AbstractStringBuilder_init_11 rfl (lv_at hl 1 rfl) ?_
  refine mv_newa C X (gt_1 68 (by decide +kernel) rfl) (ty := .byte) rfl 2 rfl 16 (a0 := (16, .inl (fun _ => 0))) (fun _ => rfl) rfl (by omega) (by show 16 * 1 ≤ _; omega) (by show 0 + 1 ≤ 1; omega) (by show 0 + 16 ≤ 16; omega) d_AbstractStringBuilder_init_12 (fun q2 H z_q2 w_q2 X => ?_)
  have n_a_q2 : a ≠ q2 := vnf ka z_q2
  have X : vO S0 D vcl (vup h0 q2 (.inl (dT 2, 16, .inl (fun _ => 0)))) s H locs := X
  refine mv_put C X ((vup_n _ _ n_a_q2).trans ka) wa 0 p_13_15_1 rfl rfl (Nat.le_of_ble_eq_true rfl) d_AbstractStringBuilder_init_14 (fun H locs X => ?_)
  have X : vO S0 D vcl (vup (vup h0 q2 (.inl (dT 2, 16, .inl (fun _ => 0)))) a (.inr (1, [.ref q2, .int 0, .int 0, .int 0]))) s H locs := X
  refine lv_aload_n hx hb d_AbstractStringBuilder_init_17 rfl (lv_at hl 0 rfl) ?_
  refine lv_iconst (v := 0) hx hb d_AbstractStringBuilder_init_18 (by decide) ?_
  refine mv_put C X (vup_s _ _ _) wa 1 p_13_22_1 rfl rfl (Nat.le_of_ble_eq_true rfl) d_AbstractStringBuilder_init_19 (fun H locs X => ?_)
  rw [vup_u] at X
  have X : vO S0 D vcl (vup (vup h0 q2 (.inl (dT 2, 16, .inl (fun _ => 0)))) a (.inr (1, [.ref q2, .int 0, .int 0, .int 0]))) s H locs := X
  refine lv_goto (tgt := 38) hx hb d_AbstractStringBuilder_init_22 (by decide) ?_
  exact mq_vret hQ C X hr hlk (⟨q2, z_q2, w_q2, rfl⟩) (by omega) (by omega) d_AbstractStringBuilder_init_38
theorem d_StringBuilder_init_0 : decode prog_21_method_1_code 0 = .ok (.aload_n 0, 1) := by decide +kernel
theorem d_StringBuilder_init_1 : decode prog_21_method_1_code 1 = .ok (.bipush 16, 2) := by decide +kernel
theorem d_StringBuilder_init_3 : decode prog_21_method_1_code 3 = .ok (.invokespecial 1, 3) := by decide +kernel
theorem d_StringBuilder_init_6 : decode prog_21_method_1_code 6 = .ok (.return_, 1) := by decide +kernel
set_option maxRecDepth 100000 in
set_option maxHeartbeats 4000000 in
theorem cm_StringBuilder_init {l : Launch} {S0 : State} {b : Nat} {D : va_G} {dT : Nat → ClassId} (hE : vEnv S0 b D dT) {dE mO : Nat} (hJ : vJ S0 dE mO) {h0 : vH} {a : Nat} (ka : h0 a = some (.inr (1, [.null, .int 0, .int 0, .int 0]))) (wa : S0.heap.size ≤ a) : vMv l S0 D vcl GT y_StringBuilder_init prog_21_method_1_code 1 none 2 33 1 16 [.ref a] h0 (fun h' => ∃ q, h0 q = none ∧ S0.heap.size ≤ q ∧ h' = vup (vup h0 q (.inl (dT 2, 16, .inl (fun _ => 0)))) a (.inr (1, [.ref q, .int 0, .int 0, .int 0]))) := by
  unfold vMv
  refine vM_ofQ hE.1 (by decide) (Nat.le_of_ble_eq_true rfl) (fun p e s m args below meth c ls Q hQ C hr hlk hnm X hl => ?_)
  have C : vC p s m _ c _ _ "java/lang/StringBuilder" GT D vcl (vty dT) := C
  have hx := C.1.1
  have hb := C.1.2.1
  obtain ⟨H, eH⟩ : ∃ z, z = s.heap := ⟨_, rfl⟩
  obtain ⟨locs, elocs⟩ : ∃ z : List Loc, z = [] := ⟨_, rfl⟩
  rw [← eH, ← elocs] at X
  rw [← eH, ← elocs]
  clear eH elocs
  have hl : lv_has ls 1 [(0, .ref a)] := hl
  refine lv_aload_n hx hb d_StringBuilder_init_0 rfl (lv_at hl 0 rfl) ?_
  refine lv_bipush (v := 16) hx hb d_StringBuilder_init_1 (by decide) ?_
  refine mv_bv X (mv_rI (rest := []) (As := [.int 16]) gt_good C X k_18_1 (cm_AbstractStringBuilder_init hE hJ ka wa) ⟨Nat.le_of_ble_eq_true rfl, Nat.le_of_ble_eq_true rfl⟩ rfl hl.1 rfl (Nat.le_of_ble_eq_true rfl) d_StringBuilder_init_3 ⟨by show 0 + 1 ≤ 1; omega, by show 0 + 16 ≤ 16; omega⟩) (fun hN H locs hp X => ?_)
  have hq := hp
  exact mq_vret hQ C X hr hlk hq (by omega) (by omega) d_StringBuilder_init_6
theorem d_AbstractStringBuilder_length_0 : decode prog_15_method_6_code 0 = .ok (.aload_n 0, 1) := by decide +kernel
theorem d_AbstractStringBuilder_length_1 : decode prog_15_method_6_code 1 = .ok (.getfield 79, 3) := by decide +kernel
theorem d_AbstractStringBuilder_length_4 : decode prog_15_method_6_code 4 = .ok (.ireturn, 1) := by decide +kernel
set_option maxRecDepth 100000 in
set_option maxHeartbeats 4000000 in
theorem cm_AbstractStringBuilder_length {l : Launch} {S0 : State} {b : Nat} {D : va_G} {dT : Nat → ClassId} (hE : vEnv S0 b D dT) {h0 : vH} {a av n : Nat} {ml : Int32} (ka : h0 a = some (.inr (1, [.ref av, .int 0, .int ml, .int (nI n)]))) : vMi l S0 D vcl GT y_AbstractStringBuilder_length prog_15_method_6_code 1 (some .int) 0 0 0 0 [.ref a] h0 (fun r h' => h' = h0 ∧ r = nI n) := by
  unfold vMi
  refine vM_ofQ hE.1 (by decide) (Nat.le_of_ble_eq_true rfl) (fun p e s m args below meth c ls Q hQ C hr hlk hnm X hl => ?_)
  have C : vC p s m _ c _ _ "java/lang/AbstractStringBuilder" GT D vcl (vty dT) := C
  have hx := C.1.1
  have hb := C.1.2.1
  obtain ⟨H, eH⟩ : ∃ z, z = s.heap := ⟨_, rfl⟩
  obtain ⟨locs, elocs⟩ : ∃ z : List Loc, z = [] := ⟨_, rfl⟩
  rw [← eH, ← elocs] at X
  rw [← eH, ← elocs]
  clear eH elocs
  have hl : lv_has ls 1 [(0, .ref a)] := hl
  refine lv_aload_n hx hb d_AbstractStringBuilder_length_0 rfl (lv_at hl 0 rfl) ?_
  refine mv_get C X ka 3 f_13_79_1 (v := .int (nI n)) rfl d_AbstractStringBuilder_length_1 ?_
  exact mq_iret hQ C X hr rfl hlk (⟨rfl, rfl⟩) (by omega) (by omega) d_AbstractStringBuilder_length_4
theorem d_StringBuilder_length_0 : decode prog_21_method_93_code 0 = .ok (.aload_n 0, 1) := by decide +kernel
theorem d_StringBuilder_length_1 : decode prog_21_method_93_code 1 = .ok (.invokespecial 343, 3) := by decide +kernel
theorem d_StringBuilder_length_4 : decode prog_21_method_93_code 4 = .ok (.ireturn, 1) := by decide +kernel
set_option maxRecDepth 100000 in
set_option maxHeartbeats 4000000 in
theorem cm_StringBuilder_length {l : Launch} {S0 : State} {b : Nat} {D : va_G} {dT : Nat → ClassId} (hE : vEnv S0 b D dT) {h0 : vH} {a av n : Nat} {ml : Int32} (ka : h0 a = some (.inr (1, [.ref av, .int 0, .int ml, .int (nI n)]))) : vMi l S0 D vcl GT y_StringBuilder_length prog_21_method_93_code 1 (some .int) 1 20 0 0 [.ref a] h0 (fun r h' => h' = h0 ∧ r = nI n) := by
  unfold vMi
  refine vM_ofQ hE.1 (by decide) (Nat.le_of_ble_eq_true rfl) (fun p e s m args below meth c ls Q hQ C hr hlk hnm X hl => ?_)
  have C : vC p s m _ c _ _ "java/lang/StringBuilder" GT D vcl (vty dT) := C
  have hx := C.1.1
  have hb := C.1.2.1
  obtain ⟨H, eH⟩ : ∃ z, z = s.heap := ⟨_, rfl⟩
  obtain ⟨locs, elocs⟩ : ∃ z : List Loc, z = [] := ⟨_, rfl⟩
  rw [← eH, ← elocs] at X
  rw [← eH, ← elocs]
  clear eH elocs
  have hl : lv_has ls 1 [(0, .ref a)] := hl
  refine lv_aload_n hx hb d_StringBuilder_length_0 rfl (lv_at hl 0 rfl) ?_
  refine mv_bi X (mv_rSU (rest := []) (As := []) gt_good C X (y := y_AbstractStringBuilder_length) (n := 0) ⟨gt_1 232 (by decide +kernel) rfl, gt_6 139 (by decide +kernel) rfl, gt_1 67 (by decide +kernel) rfl, gt_1 233 (by decide +kernel) rfl, gt_1 2 (by decide +kernel) rfl, gt_1 234 (rfl) rfl, by decide +kernel⟩ (cm_AbstractStringBuilder_length hE ka) ka rfl ⟨Nat.le_of_ble_eq_true rfl, Nat.le_of_ble_eq_true rfl⟩ rfl hl.1 rfl (Nat.le_of_ble_eq_true rfl) d_StringBuilder_length_1 ⟨Nat.zero_le _, Nat.zero_le _⟩) (fun r1 hN H locs hp X => ?_)
  obtain ⟨eh, er⟩ := hp
  replace eh := eh.symm
  replace er := er.symm
  subst eh er
  exact mq_iret hQ C X hr rfl hlk (⟨rfl, rfl⟩) (by omega) (by omega) d_StringBuilder_length_4
theorem d_AbstractStringBuilder_isLatin1_0 : decode prog_15_method_68_code 0 = .ok (.getstatic 18, 3) := by decide +kernel
theorem d_AbstractStringBuilder_isLatin1_3 : decode prog_15_method_68_code 3 = .ok (.ifCond .eq 14, 3) := by decide +kernel
theorem d_AbstractStringBuilder_isLatin1_6 : decode prog_15_method_68_code 6 = .ok (.aload_n 0, 1) := by decide +kernel
theorem d_AbstractStringBuilder_isLatin1_7 : decode prog_15_method_68_code 7 = .ok (.getfield 22, 3) := by decide +kernel
theorem d_AbstractStringBuilder_isLatin1_10 : decode prog_15_method_68_code 10 = .ok (.ifCond .ne 7, 3) := by decide +kernel
theorem d_AbstractStringBuilder_isLatin1_13 : decode prog_15_method_68_code 13 = .ok (.iconst 1, 1) := by decide +kernel
theorem d_AbstractStringBuilder_isLatin1_14 : decode prog_15_method_68_code 14 = .ok (.goto 4, 3) := by decide +kernel
theorem d_AbstractStringBuilder_isLatin1_18 : decode prog_15_method_68_code 18 = .ok (.ireturn, 1) := by decide +kernel
set_option maxRecDepth 100000 in
set_option maxHeartbeats 4000000 in
theorem cm_AbstractStringBuilder_isLatin1 {l : Launch} {S0 : State} {b : Nat} {D : va_G} {dT : Nat → ClassId} (hE : vEnv S0 b D dT) {dE mO : Nat} (hJ : vJ S0 dE mO) {h0 : vH} {a av n : Nat} {ml : Int32} (ka : h0 a = some (.inr (1, [.ref av, .int 0, .int ml, .int (nI n)]))) : vMi l S0 D vcl GT y_AbstractStringBuilder_isLatin1 prog_15_method_68_code 1 (some .boolean) 0 0 0 0 [.ref a] h0 (fun r h' => h' = h0 ∧ r = 1) := by
  unfold vMi
  refine vM_ofQ hE.1 (by decide) (Nat.le_of_ble_eq_true rfl) (fun p e s m args below meth c ls Q hQ C hr hlk hnm X hl => ?_)
  have C : vC p s m _ c _ _ "java/lang/AbstractStringBuilder" GT D vcl (vty dT) := C
  have hx := C.1.1
  have hb := C.1.2.1
  obtain ⟨H, eH⟩ : ∃ z, z = s.heap := ⟨_, rfl⟩
  obtain ⟨locs, elocs⟩ : ∃ z : List Loc, z = [] := ⟨_, rfl⟩
  rw [← eH, ← elocs] at X
  rw [← eH, ← elocs]
  clear eH elocs
  have hl : lv_has ls 1 [(0, .ref a)] := hl
  refine mv_gets C X hJ.1 (gt_1 45 (by decide +kernel) rfl) rfl d_AbstractStringBuilder_isLatin1_0 ?_
  refine lv_if_eq (tgt := 17) hx hb d_AbstractStringBuilder_isLatin1_3 (by decide) (fun z => absurd z (by decide)) (fun c1 => ?_)
  refine lv_aload_n hx hb d_AbstractStringBuilder_isLatin1_6 rfl (lv_at hl 0 rfl) ?_
  refine mv_get C X ka 1 f_13_22_1 (v := .int 0) rfl d_AbstractStringBuilder_isLatin1_7 ?_
  refine lv_if_ne (tgt := 17) hx hb d_AbstractStringBuilder_isLatin1_10 (by decide) (fun z => absurd z (fun q => q rfl)) (fun c2 => ?_)
  refine lv_iconst (v := 1) hx hb d_AbstractStringBuilder_isLatin1_13 (by decide) ?_
  refine lv_goto (tgt := 18) hx hb d_AbstractStringBuilder_isLatin1_14 (by decide) ?_
  exact mq_iret hQ C X hr rfl hlk (⟨rfl, rfl⟩) (by omega) (by omega) d_AbstractStringBuilder_isLatin1_18
theorem d_AbstractStringBuilder_getValue_0 : decode prog_15_method_64_code 0 = .ok (.aload_n 0, 1) := by decide +kernel
theorem d_AbstractStringBuilder_getValue_1 : decode prog_15_method_64_code 1 = .ok (.getfield 15, 3) := by decide +kernel
theorem d_AbstractStringBuilder_getValue_4 : decode prog_15_method_64_code 4 = .ok (.areturn, 1) := by decide +kernel
set_option maxRecDepth 100000 in
set_option maxHeartbeats 4000000 in
theorem cm_AbstractStringBuilder_getValue {l : Launch} {S0 : State} {b : Nat} {D : va_G} {dT : Nat → ClassId} (hE : vEnv S0 b D dT) {h0 : vH} {a av n : Nat} {ml : Int32} (ka : h0 a = some (.inr (1, [.ref av, .int 0, .int ml, .int (nI n)]))) : vMq l S0 D vcl GT y_AbstractStringBuilder_getValue prog_15_method_64_code 1 (some (.array .byte)) 0 0 0 0 [.ref a] h0 (fun r h' => h' = h0 ∧ r = some av) := by
  unfold vMq
  refine vM_ofQ hE.1 (by decide) (Nat.le_of_ble_eq_true rfl) (fun p e s m args below meth c ls Q hQ C hr hlk hnm X hl => ?_)
  have C : vC p s m _ c _ _ "java/lang/AbstractStringBuilder" GT D vcl (vty dT) := C
  have hx := C.1.1
  have hb := C.1.2.1
  obtain ⟨H, eH⟩ : ∃ z, z = s.heap := ⟨_, rfl⟩
  obtain ⟨locs, elocs⟩ : ∃ z : List Loc, z = [] := ⟨_, rfl⟩
  rw [← eH, ← elocs] at X
  rw [← eH, ← elocs]
  clear eH elocs
  have hl : lv_has ls 1 [(0, .ref a)] := hl
  refine lv_aload_n hx hb d_AbstractStringBuilder_getValue_0 rfl (lv_at hl 0 rfl) ?_
  refine mv_get C X ka 0 f_13_15_1 (v := .ref av) rfl d_AbstractStringBuilder_getValue_1 ?_
  exact mq_aret (r := some av) hQ C X hr (Or.inr ⟨_, rfl⟩) hlk (⟨rfl, rfl⟩) (by omega) (by omega) d_AbstractStringBuilder_getValue_4
theorem d_StringLatin1_canEncode_0 : decode prog_22_method_3_code 0 = .ok (.iload_n 0, 1) := by decide +kernel
theorem d_StringLatin1_canEncode_1 : decode prog_22_method_3_code 1 = .ok (.sipush 255, 3) := by decide +kernel
theorem d_StringLatin1_canEncode_4 : decode prog_22_method_3_code 4 = .ok (.if_icmp .gt 7, 3) := by decide +kernel
theorem d_StringLatin1_canEncode_7 : decode prog_22_method_3_code 7 = .ok (.iconst 1, 1) := by decide +kernel
theorem d_StringLatin1_canEncode_8 : decode prog_22_method_3_code 8 = .ok (.goto 4, 3) := by decide +kernel
theorem d_StringLatin1_canEncode_12 : decode prog_22_method_3_code 12 = .ok (.ireturn, 1) := by decide +kernel
set_option maxRecDepth 100000 in
set_option maxHeartbeats 4000000 in
theorem cm_StringLatin1_canEncode {l : Launch} {S0 : State} {b : Nat} {D : va_G} {dT : Nat → ClassId} (hE : vEnv S0 b D dT) {h0 : vH} {c0 : Nat} (hc : c0 < 128) : vMi l S0 D vcl GT y_StringLatin1_canEncode prog_22_method_3_code 1 (some .boolean) 0 0 0 0 [.int (nI c0)] h0 (fun r h' => h' = h0 ∧ r = 1) := by
  unfold vMi
  refine vM_ofQ hE.1 (by decide) (Nat.le_of_ble_eq_true rfl) (fun p e s m args below meth c ls Q hQ C hr hlk hnm X hl => ?_)
  have C : vC p s m _ c _ _ "java/lang/StringLatin1" GT D vcl (vty dT) := C
  have hx := C.1.1
  have hb := C.1.2.1
  obtain ⟨H, eH⟩ : ∃ z, z = s.heap := ⟨_, rfl⟩
  obtain ⟨locs, elocs⟩ : ∃ z : List Loc, z = [] := ⟨_, rfl⟩
  rw [← eH, ← elocs] at X
  rw [← eH, ← elocs]
  clear eH elocs
  have hl : lv_has ls 1 [(0, .int (nI c0))] := hl
  refine lv_iload_n hx hb d_StringLatin1_canEncode_0 rfl (lv_at hl 0 rfl) ?_
  refine lv_sipush (v := 255) hx hb d_StringLatin1_canEncode_1 (by decide) ?_
  refine lv_icmp_gt (tgt := 11) hx hb d_StringLatin1_canEncode_4 (by decide) (fun z => absurd z (nI_nlt (a := 255) (by omega) (by omega))) (fun c1 => ?_)
  refine lv_iconst (v := 1) hx hb d_StringLatin1_canEncode_7 (by decide) ?_
  refine lv_goto (tgt := 12) hx hb d_StringLatin1_canEncode_8 (by decide) ?_
  exact mq_iret hQ C X hr rfl hlk (⟨rfl, rfl⟩) (by omega) (by omega) d_StringLatin1_canEncode_12
theorem d_AbstractStringBuilder_newCapacity_0 : decode prog_15_method_10_code 0 = .ok (.aload_n 0, 1) := by decide +kernel
theorem d_AbstractStringBuilder_newCapacity_1 : decode prog_15_method_10_code 1 = .ok (.getfield 15, 3) := by decide +kernel
theorem d_AbstractStringBuilder_newCapacity_4 : decode prog_15_method_10_code 4 = .ok (.arraylength, 1) := by decide +kernel
theorem d_AbstractStringBuilder_newCapacity_5 : decode prog_15_method_10_code 5 = .ok (.istore_n 2, 1) := by decide +kernel
theorem d_AbstractStringBuilder_newCapacity_6 : decode prog_15_method_10_code 6 = .ok (.iload_n 1, 1) := by decide +kernel
theorem d_AbstractStringBuilder_newCapacity_7 : decode prog_15_method_10_code 7 = .ok (.aload_n 0, 1) := by decide +kernel
theorem d_AbstractStringBuilder_newCapacity_8 : decode prog_15_method_10_code 8 = .ok (.getfield 22, 3) := by decide +kernel
theorem d_AbstractStringBuilder_newCapacity_11 : decode prog_15_method_10_code 11 = .ok (.ishl, 1) := by decide +kernel
theorem d_AbstractStringBuilder_newCapacity_12 : decode prog_15_method_10_code 12 = .ok (.istore_n 3, 1) := by decide +kernel
theorem d_AbstractStringBuilder_newCapacity_13 : decode prog_15_method_10_code 13 = .ok (.iload_n 3, 1) := by decide +kernel
theorem d_AbstractStringBuilder_newCapacity_14 : decode prog_15_method_10_code 14 = .ok (.iload_n 2, 1) := by decide +kernel
theorem d_AbstractStringBuilder_newCapacity_15 : decode prog_15_method_10_code 15 = .ok (.isub, 1) := by decide +kernel
theorem d_AbstractStringBuilder_newCapacity_16 : decode prog_15_method_10_code 16 = .ok (.istore 4, 2) := by decide +kernel
theorem d_AbstractStringBuilder_newCapacity_18 : decode prog_15_method_10_code 18 = .ok (.iload_n 2, 1) := by decide +kernel
theorem d_AbstractStringBuilder_newCapacity_19 : decode prog_15_method_10_code 19 = .ok (.iload 4, 2) := by decide +kernel
theorem d_AbstractStringBuilder_newCapacity_21 : decode prog_15_method_10_code 21 = .ok (.iload_n 2, 1) := by decide +kernel
theorem d_AbstractStringBuilder_newCapacity_22 : decode prog_15_method_10_code 22 = .ok (.iconst 2, 1) := by decide +kernel
theorem d_AbstractStringBuilder_newCapacity_23 : decode prog_15_method_10_code 23 = .ok (.aload_n 0, 1) := by decide +kernel
theorem d_AbstractStringBuilder_newCapacity_24 : decode prog_15_method_10_code 24 = .ok (.getfield 22, 3) := by decide +kernel
theorem d_AbstractStringBuilder_newCapacity_27 : decode prog_15_method_10_code 27 = .ok (.ishl, 1) := by decide +kernel
theorem d_AbstractStringBuilder_newCapacity_28 : decode prog_15_method_10_code 28 = .ok (.iadd, 1) := by decide +kernel
theorem d_AbstractStringBuilder_newCapacity_29 : decode prog_15_method_10_code 29 = .ok (.invokestatic 114, 3) := by decide +kernel
theorem d_AbstractStringBuilder_newCapacity_32 : decode prog_15_method_10_code 32 = .ok (.istore 5, 2) := by decide +kernel
theorem d_AbstractStringBuilder_newCapacity_34 : decode prog_15_method_10_code 34 = .ok (.iload 5, 2) := by decide +kernel
theorem d_AbstractStringBuilder_newCapacity_36 : decode prog_15_method_10_code 36 = .ok (.ldc 39, 2) := by decide +kernel
theorem d_AbstractStringBuilder_newCapacity_38 : decode prog_15_method_10_code 38 = .ok (.if_icmp .ne 13, 3) := by decide +kernel
theorem d_AbstractStringBuilder_newCapacity_51 : decode prog_15_method_10_code 51 = .ok (.iload 5, 2) := by decide +kernel
theorem d_AbstractStringBuilder_newCapacity_53 : decode prog_15_method_10_code 53 = .ok (.aload_n 0, 1) := by decide +kernel
theorem d_AbstractStringBuilder_newCapacity_54 : decode prog_15_method_10_code 54 = .ok (.getfield 22, 3) := by decide +kernel
theorem d_AbstractStringBuilder_newCapacity_57 : decode prog_15_method_10_code 57 = .ok (.ishr, 1) := by decide +kernel
theorem d_AbstractStringBuilder_newCapacity_58 : decode prog_15_method_10_code 58 = .ok (.ireturn, 1) := by decide +kernel
set_option maxRecDepth 100000 in
set_option maxHeartbeats 4000000 in
theorem cm_AbstractStringBuilder_newCapacity {l : Launch} {S0 : State} {b : Nat} {D : va_G} {dT : Nat → ClassId} (hE : vEnv S0 b D dT) {h0 : vH} {a av n cap : Nat} {ml : Int32} {f : Nat → Int32} {k0 : Nat} (hk : cap < k0) (hk2 : k0 ≤ 2 * cap + 2) (hc : cap < 2 ^ 28) (ka : h0 a = some (.inr (1, [.ref av, .int 0, .int ml, .int (nI n)]))) (wa : S0.heap.size ≤ a) (kv : h0 av = some (.inl (dT 2, cap, .inl f))) (wv : S0.heap.size ≤ av) : vMi l S0 D vcl GT y_AbstractStringBuilder_newCapacity prog_15_method_10_code 6 (some .int) 2 37 0 0 [.ref a, .int (nI k0)] h0 (fun r h' => h' = h0 ∧ r = nI (2 * cap + 2)) := by
  unfold vMi
  refine vM_ofQ hE.1 (by decide) (Nat.le_of_ble_eq_true rfl) (fun p e s m args below meth c ls Q hQ C hr hlk hnm X hl => ?_)
  have C : vC p s m _ c _ _ "java/lang/AbstractStringBuilder" GT D vcl (vty dT) := C
  have hx := C.1.1
  have hb := C.1.2.1
  obtain ⟨H, eH⟩ : ∃ z, z = s.heap := ⟨_, rfl⟩
  obtain ⟨locs, elocs⟩ : ∃ z : List Loc, z = [] := ⟨_, rfl⟩
  rw [← eH, ← elocs] at X
  rw [← eH, ← elocs]
  clear eH elocs
  have hl : lv_has ls 6 [(0, .ref a), (1, .int (nI k0))] := hl
  refine lv_aload_n hx hb d_AbstractStringBuilder_newCapacity_0 rfl (lv_at hl 0 rfl) ?_
  refine mv_get C X ka 0 f_13_15_1 (v := .ref av) rfl d_AbstractStringBuilder_newCapacity_1 ?_
  refine mv_alen C X kv 2 rfl d_AbstractStringBuilder_newCapacity_4 ?_
  refine lv_istore_n (lv' := [(2, .int (nI cap)), (0, .ref a), (1, .int (nI k0))]) hx hb d_AbstractStringBuilder_newCapacity_5 rfl hl (by decide) rfl (fun ls hl => ?_)
  refine lv_iload_n hx hb d_AbstractStringBuilder_newCapacity_6 rfl (lv_at hl 2 rfl) ?_
  refine lv_aload_n hx hb d_AbstractStringBuilder_newCapacity_7 rfl (lv_at hl 1 rfl) ?_
  refine mv_get C X ka 1 f_13_22_1 (v := .int 0) rfl d_AbstractStringBuilder_newCapacity_8 ?_
  refine lv_ishl hx hb d_AbstractStringBuilder_newCapacity_11 ?_
  rw [sb_shl0]
  refine lv_istore_n (lv' := [(3, .int (nI k0)), (2, .int (nI cap)), (0, .ref a), (1, .int (nI k0))]) hx hb d_AbstractStringBuilder_newCapacity_12 rfl hl (by decide) rfl (fun ls hl => ?_)
  refine lv_iload_n hx hb d_AbstractStringBuilder_newCapacity_13 rfl (lv_at hl 0 rfl) ?_
  refine lv_iload_n hx hb d_AbstractStringBuilder_newCapacity_14 rfl (lv_at hl 1 rfl) ?_
  refine lv_isub hx hb d_AbstractStringBuilder_newCapacity_15 ?_
  rw [nI_sub (by omega)]
  refine lv_istore (lv' := [(4, .int (nI (k0 - cap))), (3, .int (nI k0)), (2, .int (nI cap)), (0, .ref a), (1, .int (nI k0))]) hx hb d_AbstractStringBuilder_newCapacity_16 hl (by decide) rfl (fun ls hl => ?_)
  refine lv_iload_n hx hb d_AbstractStringBuilder_newCapacity_18 rfl (lv_at hl 2 rfl) ?_
  refine lv_iload hx hb d_AbstractStringBuilder_newCapacity_19 (lv_at hl 0 rfl) ?_
  refine lv_iload_n hx hb d_AbstractStringBuilder_newCapacity_21 rfl (lv_at hl 2 rfl) ?_
  refine lv_iconst (v := 2) hx hb d_AbstractStringBuilder_newCapacity_22 (by decide) ?_
  refine lv_aload_n hx hb d_AbstractStringBuilder_newCapacity_23 rfl (lv_at hl 3 rfl) ?_
  refine mv_get C X ka 1 f_13_22_1 (v := .int 0) rfl d_AbstractStringBuilder_newCapacity_24 ?_
  refine lv_ishl hx hb d_AbstractStringBuilder_newCapacity_27 ?_
  refine lv_iadd hx hb d_AbstractStringBuilder_newCapacity_28 ?_
  rw [show nI cap + ((2 : Int32) <<< ((0 : Int32) &&& 31)) = nI (cap + 2) by rw [sb_shl0]; exact nI_add cap 2]
  refine mv_bi X (mv_rS (rest := []) (As := [.int (nI cap), .int (nI (k0 - cap)), .int (nI (cap + 2))]) gt_good C X k_13_114 (cm_ArraysSupport_newLength hE (by omega) (by omega) (by omega) (by omega)) ⟨Nat.le_of_ble_eq_true rfl, Nat.le_of_ble_eq_true rfl⟩ rfl hl.1 rfl (Nat.le_of_ble_eq_true rfl) d_AbstractStringBuilder_newCapacity_29 ⟨Nat.zero_le _, Nat.zero_le _⟩) (fun r1 hN H locs hp X => ?_)
  obtain ⟨eh, er⟩ := hp
  replace eh := eh.symm
  replace er := er.symm
  subst eh er
  rw [show cap + max (k0 - cap) (cap + 2) = 2 * cap + 2 by omega]
  refine lv_istore (lv' := [(5, .int (nI (2 * cap + 2))), (4, .int (nI (k0 - cap))), (3, .int (nI k0)), (2, .int (nI cap)), (0, .ref a), (1, .int (nI k0))]) hx hb d_AbstractStringBuilder_newCapacity_32 hl (by decide) rfl (fun ls hl => ?_)
  refine lv_iload hx hb d_AbstractStringBuilder_newCapacity_34 (lv_at hl 0 rfl) ?_
  refine lv_ldc (v := 2147483647) hx hb C.1.2.2.2.1 (C.1.2.2.2.2 _ (gt_2 20 (by decide +kernel) rfl)) d_AbstractStringBuilder_newCapacity_36 ?_
  refine lv_icmp_ne (tgt := 51) hx hb d_AbstractStringBuilder_newCapacity_38 (by decide) (fun c2 => ?_) (fun z => absurd z (fun q => absurd (nI_eqI (b := 2147483647) (by omega) (by omega) q) (by omega)))
  refine lv_iload hx hb d_AbstractStringBuilder_newCapacity_51 (lv_at hl 0 rfl) ?_
  refine lv_aload_n hx hb d_AbstractStringBuilder_newCapacity_53 rfl (lv_at hl 4 rfl) ?_
  refine mv_get C X ka 1 f_13_22_1 (v := .int 0) rfl d_AbstractStringBuilder_newCapacity_54 ?_
  refine lv_ishr hx hb d_AbstractStringBuilder_newCapacity_57 ?_
  exact mq_iret hQ C X hr rfl hlk (⟨rfl, sb_shr0 _⟩) (by omega) (by omega) d_AbstractStringBuilder_newCapacity_58
theorem d_Arrays_copyOf_0 : decode prog_28_method_121_code 0 = .ok (.iload_n 1, 1) := by decide +kernel
theorem d_Arrays_copyOf_1 : decode prog_28_method_121_code 1 = .ok (.aload_n 0, 1) := by decide +kernel
theorem d_Arrays_copyOf_2 : decode prog_28_method_121_code 2 = .ok (.arraylength, 1) := by decide +kernel
theorem d_Arrays_copyOf_3 : decode prog_28_method_121_code 3 = .ok (.if_icmp .ne 11, 3) := by decide +kernel
theorem d_Arrays_copyOf_14 : decode prog_28_method_121_code 14 = .ok (.iload_n 1, 1) := by decide +kernel
theorem d_Arrays_copyOf_15 : decode prog_28_method_121_code 15 = .ok (.newarray .byte, 2) := by decide +kernel
theorem d_Arrays_copyOf_17 : decode prog_28_method_121_code 17 = .ok (.astore_n 2, 1) := by decide +kernel
theorem d_Arrays_copyOf_18 : decode prog_28_method_121_code 18 = .ok (.aload_n 0, 1) := by decide +kernel
theorem d_Arrays_copyOf_19 : decode prog_28_method_121_code 19 = .ok (.iconst 0, 1) := by decide +kernel
theorem d_Arrays_copyOf_20 : decode prog_28_method_121_code 20 = .ok (.aload_n 2, 1) := by decide +kernel
theorem d_Arrays_copyOf_21 : decode prog_28_method_121_code 21 = .ok (.iconst 0, 1) := by decide +kernel
theorem d_Arrays_copyOf_22 : decode prog_28_method_121_code 22 = .ok (.aload_n 0, 1) := by decide +kernel
theorem d_Arrays_copyOf_23 : decode prog_28_method_121_code 23 = .ok (.arraylength, 1) := by decide +kernel
theorem d_Arrays_copyOf_24 : decode prog_28_method_121_code 24 = .ok (.iload_n 1, 1) := by decide +kernel
theorem d_Arrays_copyOf_25 : decode prog_28_method_121_code 25 = .ok (.invokestatic 304, 3) := by decide +kernel
theorem d_Arrays_copyOf_28 : decode prog_28_method_121_code 28 = .ok (.invokestatic 150, 3) := by decide +kernel
theorem d_Arrays_copyOf_31 : decode prog_28_method_121_code 31 = .ok (.aload_n 2, 1) := by decide +kernel
theorem d_Arrays_copyOf_32 : decode prog_28_method_121_code 32 = .ok (.areturn, 1) := by decide +kernel
set_option maxRecDepth 100000 in
set_option maxHeartbeats 4000000 in
theorem cm_Arrays_copyOf {l : Launch} {S0 : State} {b : Nat} {D : va_G} {dT : Nat → ClassId} (hE : vEnv S0 b D dT) {h0 : vH} {av n k0 : Nat} {f : Nat → Int32} (hn : n < k0) (hk : k0 < 2 ^ 29) (hf : fitB f n) (kv : h0 av = some (.inl (dT 2, n, .inl f))) (wv : S0.heap.size ≤ av) : vMq l S0 D vcl GT y_Arrays_copyOf prog_28_method_121_code 3 (some (.array .byte)) 1 30 1 k0 [.ref av, .int (nI k0)] h0 (fun r h' => ∃ q g, r = some q ∧ h0 q = none ∧ S0.heap.size ≤ q ∧ h' = vup h0 q (.inl (dT 2, k0, .inl g)) ∧ (∀ k, k < n → g k = f k) ∧ fitB g k0) := by
  unfold vMq
  refine vM_ofQ hE.1 (by decide) (Nat.le_of_ble_eq_true rfl) (fun p e s m args below meth c ls Q hQ C hr hlk hnm X hl => ?_)
  have C : vC p s m _ c _ _ "java/util/Arrays" GT D vcl (vty dT) := C
  have hx := C.1.1
  have hb := C.1.2.1
  obtain ⟨H, eH⟩ : ∃ z, z = s.heap := ⟨_, rfl⟩
  obtain ⟨locs, elocs⟩ : ∃ z : List Loc, z = [] := ⟨_, rfl⟩
  rw [← eH, ← elocs] at X
  rw [← eH, ← elocs]
  clear eH elocs
  have hl : lv_has ls 3 [(0, .ref av), (1, .int (nI k0))] := hl
  refine lv_iload_n hx hb d_Arrays_copyOf_0 rfl (lv_at hl 1 rfl) ?_
  refine lv_aload_n hx hb d_Arrays_copyOf_1 rfl (lv_at hl 0 rfl) ?_
  refine mv_alen C X kv 2 rfl d_Arrays_copyOf_2 ?_
  refine lv_icmp_ne (tgt := 14) hx hb d_Arrays_copyOf_3 (by decide) (fun c1 => ?_) (fun z => absurd z (fun q => absurd (nI_eqI (by omega) (by omega) q) (by omega)))
  refine lv_iload_n hx hb d_Arrays_copyOf_14 rfl (lv_at hl 1 rfl) ?_
  refine mv_newa C X (gt_1 68 (by decide +kernel) rfl) (ty := .byte) rfl 2 rfl k0 (a0 := (k0, .inl (fun _ => 0))) (fun _ => rfl) rfl (by omega) (by show k0 * 1 ≤ _; omega) (by show 0 + 1 ≤ 1; omega) (by show 0 + k0 ≤ k0; omega) d_Arrays_copyOf_15 (fun q2 H z_q2 w_q2 X => ?_)
  have n_av_q2 : av ≠ q2 := vnf kv z_q2
  have X : vO S0 D vcl (vup h0 q2 (.inl (dT 2, k0, .inl (fun _ => 0)))) s H locs := X
  refine lv_astore_n (lv' := [(2, .ref q2), (0, .ref av), (1, .int (nI k0))]) hx hb d_Arrays_copyOf_17 rfl hl (by decide) rfl (fun ls hl => ?_)
  refine lv_aload_n hx hb d_Arrays_copyOf_18 rfl (lv_at hl 1 rfl) ?_
  refine lv_iconst (v := 0) hx hb d_Arrays_copyOf_19 (by decide) ?_
  refine lv_aload_n hx hb d_Arrays_copyOf_20 rfl (lv_at hl 0 rfl) ?_
  refine lv_iconst (v := 0) hx hb d_Arrays_copyOf_21 (by decide) ?_
  refine lv_aload_n hx hb d_Arrays_copyOf_22 rfl (lv_at hl 1 rfl) ?_
  refine mv_alen C X ((vup_n _ _ n_av_q2).trans kv) 2 rfl d_Arrays_copyOf_23 ?_
  refine lv_iload_n hx hb d_Arrays_copyOf_24 rfl (lv_at hl 2 rfl) ?_
  refine va_mmin hx hb (by rw [C.1.2.2.1, hl.1]) C.1.2.2.2.1 (C.1.2.2.2.2 _ (gt_2 31 (by decide +kernel) rfl)) (C.1.2.2.2.2 _ (gt_2 32 (by decide +kernel) rfl)) (C.1.2.2.2.2 _ (gt_1 15 (by decide +kernel) rfl)) (C.1.2.2.2.2 _ (gt_2 33 (rfl) rfl)) (Nat.le_of_ble_eq_true rfl) (Nat.le_of_ble_eq_true rfl) (by show (0 + 1) ≤ 1; omega) (by show (0 + k0) ≤ k0; omega) d_Arrays_copyOf_25 ?_
  rw [if_neg (nI_nlt (by omega) (by omega))]
  refine mv_copyi C X hl.1 ⟨gt_2 34 (by decide +kernel) rfl, gt_2 36 (by decide +kernel) rfl, gt_2 35 (by decide +kernel) rfl, gt_1 17 (by decide +kernel) rfl⟩ ((vup_n _ _ n_av_q2).trans kv) wv (vup_s _ _ _) w_q2 2 rfl rfl 0 0 n rfl rfl rfl (by omega) (by omega) (by omega) (by omega) (fun i hi => by rw [Nat.zero_add]; exact hf i hi) (Nat.le_of_ble_eq_true rfl) (Nat.le_of_ble_eq_true rfl) d_Arrays_copyOf_28 (fun H locs X => ?_)
  rw [vup_u] at X
  have X : vO S0 D vcl (vup h0 q2 (.inl (dT 2, k0, .inl (va_cpy f (fun _ => 0) 0 0 n)))) s H locs := X
  refine lv_aload_n hx hb d_Arrays_copyOf_31 rfl (lv_at hl 0 rfl) ?_
  exact mq_aret (r := some q2) hQ C X hr (Or.inr ⟨_, rfl⟩) hlk (⟨q2, _, rfl, z_q2, w_q2, rfl, fun k hk => by rw [pk_cpy_in (Nat.zero_le _) (by omega), Nat.sub_zero, Nat.zero_add], fun k hk => by
      by_cases z : k < n
      · rw [pk_cpy_in (Nat.zero_le _) (by omega), Nat.sub_zero, Nat.zero_add]; exact hf k z
      · rw [pk_cpy_out (Or.inr (by omega))]; exact (by decide)⟩) (by omega) (by omega) d_Arrays_copyOf_32
theorem d_ASB_ensure0_0 : decode prog_15_method_9_code 0 = .ok (.aload_n 0, 1) := by decide +kernel
theorem d_ASB_ensure0_1 : decode prog_15_method_9_code 1 = .ok (.getfield 15, 3) := by decide +kernel
theorem d_ASB_ensure0_4 : decode prog_15_method_9_code 4 = .ok (.arraylength, 1) := by decide +kernel
theorem d_ASB_ensure0_5 : decode prog_15_method_9_code 5 = .ok (.aload_n 0, 1) := by decide +kernel
theorem d_ASB_ensure0_6 : decode prog_15_method_9_code 6 = .ok (.getfield 22, 3) := by decide +kernel
theorem d_ASB_ensure0_9 : decode prog_15_method_9_code 9 = .ok (.ishr, 1) := by decide +kernel
theorem d_ASB_ensure0_10 : decode prog_15_method_9_code 10 = .ok (.istore_n 2, 1) := by decide +kernel
theorem d_ASB_ensure0_11 : decode prog_15_method_9_code 11 = .ok (.iload_n 1, 1) := by decide +kernel
theorem d_ASB_ensure0_12 : decode prog_15_method_9_code 12 = .ok (.iload_n 2, 1) := by decide +kernel
theorem d_ASB_ensure0_13 : decode prog_15_method_9_code 13 = .ok (.isub, 1) := by decide +kernel
theorem d_ASB_ensure0_14 : decode prog_15_method_9_code 14 = .ok (.ifCond .le 24, 3) := by decide +kernel
theorem d_ASB_ensure0_38 : decode prog_15_method_9_code 38 = .ok (.return_, 1) := by decide +kernel
set_option maxRecDepth 100000 in
set_option maxHeartbeats 4000000 in
theorem cm_ASB_ensure0 {l : Launch} {S0 : State} {b : Nat} {D : va_G} {dT : Nat → ClassId} (hE : vEnv S0 b D dT) {h0 : vH} {a av n cap : Nat} {ml : Int32} {f : Nat → Int32} {k0 : Nat} (hk : k0 ≤ cap) (hc : cap < 2 ^ 28) (ka : h0 a = some (.inr (1, [.ref av, .int 0, .int ml, .int (nI n)]))) (wa : S0.heap.size ≤ a) (kv : h0 av = some (.inl (dT 2, cap, .inl f))) (wv : S0.heap.size ≤ av) : vMv l S0 D vcl GT y_AbstractStringBuilder_ensureCapacityInternal prog_15_method_9_code 3 none 0 0 0 0 [.ref a, .int (nI k0)] h0 (fun h' => h' = h0) := by
  unfold vMv
  refine vM_ofQ hE.1 (by decide) (Nat.le_of_ble_eq_true rfl) (fun p e s m args below meth c ls Q hQ C hr hlk hnm X hl => ?_)
  have C : vC p s m _ c _ _ "java/lang/AbstractStringBuilder" GT D vcl (vty dT) := C
  have hx := C.1.1
  have hb := C.1.2.1
  obtain ⟨H, eH⟩ : ∃ z, z = s.heap := ⟨_, rfl⟩
  obtain ⟨locs, elocs⟩ : ∃ z : List Loc, z = [] := ⟨_, rfl⟩
  rw [← eH, ← elocs] at X
  rw [← eH, ← elocs]
  clear eH elocs
  have hl : lv_has ls 3 [(0, .ref a), (1, .int (nI k0))] := hl
  refine lv_aload_n hx hb d_ASB_ensure0_0 rfl (lv_at hl 0 rfl) ?_
  refine mv_get C X ka 0 f_13_15_1 (v := .ref av) rfl d_ASB_ensure0_1 ?_
  refine mv_alen C X kv 2 rfl d_ASB_ensure0_4 ?_
  refine lv_aload_n hx hb d_ASB_ensure0_5 rfl (lv_at hl 0 rfl) ?_
  refine mv_get C X ka 1 f_13_22_1 (v := .int 0) rfl d_ASB_ensure0_6 ?_
  refine lv_ishr hx hb d_ASB_ensure0_9 ?_
  rw [sb_shr0]
  refine lv_istore_n (lv' := [(2, .int (nI cap)), (0, .ref a), (1, .int (nI k0))]) hx hb d_ASB_ensure0_10 rfl hl (by decide) rfl (fun ls hl => ?_)
  refine lv_iload_n hx hb d_ASB_ensure0_11 rfl (lv_at hl 2 rfl) ?_
  refine lv_iload_n hx hb d_ASB_ensure0_12 rfl (lv_at hl 0 rfl) ?_
  refine lv_isub hx hb d_ASB_ensure0_13 ?_
  refine lv_if_le (tgt := 38) hx hb d_ASB_ensure0_14 (by decide) (fun c1 => ?_) (fun z => absurd (nI_dle hk (by omega)) z)
  exact mq_vret hQ C X hr hlk rfl (by omega) (by omega) d_ASB_ensure0_38
theorem d_ASB_ensure1_0 : decode prog_15_method_9_code 0 = .ok (.aload_n 0, 1) := by decide +kernel
theorem d_ASB_ensure1_1 : decode prog_15_method_9_code 1 = .ok (.getfield 15, 3) := by decide +kernel
theorem d_ASB_ensure1_4 : decode prog_15_method_9_code 4 = .ok (.arraylength, 1) := by decide +kernel
theorem d_ASB_ensure1_5 : decode prog_15_method_9_code 5 = .ok (.aload_n 0, 1) := by decide +kernel
theorem d_ASB_ensure1_6 : decode prog_15_method_9_code 6 = .ok (.getfield 22, 3) := by decide +kernel
theorem d_ASB_ensure1_9 : decode prog_15_method_9_code 9 = .ok (.ishr, 1) := by decide +kernel
theorem d_ASB_ensure1_10 : decode prog_15_method_9_code 10 = .ok (.istore_n 2, 1) := by decide +kernel
theorem d_ASB_ensure1_11 : decode prog_15_method_9_code 11 = .ok (.iload_n 1, 1) := by decide +kernel
theorem d_ASB_ensure1_12 : decode prog_15_method_9_code 12 = .ok (.iload_n 2, 1) := by decide +kernel
theorem d_ASB_ensure1_13 : decode prog_15_method_9_code 13 = .ok (.isub, 1) := by decide +kernel
theorem d_ASB_ensure1_14 : decode prog_15_method_9_code 14 = .ok (.ifCond .le 24, 3) := by decide +kernel
theorem d_ASB_ensure1_17 : decode prog_15_method_9_code 17 = .ok (.aload_n 0, 1) := by decide +kernel
theorem d_ASB_ensure1_18 : decode prog_15_method_9_code 18 = .ok (.aload_n 0, 1) := by decide +kernel
theorem d_ASB_ensure1_19 : decode prog_15_method_9_code 19 = .ok (.getfield 15, 3) := by decide +kernel
theorem d_ASB_ensure1_22 : decode prog_15_method_9_code 22 = .ok (.aload_n 0, 1) := by decide +kernel
theorem d_ASB_ensure1_23 : decode prog_15_method_9_code 23 = .ok (.iload_n 1, 1) := by decide +kernel
theorem d_ASB_ensure1_24 : decode prog_15_method_9_code 24 = .ok (.invokevirtual 104, 3) := by decide +kernel
theorem d_ASB_ensure1_27 : decode prog_15_method_9_code 27 = .ok (.aload_n 0, 1) := by decide +kernel
theorem d_ASB_ensure1_28 : decode prog_15_method_9_code 28 = .ok (.getfield 22, 3) := by decide +kernel
theorem d_ASB_ensure1_31 : decode prog_15_method_9_code 31 = .ok (.ishl, 1) := by decide +kernel
theorem d_ASB_ensure1_32 : decode prog_15_method_9_code 32 = .ok (.invokestatic 108, 3) := by decide +kernel
theorem d_ASB_ensure1_35 : decode prog_15_method_9_code 35 = .ok (.putfield 15, 3) := by decide +kernel
theorem d_ASB_ensure1_38 : decode prog_15_method_9_code 38 = .ok (.return_, 1) := by decide +kernel
set_option maxRecDepth 100000 in
set_option maxHeartbeats 4000000 in
theorem cm_ASB_ensure1 {l : Launch} {S0 : State} {b : Nat} {D : va_G} {dT : Nat → ClassId} (hE : vEnv S0 b D dT) {h0 : vH} {a av n cap : Nat} {ml : Int32} {f : Nat → Int32} {k0 : Nat} (hk : cap < k0) (hk2 : k0 ≤ 2 * cap + 2) (hc : cap < 2 ^ 27) (hf : fitB f cap) (ka : h0 a = some (.inr (1, [.ref av, .int 0, .int ml, .int (nI n)]))) (wa : S0.heap.size ≤ a) (kv : h0 av = some (.inl (dT 2, cap, .inl f))) (wv : S0.heap.size ≤ av) : vMv l S0 D vcl GT y_AbstractStringBuilder_ensureCapacityInternal prog_15_method_9_code 3 none 3 62 1 (2 * cap + 2) [.ref a, .int (nI k0)] h0 (fun h' => ∃ q g, h0 q = none ∧ S0.heap.size ≤ q ∧ h' = vup (vup h0 q (.inl (dT 2, 2 * cap + 2, .inl g))) a (.inr (1, [.ref q, .int 0, .int ml, .int (nI n)])) ∧ (∀ k, k < cap → g k = f k) ∧ fitB g (2 * cap + 2)) := by
  unfold vMv
  refine vM_ofQ hE.1 (by decide) (Nat.le_of_ble_eq_true rfl) (fun p e s m args below meth c ls Q hQ C hr hlk hnm X hl => ?_)
  have C : vC p s m _ c _ _ "java/lang/AbstractStringBuilder" GT D vcl (vty dT) := C
  have hx := C.1.1
  have hb := C.1.2.1
  obtain ⟨H, eH⟩ : ∃ z, z = s.heap := ⟨_, rfl⟩
  obtain ⟨locs, elocs⟩ : ∃ z : List Loc, z = [] := ⟨_, rfl⟩
  rw [← eH, ← elocs] at X
  rw [← eH, ← elocs]
  clear eH elocs
  have hl : lv_has ls 3 [(0, .ref a), (1, .int (nI k0))] := hl
  refine lv_aload_n hx hb d_ASB_ensure1_0 rfl (lv_at hl 0 rfl) ?_
  refine mv_get C X ka 0 f_13_15_1 (v := .ref av) rfl d_ASB_ensure1_1 ?_
  refine mv_alen C X kv 2 rfl d_ASB_ensure1_4 ?_
  refine lv_aload_n hx hb d_ASB_ensure1_5 rfl (lv_at hl 0 rfl) ?_
  refine mv_get C X ka 1 f_13_22_1 (v := .int 0) rfl d_ASB_ensure1_6 ?_
  refine lv_ishr hx hb d_ASB_ensure1_9 ?_
  rw [sb_shr0]
  refine lv_istore_n (lv' := [(2, .int (nI cap)), (0, .ref a), (1, .int (nI k0))]) hx hb d_ASB_ensure1_10 rfl hl (by decide) rfl (fun ls hl => ?_)
  refine lv_iload_n hx hb d_ASB_ensure1_11 rfl (lv_at hl 2 rfl) ?_
  refine lv_iload_n hx hb d_ASB_ensure1_12 rfl (lv_at hl 0 rfl) ?_
  refine lv_isub hx hb d_ASB_ensure1_13 ?_
  refine lv_if_le (tgt := 38) hx hb d_ASB_ensure1_14 (by decide) (fun z => absurd z (nI_dgt hk (by omega))) (fun c1 => ?_)
  refine lv_aload_n hx hb d_ASB_ensure1_17 rfl (lv_at hl 1 rfl) ?_
  refine lv_aload_n hx hb d_ASB_ensure1_18 rfl (lv_at hl 1 rfl) ?_
  refine mv_get C X ka 0 f_13_15_1 (v := .ref av) rfl d_ASB_ensure1_19 ?_
  refine lv_aload_n hx hb d_ASB_ensure1_22 rfl (lv_at hl 1 rfl) ?_
  refine lv_iload_n hx hb d_ASB_ensure1_23 rfl (lv_at hl 2 rfl) ?_
  refine mv_bi X (mv_rP (rest := [.ref av, .ref a]) (As := [.int (nI k0)]) gt_good C X (w := y_AbstractStringBuilder_isLatin1) (z := y_AbstractStringBuilder_isLatin1) (y := y_AbstractStringBuilder_newCapacity) (n := 1) ⟨gt_2 6 (by decide +kernel) rfl, gt_6 142 (by decide +kernel) rfl, gt_2 40 (by decide +kernel) rfl, rfl, va_Nw.of rfl (hE.2.1 _ (List.mem_append_right _ (List.mem_append_right _ (List.mem_append_left _ (List.mem_of_getElem? (i := 7) (by decide +kernel : tables_1_2[7]? = some _)))))), gt_2 8 (by decide +kernel) rfl, gt_1 2 (by decide +kernel) rfl, gt_2 9 (rfl) rfl, by decide +kernel⟩ (cm_AbstractStringBuilder_newCapacity hE hk hk2 (by omega) ka wa kv wv) ka rfl ⟨Nat.le_of_ble_eq_true rfl, Nat.le_of_ble_eq_true rfl⟩ rfl hl.1 rfl (Nat.le_of_ble_eq_true rfl) d_ASB_ensure1_24 ⟨Nat.zero_le _, Nat.zero_le _⟩) (fun r2 hN H locs hp X => ?_)
  obtain ⟨eh, er⟩ := hp
  replace eh := eh.symm
  replace er := er.symm
  subst eh er
  refine lv_aload_n hx hb d_ASB_ensure1_27 rfl (lv_at hl 1 rfl) ?_
  refine mv_get C X ka 1 f_13_22_1 (v := .int 0) rfl d_ASB_ensure1_28 ?_
  refine lv_ishl hx hb d_ASB_ensure1_31 ?_
  rw [sb_shl0]
  refine mv_bq X (mv_rS (rest := [.ref a]) (As := [.ref av, .int (nI (2 * cap + 2))]) gt_good C X k_13_108 (cm_Arrays_copyOf hE (k0 := 2 * cap + 2) (by omega) (by omega) hf kv wv) ⟨Nat.le_of_ble_eq_true rfl, Nat.le_of_ble_eq_true rfl⟩ rfl hl.1 rfl (Nat.le_of_ble_eq_true rfl) d_ASB_ensure1_32 ⟨by show 0 + 1 ≤ 1; omega, by show 0 + (2 * cap + 2) ≤ (2 * cap + 2); omega⟩) (fun r3 hN H locs hp X => ?_)
  obtain ⟨q, g, er, zq, wq, eh, eg, fg⟩ := hp
  subst er
  replace eh := eh.symm
  subst eh
  change W _ _ _ _ _ _ _ _ _ _ _ _ _ _ _ (F0 _ _ _ (.ref q :: _))
  have n_a_q : a ≠ q := vnf ka zq
  have n_av_q : av ≠ q := vnf kv zq
  refine mv_put C X ((vup_n _ _ n_a_q).trans ka) wa 0 p_13_15_1 rfl rfl (Nat.le_of_ble_eq_true rfl) d_ASB_ensure1_35 (fun H locs X => ?_)
  have X : vO S0 D vcl (vup (vup h0 q (.inl (dT 2, (2 * cap + 2), .inl g))) a (.inr (1, [.ref q, .int 0, .int ml, .int (nI n)]))) s H locs := X
  exact mq_vret hQ C X hr hlk (⟨q, g, zq, wq, rfl, eg, fg⟩) (by omega) (by omega) d_ASB_ensure1_38
theorem d_ASB_append0_0 : decode prog_15_method_31_code 0 = .ok (.aload_n 0, 1) := by decide +kernel
theorem d_ASB_append0_1 : decode prog_15_method_31_code 1 = .ok (.aload_n 0, 1) := by decide +kernel
theorem d_ASB_append0_2 : decode prog_15_method_31_code 2 = .ok (.getfield 79, 3) := by decide +kernel
theorem d_ASB_append0_5 : decode prog_15_method_31_code 5 = .ok (.iconst 1, 1) := by decide +kernel
theorem d_ASB_append0_6 : decode prog_15_method_31_code 6 = .ok (.iadd, 1) := by decide +kernel
theorem d_ASB_append0_7 : decode prog_15_method_31_code 7 = .ok (.invokevirtual 100, 3) := by decide +kernel
theorem d_ASB_append0_10 : decode prog_15_method_31_code 10 = .ok (.aload_n 0, 1) := by decide +kernel
theorem d_ASB_append0_11 : decode prog_15_method_31_code 11 = .ok (.invokevirtual 83, 3) := by decide +kernel
theorem d_ASB_append0_14 : decode prog_15_method_31_code 14 = .ok (.ifCond .eq 31, 3) := by decide +kernel
theorem d_ASB_append0_17 : decode prog_15_method_31_code 17 = .ok (.iload_n 1, 1) := by decide +kernel
theorem d_ASB_append0_18 : decode prog_15_method_31_code 18 = .ok (.invokestatic 191, 3) := by decide +kernel
theorem d_ASB_append0_21 : decode prog_15_method_31_code 21 = .ok (.ifCond .eq 24, 3) := by decide +kernel
theorem d_ASB_append0_24 : decode prog_15_method_31_code 24 = .ok (.aload_n 0, 1) := by decide +kernel
theorem d_ASB_append0_25 : decode prog_15_method_31_code 25 = .ok (.getfield 15, 3) := by decide +kernel
theorem d_ASB_append0_28 : decode prog_15_method_31_code 28 = .ok (.aload_n 0, 1) := by decide +kernel
theorem d_ASB_append0_29 : decode prog_15_method_31_code 29 = .ok (.dup, 1) := by decide +kernel
theorem d_ASB_append0_30 : decode prog_15_method_31_code 30 = .ok (.getfield 79, 3) := by decide +kernel
theorem d_ASB_append0_33 : decode prog_15_method_31_code 33 = .ok (.dup_x1, 1) := by decide +kernel
theorem d_ASB_append0_34 : decode prog_15_method_31_code 34 = .ok (.iconst 1, 1) := by decide +kernel
theorem d_ASB_append0_35 : decode prog_15_method_31_code 35 = .ok (.iadd, 1) := by decide +kernel
theorem d_ASB_append0_36 : decode prog_15_method_31_code 36 = .ok (.putfield 79, 3) := by decide +kernel
theorem d_ASB_append0_39 : decode prog_15_method_31_code 39 = .ok (.iload_n 1, 1) := by decide +kernel
theorem d_ASB_append0_40 : decode prog_15_method_31_code 40 = .ok (.i2b, 1) := by decide +kernel
theorem d_ASB_append0_41 : decode prog_15_method_31_code 41 = .ok (.bastore, 1) := by decide +kernel
theorem d_ASB_append0_42 : decode prog_15_method_31_code 42 = .ok (.goto 33, 3) := by decide +kernel
theorem d_ASB_append0_75 : decode prog_15_method_31_code 75 = .ok (.aload_n 0, 1) := by decide +kernel
theorem d_ASB_append0_76 : decode prog_15_method_31_code 76 = .ok (.areturn, 1) := by decide +kernel
set_option maxRecDepth 100000 in
set_option maxHeartbeats 4000000 in
theorem cm_ASB_append0 {l : Launch} {S0 : State} {b : Nat} {D : va_G} {dT : Nat → ClassId} (hE : vEnv S0 b D dT) {dE mO : Nat} (hJ : vJ S0 dE mO) {h0 : vH} {a av n cap : Nat} {ml : Int32} {f : Nat → Int32} {c0 : Nat} (hc : c0 < 128) (hcc : cap < 2 ^ 27) (hf : fitB f cap) (hnc : n < cap) (ka : h0 a = some (.inr (1, [.ref av, .int 0, .int ml, .int (nI n)]))) (wa : S0.heap.size ≤ a) (kv : h0 av = some (.inl (dT 2, cap, .inl f))) (wv : S0.heap.size ≤ av) : vMq l S0 D vcl GT y_AbstractStringBuilder_append prog_15_method_31_code 2 (some (.object "java/lang/AbstractStringBuilder")) 1 22 0 0 [.ref a, .int (nI c0)] h0 (fun r h' => r = some a ∧ sbA S0 dT h0 h' a av n cap f (nI c0) ml) := by
  unfold vMq
  refine vM_ofQ hE.1 (by decide) (Nat.le_of_ble_eq_true rfl) (fun p e s m args below meth c ls Q hQ C hr hlk hnm X hl => ?_)
  have C : vC p s m _ c _ _ "java/lang/AbstractStringBuilder" GT D vcl (vty dT) := C
  have hx := C.1.1
  have hb := C.1.2.1
  obtain ⟨H, eH⟩ : ∃ z, z = s.heap := ⟨_, rfl⟩
  obtain ⟨locs, elocs⟩ : ∃ z : List Loc, z = [] := ⟨_, rfl⟩
  rw [← eH, ← elocs] at X
  rw [← eH, ← elocs]
  clear eH elocs
  have hl : lv_has ls 2 [(0, .ref a), (1, .int (nI c0))] := hl
  refine lv_aload_n hx hb d_ASB_append0_0 rfl (lv_at hl 0 rfl) ?_
  refine lv_aload_n hx hb d_ASB_append0_1 rfl (lv_at hl 0 rfl) ?_
  refine mv_get C X ka 3 f_13_79_1 (v := .int (nI n)) rfl d_ASB_append0_2 ?_
  refine lv_iconst (v := 1) hx hb d_ASB_append0_5 (by decide) ?_
  refine lv_iadd hx hb d_ASB_append0_6 ?_
  rw [nI_1]
  refine mv_bv X (mv_rP (rest := []) (As := [.int (nI (n + 1))]) gt_good C X (w := y_AbstractStringBuilder_isLatin1) (z := y_AbstractStringBuilder_isLatin1) (y := y_AbstractStringBuilder_ensureCapacityInternal) (n := 1) ⟨gt_2 2 (by decide +kernel) rfl, gt_6 141 (by decide +kernel) rfl, gt_2 40 (by decide +kernel) rfl, rfl, va_Nw.of rfl (hE.2.1 _ (List.mem_append_right _ (List.mem_append_right _ (List.mem_append_left _ (List.mem_of_getElem? (i := 3) (by decide +kernel : tables_1_2[3]? = some _)))))), gt_2 4 (by decide +kernel) rfl, gt_1 2 (by decide +kernel) rfl, gt_2 5 (rfl) rfl, by decide +kernel⟩ (cm_ASB_ensure0 hE (k0 := n + 1) (by omega) (by omega) ka wa kv wv) ka rfl ⟨Nat.le_of_ble_eq_true rfl, Nat.le_of_ble_eq_true rfl⟩ rfl hl.1 rfl (Nat.le_of_ble_eq_true rfl) d_ASB_append0_7 ⟨Nat.zero_le _, Nat.zero_le _⟩) (fun hN H locs hp X => ?_)
  replace hp := hp.symm
  subst hp
  refine lv_aload_n hx hb d_ASB_append0_10 rfl (lv_at hl 0 rfl) ?_
  refine mv_bi X (mv_rU (rest := []) (As := []) gt_good C X ku_13_83_1 (va_Decl.of (C.1.2.2.2.2 _ (gt_2 38 (by decide +kernel) rfl)) (C.1.2.2.2.2 _ (gt_2 41 (rfl) rfl))) (cm_AbstractStringBuilder_isLatin1 hE hJ ka) ka rfl ⟨Nat.le_of_ble_eq_true rfl, Nat.le_of_ble_eq_true rfl⟩ rfl hl.1 rfl (Nat.le_of_ble_eq_true rfl) d_ASB_append0_11 ⟨Nat.zero_le _, Nat.zero_le _⟩) (fun r2 hN H locs hp X => ?_)
  obtain ⟨eh, er⟩ := hp
  replace eh := eh.symm
  replace er := er.symm
  subst eh er
  refine lv_if_eq (tgt := 45) hx hb d_ASB_append0_14 (by decide) (fun z => absurd z (by decide)) (fun c3 => ?_)
  refine lv_iload_n hx hb d_ASB_append0_17 rfl (lv_at hl 1 rfl) ?_
  refine mv_bi X (mv_rS (rest := []) (As := [.int (nI c0)]) gt_good C X k_13_191 (cm_StringLatin1_canEncode hE hc) ⟨Nat.le_of_ble_eq_true rfl, Nat.le_of_ble_eq_true rfl⟩ rfl hl.1 rfl (Nat.le_of_ble_eq_true rfl) d_ASB_append0_18 ⟨Nat.zero_le _, Nat.zero_le _⟩) (fun r4 hN H locs hp X => ?_)
  obtain ⟨eh, er⟩ := hp
  replace eh := eh.symm
  replace er := er.symm
  subst eh er
  refine lv_if_eq (tgt := 45) hx hb d_ASB_append0_21 (by decide) (fun z => absurd z (by decide)) (fun c5 => ?_)
  refine lv_aload_n hx hb d_ASB_append0_24 rfl (lv_at hl 0 rfl) ?_
  refine mv_get C X ka 0 f_13_15_1 (v := .ref av) rfl d_ASB_append0_25 ?_
  refine lv_aload_n hx hb d_ASB_append0_28 rfl (lv_at hl 0 rfl) ?_
  refine lv_dup hx hb d_ASB_append0_29 rfl ?_
  refine mv_get C X ka 3 f_13_79_1 (v := .int (nI n)) rfl d_ASB_append0_30 ?_
  refine lv_dup_x1 hx hb d_ASB_append0_33 rfl rfl ?_
  refine lv_iconst (v := 1) hx hb d_ASB_append0_34 (by decide) ?_
  refine lv_iadd hx hb d_ASB_append0_35 ?_
  rw [nI_1]
  refine mv_put C X ka wa 3 p_13_79_1 rfl rfl (Nat.le_of_ble_eq_true rfl) d_ASB_append0_36 (fun H locs X => ?_)
  have X : vO S0 D vcl (vup h0 a (.inr (1, [.ref av, .int 0, .int ml, .int (nI (n + 1))]))) s H locs := X
  refine lv_iload_n hx hb d_ASB_append0_39 rfl (lv_at hl 1 rfl) ?_
  refine lv_i2b (v := ((nI c0) : Int32).toInt8.toInt32) hx hb d_ASB_append0_40 rfl ?_
  refine mv_bast C X ((vup_n _ _ (Ne.symm (vne_oa ka kv))).trans kv) wv 2 rfl n rfl (by omega) (by omega) d_ASB_append0_41 (fun H locs X => ?_)
  have X : vO S0 D vcl (vup (vup h0 a (.inr (1, [.ref av, .int 0, .int ml, .int (nI (n + 1))]))) av (.inl (dT 2, cap, .inl (upd f n (vp_nar .byte (((nI c0) : Int32).toInt8.toInt32)))))) s H locs := X
  refine lv_goto (tgt := 75) hx hb d_ASB_append0_42 (by decide) ?_
  refine lv_aload_n hx hb d_ASB_append0_75 rfl (lv_at hl 0 rfl) ?_
  exact mq_aret (r := some a) hQ C X hr (Or.inl ⟨_, rfl⟩) hlk (⟨rfl, av, cap, _, ((vup_n _ _ (vne_oa ka kv)).trans (vup_s _ _ _)), (vup_s _ _ _), wv, (if_pos hnc).symm, by rw [pk_us]; exact bt_v hc, fun k hk => pk_un (by omega), fitB_up hf (by rw [bt_v hc]; exact bt_f hc), (vfx.rf.up (Or.inl rfl)).up (Or.inr rfl), Or.inl rfl⟩) (by omega) (by omega) d_ASB_append0_76
theorem d_SB_append0_0 : decode prog_21_method_14_code 0 = .ok (.aload_n 0, 1) := by decide +kernel
theorem d_SB_append0_1 : decode prog_21_method_14_code 1 = .ok (.iload_n 1, 1) := by decide +kernel
theorem d_SB_append0_2 : decode prog_21_method_14_code 2 = .ok (.invokespecial 50, 3) := by decide +kernel
theorem d_SB_append0_5 : decode prog_21_method_14_code 5 = .ok (.pop, 1) := by decide +kernel
theorem d_SB_append0_6 : decode prog_21_method_14_code 6 = .ok (.aload_n 0, 1) := by decide +kernel
theorem d_SB_append0_7 : decode prog_21_method_14_code 7 = .ok (.areturn, 1) := by decide +kernel
set_option maxRecDepth 100000 in
set_option maxHeartbeats 4000000 in
theorem cm_SB_append0 {l : Launch} {S0 : State} {b : Nat} {D : va_G} {dT : Nat → ClassId} (hE : vEnv S0 b D dT) {dE mO : Nat} (hJ : vJ S0 dE mO) {h0 : vH} {a av n cap : Nat} {ml : Int32} {f : Nat → Int32} {c0 : Nat} (hc : c0 < 128) (hcc : cap < 2 ^ 27) (hf : fitB f cap) (hnc : n < cap) (ka : h0 a = some (.inr (1, [.ref av, .int 0, .int ml, .int (nI n)]))) (wa : S0.heap.size ≤ a) (kv : h0 av = some (.inl (dT 2, cap, .inl f))) (wv : S0.heap.size ≤ av) : vMq l S0 D vcl GT y_StringBuilder_append prog_21_method_14_code 2 (some (.object "java/lang/StringBuilder")) 2 43 0 0 [.ref a, .int (nI c0)] h0 (fun r h' => r = some a ∧ sbA S0 dT h0 h' a av n cap f (nI c0) ml) := by
  unfold vMq
  refine vM_ofQ hE.1 (by decide) (Nat.le_of_ble_eq_true rfl) (fun p e s m args below meth c ls Q hQ C hr hlk hnm X hl => ?_)
  have C : vC p s m _ c _ _ "java/lang/StringBuilder" GT D vcl (vty dT) := C
  have hx := C.1.1
  have hb := C.1.2.1
  obtain ⟨H, eH⟩ : ∃ z, z = s.heap := ⟨_, rfl⟩
  obtain ⟨locs, elocs⟩ : ∃ z : List Loc, z = [] := ⟨_, rfl⟩
  rw [← eH, ← elocs] at X
  rw [← eH, ← elocs]
  clear eH elocs
  have hl : lv_has ls 2 [(0, .ref a), (1, .int (nI c0))] := hl
  refine lv_aload_n hx hb d_SB_append0_0 rfl (lv_at hl 0 rfl) ?_
  refine lv_iload_n hx hb d_SB_append0_1 rfl (lv_at hl 1 rfl) ?_
  refine mv_bq X (mv_rSU (rest := []) (As := [.int (nI c0)]) gt_good C X (y := y_AbstractStringBuilder_append) (n := 1) ⟨gt_1 239 (by decide +kernel) rfl, gt_6 140 (by decide +kernel) rfl, gt_1 67 (by decide +kernel) rfl, gt_2 0 (by decide +kernel) rfl, gt_1 2 (by decide +kernel) rfl, gt_2 1 (rfl) rfl, by decide +kernel⟩ (cm_ASB_append0 hE hJ hc hcc hf hnc ka wa kv wv) ka rfl ⟨Nat.le_of_ble_eq_true rfl, Nat.le_of_ble_eq_true rfl⟩ rfl hl.1 rfl (Nat.le_of_ble_eq_true rfl) d_SB_append0_2 ⟨Nat.zero_le _, Nat.zero_le _⟩) (fun r1 hN H locs hp X => ?_)
  obtain ⟨er, hq⟩ := hp
  subst er
  change W _ _ _ _ _ _ _ _ _ _ _ _ _ _ _ (F0 _ _ _ (.ref a :: _))
  refine lv_pop hx hb d_SB_append0_5 rfl ?_
  refine lv_aload_n hx hb d_SB_append0_6 rfl (lv_at hl 0 rfl) ?_
  exact mq_aret (r := some a) hQ C X hr (Or.inl ⟨_, rfl⟩) hlk (⟨rfl, hq⟩) (by omega) (by omega) d_SB_append0_7
theorem d_ASB_append1_0 : decode prog_15_method_31_code 0 = .ok (.aload_n 0, 1) := by decide +kernel
theorem d_ASB_append1_1 : decode prog_15_method_31_code 1 = .ok (.aload_n 0, 1) := by decide +kernel
theorem d_ASB_append1_2 : decode prog_15_method_31_code 2 = .ok (.getfield 79, 3) := by decide +kernel
theorem d_ASB_append1_5 : decode prog_15_method_31_code 5 = .ok (.iconst 1, 1) := by decide +kernel
theorem d_ASB_append1_6 : decode prog_15_method_31_code 6 = .ok (.iadd, 1) := by decide +kernel
theorem d_ASB_append1_7 : decode prog_15_method_31_code 7 = .ok (.invokevirtual 100, 3) := by decide +kernel
theorem d_ASB_append1_10 : decode prog_15_method_31_code 10 = .ok (.aload_n 0, 1) := by decide +kernel
theorem d_ASB_append1_11 : decode prog_15_method_31_code 11 = .ok (.invokevirtual 83, 3) := by decide +kernel
theorem d_ASB_append1_14 : decode prog_15_method_31_code 14 = .ok (.ifCond .eq 31, 3) := by decide +kernel
theorem d_ASB_append1_17 : decode prog_15_method_31_code 17 = .ok (.iload_n 1, 1) := by decide +kernel
theorem d_ASB_append1_18 : decode prog_15_method_31_code 18 = .ok (.invokestatic 191, 3) := by decide +kernel
theorem d_ASB_append1_21 : decode prog_15_method_31_code 21 = .ok (.ifCond .eq 24, 3) := by decide +kernel
theorem d_ASB_append1_24 : decode prog_15_method_31_code 24 = .ok (.aload_n 0, 1) := by decide +kernel
theorem d_ASB_append1_25 : decode prog_15_method_31_code 25 = .ok (.getfield 15, 3) := by decide +kernel
theorem d_ASB_append1_28 : decode prog_15_method_31_code 28 = .ok (.aload_n 0, 1) := by decide +kernel
theorem d_ASB_append1_29 : decode prog_15_method_31_code 29 = .ok (.dup, 1) := by decide +kernel
theorem d_ASB_append1_30 : decode prog_15_method_31_code 30 = .ok (.getfield 79, 3) := by decide +kernel
theorem d_ASB_append1_33 : decode prog_15_method_31_code 33 = .ok (.dup_x1, 1) := by decide +kernel
theorem d_ASB_append1_34 : decode prog_15_method_31_code 34 = .ok (.iconst 1, 1) := by decide +kernel
theorem d_ASB_append1_35 : decode prog_15_method_31_code 35 = .ok (.iadd, 1) := by decide +kernel
theorem d_ASB_append1_36 : decode prog_15_method_31_code 36 = .ok (.putfield 79, 3) := by decide +kernel
theorem d_ASB_append1_39 : decode prog_15_method_31_code 39 = .ok (.iload_n 1, 1) := by decide +kernel
theorem d_ASB_append1_40 : decode prog_15_method_31_code 40 = .ok (.i2b, 1) := by decide +kernel
theorem d_ASB_append1_41 : decode prog_15_method_31_code 41 = .ok (.bastore, 1) := by decide +kernel
theorem d_ASB_append1_42 : decode prog_15_method_31_code 42 = .ok (.goto 33, 3) := by decide +kernel
theorem d_ASB_append1_75 : decode prog_15_method_31_code 75 = .ok (.aload_n 0, 1) := by decide +kernel
theorem d_ASB_append1_76 : decode prog_15_method_31_code 76 = .ok (.areturn, 1) := by decide +kernel
set_option maxRecDepth 100000 in
set_option maxHeartbeats 4000000 in
theorem cm_ASB_append1 {l : Launch} {S0 : State} {b : Nat} {D : va_G} {dT : Nat → ClassId} (hE : vEnv S0 b D dT) {dE mO : Nat} (hJ : vJ S0 dE mO) {h0 : vH} {a av n cap : Nat} {ml : Int32} {f : Nat → Int32} {c0 : Nat} (hc : c0 < 128) (hcc : cap < 2 ^ 27) (hf : fitB f cap) (hnc : n = cap) (ka : h0 a = some (.inr (1, [.ref av, .int 0, .int ml, .int (nI n)]))) (wa : S0.heap.size ≤ a) (kv : h0 av = some (.inl (dT 2, cap, .inl f))) (wv : S0.heap.size ≤ av) : vMq l S0 D vcl GT y_AbstractStringBuilder_append prog_15_method_31_code 2 (some (.object "java/lang/AbstractStringBuilder")) 4 84 1 (2 * cap + 2) [.ref a, .int (nI c0)] h0 (fun r h' => r = some a ∧ sbA S0 dT h0 h' a av n cap f (nI c0) ml) := by
  unfold vMq
  refine vM_ofQ hE.1 (by decide) (Nat.le_of_ble_eq_true rfl) (fun p e s m args below meth c ls Q hQ C hr hlk hnm X hl => ?_)
  have C : vC p s m _ c _ _ "java/lang/AbstractStringBuilder" GT D vcl (vty dT) := C
  have hx := C.1.1
  have hb := C.1.2.1
  obtain ⟨H, eH⟩ : ∃ z, z = s.heap := ⟨_, rfl⟩
  obtain ⟨locs, elocs⟩ : ∃ z : List Loc, z = [] := ⟨_, rfl⟩
  rw [← eH, ← elocs] at X
  rw [← eH, ← elocs]
  clear eH elocs
  have hl : lv_has ls 2 [(0, .ref a), (1, .int (nI c0))] := hl
  refine lv_aload_n hx hb d_ASB_append1_0 rfl (lv_at hl 0 rfl) ?_
  refine lv_aload_n hx hb d_ASB_append1_1 rfl (lv_at hl 0 rfl) ?_
  refine mv_get C X ka 3 f_13_79_1 (v := .int (nI n)) rfl d_ASB_append1_2 ?_
  refine lv_iconst (v := 1) hx hb d_ASB_append1_5 (by decide) ?_
  refine lv_iadd hx hb d_ASB_append1_6 ?_
  rw [nI_1]
  refine mv_bv X (mv_rP (rest := []) (As := [.int (nI (n + 1))]) gt_good C X (w := y_AbstractStringBuilder_isLatin1) (z := y_AbstractStringBuilder_isLatin1) (y := y_AbstractStringBuilder_ensureCapacityInternal) (n := 1) ⟨gt_2 2 (by decide +kernel) rfl, gt_6 141 (by decide +kernel) rfl, gt_2 40 (by decide +kernel) rfl, rfl, va_Nw.of rfl (hE.2.1 _ (List.mem_append_right _ (List.mem_append_right _ (List.mem_append_left _ (List.mem_of_getElem? (i := 3) (by decide +kernel : tables_1_2[3]? = some _)))))), gt_2 4 (by decide +kernel) rfl, gt_1 2 (by decide +kernel) rfl, gt_2 5 (rfl) rfl, by decide +kernel⟩ (cm_ASB_ensure1 hE (k0 := n + 1) (by omega) (by omega) (by omega) hf ka wa kv wv) ka rfl ⟨Nat.le_of_ble_eq_true rfl, Nat.le_of_ble_eq_true rfl⟩ rfl hl.1 rfl (Nat.le_of_ble_eq_true rfl) d_ASB_append1_7 ⟨by show 0 + 1 ≤ 1; omega, by show 0 + (2 * cap + 2) ≤ (2 * cap + 2); omega⟩) (fun hN H locs hp X => ?_)
  obtain ⟨q, g, zq, wq, eh, eg, fg⟩ := hp
  replace eh := eh.symm
  subst eh
  have n_a_q : a ≠ q := vnf ka zq
  have n_av_q : av ≠ q := vnf kv zq
  refine lv_aload_n hx hb d_ASB_append1_10 rfl (lv_at hl 0 rfl) ?_
  refine mv_bi X (mv_rU (rest := []) (As := []) gt_good C X ku_13_83_1 (va_Decl.of (C.1.2.2.2.2 _ (gt_2 38 (by decide +kernel) rfl)) (C.1.2.2.2.2 _ (gt_2 41 (rfl) rfl))) (cm_AbstractStringBuilder_isLatin1 hE hJ (vup_s _ _ _)) (vup_s _ _ _) rfl ⟨Nat.le_of_ble_eq_true rfl, Nat.le_of_ble_eq_true rfl⟩ rfl hl.1 rfl (Nat.le_of_ble_eq_true rfl) d_ASB_append1_11 ⟨by show (0 + 1) + 0 ≤ 1; omega, by show (0 + (2 * cap + 2)) + 0 ≤ (2 * cap + 2); omega⟩) (fun r2 hN H locs hp X => ?_)
  obtain ⟨eh, er⟩ := hp
  replace eh := eh.symm
  replace er := er.symm
  subst eh er
  refine lv_if_eq (tgt := 45) hx hb d_ASB_append1_14 (by decide) (fun z => absurd z (by decide)) (fun c3 => ?_)
  refine lv_iload_n hx hb d_ASB_append1_17 rfl (lv_at hl 1 rfl) ?_
  refine mv_bi X (mv_rS (rest := []) (As := [.int (nI c0)]) gt_good C X k_13_191 (cm_StringLatin1_canEncode hE hc) ⟨Nat.le_of_ble_eq_true rfl, Nat.le_of_ble_eq_true rfl⟩ rfl hl.1 rfl (Nat.le_of_ble_eq_true rfl) d_ASB_append1_18 ⟨by show ((0 + 1) + 0) + 0 ≤ 1; omega, by show ((0 + (2 * cap + 2)) + 0) + 0 ≤ (2 * cap + 2); omega⟩) (fun r4 hN H locs hp X => ?_)
  obtain ⟨eh, er⟩ := hp
  replace eh := eh.symm
  replace er := er.symm
  subst eh er
  refine lv_if_eq (tgt := 45) hx hb d_ASB_append1_21 (by decide) (fun z => absurd z (by decide)) (fun c5 => ?_)
  refine lv_aload_n hx hb d_ASB_append1_24 rfl (lv_at hl 0 rfl) ?_
  refine mv_get C X (vup_s _ _ _) 0 f_13_15_1 (v := .ref q) rfl d_ASB_append1_25 ?_
  refine lv_aload_n hx hb d_ASB_append1_28 rfl (lv_at hl 0 rfl) ?_
  refine lv_dup hx hb d_ASB_append1_29 rfl ?_
  refine mv_get C X (vup_s _ _ _) 3 f_13_79_1 (v := .int (nI n)) rfl d_ASB_append1_30 ?_
  refine lv_dup_x1 hx hb d_ASB_append1_33 rfl rfl ?_
  refine lv_iconst (v := 1) hx hb d_ASB_append1_34 (by decide) ?_
  refine lv_iadd hx hb d_ASB_append1_35 ?_
  rw [nI_1]
  refine mv_put C X (vup_s _ _ _) wa 3 p_13_79_1 rfl rfl (Nat.le_of_ble_eq_true rfl) d_ASB_append1_36 (fun H locs X => ?_)
  rw [vup_u] at X
  have X : vO S0 D vcl (vup (vup h0 q (.inl (dT 2, (2 * cap + 2), .inl g))) a (.inr (1, [.ref q, .int 0, .int ml, .int (nI (n + 1))]))) s H locs := X
  refine lv_iload_n hx hb d_ASB_append1_39 rfl (lv_at hl 1 rfl) ?_
  refine lv_i2b (v := ((nI c0) : Int32).toInt8.toInt32) hx hb d_ASB_append1_40 rfl ?_
  refine mv_bast C X ((vup_n _ _ (Ne.symm n_a_q)).trans (vup_s _ _ _)) wq 2 rfl n rfl (by omega) (by omega) d_ASB_append1_41 (fun H locs X => ?_)
  have X : vO S0 D vcl (vup (vup (vup h0 q (.inl (dT 2, (2 * cap + 2), .inl g))) a (.inr (1, [.ref q, .int 0, .int ml, .int (nI (n + 1))]))) q (.inl (dT 2, (2 * cap + 2), .inl (upd g n (vp_nar .byte (((nI c0) : Int32).toInt8.toInt32)))))) s H locs := X
  refine lv_goto (tgt := 75) hx hb d_ASB_append1_42 (by decide) ?_
  refine lv_aload_n hx hb d_ASB_append1_75 rfl (lv_at hl 0 rfl) ?_
  exact mq_aret (r := some a) hQ C X hr (Or.inl ⟨_, rfl⟩) hlk (⟨rfl, q, 2 * cap + 2, _, ((vup_n _ _ n_a_q).trans (vup_s _ _ _)), (vup_s _ _ _), wq, (if_neg (by omega)).symm, by rw [pk_us]; exact bt_v hc, fun k hk => by rw [pk_un (by omega)]; exact eg k (by omega), fitB_up fg (by rw [bt_v hc]; exact bt_f hc), ((vfx.rf.new zq).up (Or.inl rfl)).new zq, Or.inr zq⟩) (by omega) (by omega) d_ASB_append1_76
theorem d_SB_append1_0 : decode prog_21_method_14_code 0 = .ok (.aload_n 0, 1) := by decide +kernel
theorem d_SB_append1_1 : decode prog_21_method_14_code 1 = .ok (.iload_n 1, 1) := by decide +kernel
theorem d_SB_append1_2 : decode prog_21_method_14_code 2 = .ok (.invokespecial 50, 3) := by decide +kernel
theorem d_SB_append1_5 : decode prog_21_method_14_code 5 = .ok (.pop, 1) := by decide +kernel
theorem d_SB_append1_6 : decode prog_21_method_14_code 6 = .ok (.aload_n 0, 1) := by decide +kernel
theorem d_SB_append1_7 : decode prog_21_method_14_code 7 = .ok (.areturn, 1) := by decide +kernel
set_option maxRecDepth 100000 in
set_option maxHeartbeats 4000000 in
theorem cm_SB_append1 {l : Launch} {S0 : State} {b : Nat} {D : va_G} {dT : Nat → ClassId} (hE : vEnv S0 b D dT) {dE mO : Nat} (hJ : vJ S0 dE mO) {h0 : vH} {a av n cap : Nat} {ml : Int32} {f : Nat → Int32} {c0 : Nat} (hc : c0 < 128) (hcc : cap < 2 ^ 27) (hf : fitB f cap) (hnc : n = cap) (ka : h0 a = some (.inr (1, [.ref av, .int 0, .int ml, .int (nI n)]))) (wa : S0.heap.size ≤ a) (kv : h0 av = some (.inl (dT 2, cap, .inl f))) (wv : S0.heap.size ≤ av) : vMq l S0 D vcl GT y_StringBuilder_append prog_21_method_14_code 2 (some (.object "java/lang/StringBuilder")) 5 105 1 (2 * cap + 2) [.ref a, .int (nI c0)] h0 (fun r h' => r = some a ∧ sbA S0 dT h0 h' a av n cap f (nI c0) ml) := by
  unfold vMq
  refine vM_ofQ hE.1 (by decide) (Nat.le_of_ble_eq_true rfl) (fun p e s m args below meth c ls Q hQ C hr hlk hnm X hl => ?_)
  have C : vC p s m _ c _ _ "java/lang/StringBuilder" GT D vcl (vty dT) := C
  have hx := C.1.1
  have hb := C.1.2.1
  obtain ⟨H, eH⟩ : ∃ z, z = s.heap := ⟨_, rfl⟩
  obtain ⟨locs, elocs⟩ : ∃ z : List Loc, z = [] := ⟨_, rfl⟩
  rw [← eH, ← elocs] at X
  rw [← eH, ← elocs]
  clear eH elocs
  have hl : lv_has ls 2 [(0, .ref a), (1, .int (nI c0))] := hl
  refine lv_aload_n hx hb d_SB_append1_0 rfl (lv_at hl 0 rfl) ?_
  refine lv_iload_n hx hb d_SB_append1_1 rfl (lv_at hl 1 rfl) ?_
  refine mv_bq X (mv_rSU (rest := []) (As := [.int (nI c0)]) gt_good C X (y := y_AbstractStringBuilder_append) (n := 1) ⟨gt_1 239 (by decide +kernel) rfl, gt_6 140 (by decide +kernel) rfl, gt_1 67 (by decide +kernel) rfl, gt_2 0 (by decide +kernel) rfl, gt_1 2 (by decide +kernel) rfl, gt_2 1 (rfl) rfl, by decide +kernel⟩ (cm_ASB_append1 hE hJ hc hcc hf hnc ka wa kv wv) ka rfl ⟨Nat.le_of_ble_eq_true rfl, Nat.le_of_ble_eq_true rfl⟩ rfl hl.1 rfl (Nat.le_of_ble_eq_true rfl) d_SB_append1_2 ⟨by show 0 + 1 ≤ 1; omega, by show 0 + (2 * cap + 2) ≤ (2 * cap + 2); omega⟩) (fun r1 hN H locs hp X => ?_)
  obtain ⟨er, hq⟩ := hp
  subst er
  change W _ _ _ _ _ _ _ _ _ _ _ _ _ _ _ (F0 _ _ _ (.ref a :: _))
  refine lv_pop hx hb d_SB_append1_5 rfl ?_
  refine lv_aload_n hx hb d_SB_append1_6 rfl (lv_at hl 0 rfl) ?_
  exact mq_aret (r := some a) hQ C X hr (Or.inl ⟨_, rfl⟩) hlk (⟨rfl, hq⟩) (by omega) (by omega) d_SB_append1_7
theorem d_AbstractStringBuilder_setLength_0 : decode prog_15_method_13_code 0 = .ok (.iload_n 1, 1) := by decide +kernel
theorem d_AbstractStringBuilder_setLength_1 : decode prog_15_method_13_code 1 = .ok (.ifCond .ge 12, 3) := by decide +kernel
theorem d_AbstractStringBuilder_setLength_13 : decode prog_15_method_13_code 13 = .ok (.aload_n 0, 1) := by decide +kernel
theorem d_AbstractStringBuilder_setLength_14 : decode prog_15_method_13_code 14 = .ok (.iload_n 1, 1) := by decide +kernel
theorem d_AbstractStringBuilder_setLength_15 : decode prog_15_method_13_code 15 = .ok (.invokevirtual 100, 3) := by decide +kernel
theorem d_AbstractStringBuilder_setLength_18 : decode prog_15_method_13_code 18 = .ok (.aload_n 0, 1) := by decide +kernel
theorem d_AbstractStringBuilder_setLength_19 : decode prog_15_method_13_code 19 = .ok (.getfield 79, 3) := by decide +kernel
theorem d_AbstractStringBuilder_setLength_22 : decode prog_15_method_13_code 22 = .ok (.iload_n 1, 1) := by decide +kernel
theorem d_AbstractStringBuilder_setLength_23 : decode prog_15_method_13_code 23 = .ok (.if_icmp .ge 40, 3) := by decide +kernel
theorem d_AbstractStringBuilder_setLength_63 : decode prog_15_method_13_code 63 = .ok (.aload_n 0, 1) := by decide +kernel
theorem d_AbstractStringBuilder_setLength_64 : decode prog_15_method_13_code 64 = .ok (.getfield 79, 3) := by decide +kernel
theorem d_AbstractStringBuilder_setLength_67 : decode prog_15_method_13_code 67 = .ok (.iload_n 1, 1) := by decide +kernel
theorem d_AbstractStringBuilder_setLength_68 : decode prog_15_method_13_code 68 = .ok (.if_icmp .le 8, 3) := by decide +kernel
theorem d_AbstractStringBuilder_setLength_71 : decode prog_15_method_13_code 71 = .ok (.aload_n 0, 1) := by decide +kernel
theorem d_AbstractStringBuilder_setLength_72 : decode prog_15_method_13_code 72 = .ok (.iconst 1, 1) := by decide +kernel
theorem d_AbstractStringBuilder_setLength_73 : decode prog_15_method_13_code 73 = .ok (.putfield 73, 3) := by decide +kernel
theorem d_AbstractStringBuilder_setLength_76 : decode prog_15_method_13_code 76 = .ok (.aload_n 0, 1) := by decide +kernel
theorem d_AbstractStringBuilder_setLength_77 : decode prog_15_method_13_code 77 = .ok (.iload_n 1, 1) := by decide +kernel
theorem d_AbstractStringBuilder_setLength_78 : decode prog_15_method_13_code 78 = .ok (.putfield 79, 3) := by decide +kernel
theorem d_AbstractStringBuilder_setLength_81 : decode prog_15_method_13_code 81 = .ok (.return_, 1) := by decide +kernel
set_option maxRecDepth 100000 in
set_option maxHeartbeats 4000000 in
theorem cm_AbstractStringBuilder_setLength {l : Launch} {S0 : State} {b : Nat} {D : va_G} {dT : Nat → ClassId} (hE : vEnv S0 b D dT) {dE mO : Nat} (hJ : vJ S0 dE mO) {h0 : vH} {a av n cap : Nat} {ml : Int32} {f : Nat → Int32} (hn : n < 2 ^ 30) (hcc : cap < 2 ^ 27) (ka : h0 a = some (.inr (1, [.ref av, .int 0, .int ml, .int (nI n)]))) (wa : S0.heap.size ≤ a) (kv : h0 av = some (.inl (dT 2, cap, .inl f))) (wv : S0.heap.size ≤ av) : vMv l S0 D vcl GT y_AbstractStringBuilder_setLength prog_15_method_13_code 2 none 1 22 0 0 [.ref a, .int 0] h0 (fun h' => ∃ ml', h' = vup h0 a (.inr (1, [.ref av, .int 0, .int ml', .int 0]))) := by
  unfold vMv
  refine vM_ofQ hE.1 (by decide) (Nat.le_of_ble_eq_true rfl) (fun p e s m args below meth c ls Q hQ C hr hlk hnm X hl => ?_)
  have C : vC p s m _ c _ _ "java/lang/AbstractStringBuilder" GT D vcl (vty dT) := C
  have hx := C.1.1
  have hb := C.1.2.1
  obtain ⟨H, eH⟩ : ∃ z, z = s.heap := ⟨_, rfl⟩
  obtain ⟨locs, elocs⟩ : ∃ z : List Loc, z = [] := ⟨_, rfl⟩
  rw [← eH, ← elocs] at X
  rw [← eH, ← elocs]
  clear eH elocs
  have hl : lv_has ls 2 [(0, .ref a), (1, .int 0)] := hl
  refine lv_iload_n hx hb d_AbstractStringBuilder_setLength_0 rfl (lv_at hl 1 rfl) ?_
  refine lv_if_ge (tgt := 13) hx hb d_AbstractStringBuilder_setLength_1 (by decide) (fun c1 => ?_) (fun z => absurd (by decide) z)
  refine lv_aload_n hx hb d_AbstractStringBuilder_setLength_13 rfl (lv_at hl 0 rfl) ?_
  refine lv_iload_n hx hb d_AbstractStringBuilder_setLength_14 rfl (lv_at hl 1 rfl) ?_
  refine mv_bv X (mv_rP (rest := []) (As := [.int 0]) gt_good C X (w := y_AbstractStringBuilder_isLatin1) (z := y_AbstractStringBuilder_isLatin1) (y := y_AbstractStringBuilder_ensureCapacityInternal) (n := 1) ⟨gt_2 2 (by decide +kernel) rfl, gt_6 141 (by decide +kernel) rfl, gt_2 40 (by decide +kernel) rfl, rfl, va_Nw.of rfl (hE.2.1 _ (List.mem_append_right _ (List.mem_append_right _ (List.mem_append_left _ (List.mem_of_getElem? (i := 3) (by decide +kernel : tables_1_2[3]? = some _)))))), gt_2 4 (by decide +kernel) rfl, gt_1 2 (by decide +kernel) rfl, gt_2 5 (rfl) rfl, by decide +kernel⟩ (cm_ASB_ensure0 hE (k0 := 0) (Nat.zero_le _) (by omega) ka wa kv wv) ka rfl ⟨Nat.le_of_ble_eq_true rfl, Nat.le_of_ble_eq_true rfl⟩ rfl hl.1 rfl (Nat.le_of_ble_eq_true rfl) d_AbstractStringBuilder_setLength_15 ⟨Nat.zero_le _, Nat.zero_le _⟩) (fun hN H locs hp X => ?_)
  replace hp := hp.symm
  subst hp
  refine lv_aload_n hx hb d_AbstractStringBuilder_setLength_18 rfl (lv_at hl 0 rfl) ?_
  refine mv_get C X ka 3 f_13_79_1 (v := .int (nI n)) rfl d_AbstractStringBuilder_setLength_19 ?_
  refine lv_iload_n hx hb d_AbstractStringBuilder_setLength_22 rfl (lv_at hl 1 rfl) ?_
  refine lv_icmp_ge (tgt := 63) hx hb d_AbstractStringBuilder_setLength_23 (by decide) (fun c3 => ?_) (fun z => absurd (nI_le (a := 0) (Nat.zero_le _) (by omega)) z)
  refine lv_aload_n hx hb d_AbstractStringBuilder_setLength_63 rfl (lv_at hl 0 rfl) ?_
  refine mv_get C X ka 3 f_13_79_1 (v := .int (nI n)) rfl d_AbstractStringBuilder_setLength_64 ?_
  refine lv_iload_n hx hb d_AbstractStringBuilder_setLength_67 rfl (lv_at hl 1 rfl) ?_
  refine lv_icmp_le (tgt := 76) hx hb d_AbstractStringBuilder_setLength_68 (by decide) (fun c4 => ?_) (fun c4 => ?_)
  · skip
    refine lv_aload_n hx hb d_AbstractStringBuilder_setLength_76 rfl (lv_at hl 0 rfl) ?_
    refine lv_iload_n hx hb d_AbstractStringBuilder_setLength_77 rfl (lv_at hl 1 rfl) ?_
    refine mv_put C X ka wa 3 p_13_79_1 rfl rfl (Nat.le_of_ble_eq_true rfl) d_AbstractStringBuilder_setLength_78 (fun H locs X => ?_)
    have X : vO S0 D vcl (vup h0 a (.inr (1, [.ref av, .int 0, .int ml, .int 0]))) s H locs := X
    exact mq_vret hQ C X hr hlk (⟨_, rfl⟩) (by omega) (by omega) d_AbstractStringBuilder_setLength_81
  · skip
    refine lv_aload_n hx hb d_AbstractStringBuilder_setLength_71 rfl (lv_at hl 0 rfl) ?_
    refine lv_iconst (v := 1) hx hb d_AbstractStringBuilder_setLength_72 (by decide) ?_
    refine mv_put C X ka wa 2 p_13_73_1 rfl rfl (Nat.le_of_ble_eq_true rfl) d_AbstractStringBuilder_setLength_73 (fun H locs X => ?_)
    have X : vO S0 D vcl (vup h0 a (.inr (1, [.ref av, .int 0, .int 1, .int (nI n)]))) s H locs := X
    refine lv_aload_n hx hb d_AbstractStringBuilder_setLength_76 rfl (lv_at hl 0 rfl) ?_
    refine lv_iload_n hx hb d_AbstractStringBuilder_setLength_77 rfl (lv_at hl 1 rfl) ?_
    refine mv_put C X (vup_s _ _ _) wa 3 p_13_79_1 rfl rfl (Nat.le_of_ble_eq_true rfl) d_AbstractStringBuilder_setLength_78 (fun H locs X => ?_)
    rw [vup_u] at X
    have X : vO S0 D vcl (vup h0 a (.inr (1, [.ref av, .int 0, .int 1, .int 0]))) s H locs := X
    exact mq_vret hQ C X hr hlk (⟨_, rfl⟩) (by omega) (by omega) d_AbstractStringBuilder_setLength_81
theorem d_StringBuilder_setLength_0 : decode prog_21_method_89_code 0 = .ok (.aload_n 0, 1) := by decide +kernel
theorem d_StringBuilder_setLength_1 : decode prog_21_method_89_code 1 = .ok (.iload_n 1, 1) := by decide +kernel
theorem d_StringBuilder_setLength_2 : decode prog_21_method_89_code 2 = .ok (.invokespecial 333, 3) := by decide +kernel
theorem d_StringBuilder_setLength_5 : decode prog_21_method_89_code 5 = .ok (.return_, 1) := by decide +kernel
set_option maxRecDepth 100000 in
set_option maxHeartbeats 4000000 in
theorem cm_StringBuilder_setLength {l : Launch} {S0 : State} {b : Nat} {D : va_G} {dT : Nat → ClassId} (hE : vEnv S0 b D dT) {dE mO : Nat} (hJ : vJ S0 dE mO) {h0 : vH} {a av n cap : Nat} {ml : Int32} {f : Nat → Int32} (hn : n < 2 ^ 30) (hcc : cap < 2 ^ 27) (ka : h0 a = some (.inr (1, [.ref av, .int 0, .int ml, .int (nI n)]))) (wa : S0.heap.size ≤ a) (kv : h0 av = some (.inl (dT 2, cap, .inl f))) (wv : S0.heap.size ≤ av) : vMv l S0 D vcl GT y_StringBuilder_setLength prog_21_method_89_code 2 none 2 43 0 0 [.ref a, .int 0] h0 (fun h' => ∃ ml', h' = vup h0 a (.inr (1, [.ref av, .int 0, .int ml', .int 0]))) := by
  unfold vMv
  refine vM_ofQ hE.1 (by decide) (Nat.le_of_ble_eq_true rfl) (fun p e s m args below meth c ls Q hQ C hr hlk hnm X hl => ?_)
  have C : vC p s m _ c _ _ "java/lang/StringBuilder" GT D vcl (vty dT) := C
  have hx := C.1.1
  have hb := C.1.2.1
  obtain ⟨H, eH⟩ : ∃ z, z = s.heap := ⟨_, rfl⟩
  obtain ⟨locs, elocs⟩ : ∃ z : List Loc, z = [] := ⟨_, rfl⟩
  rw [← eH, ← elocs] at X
  rw [← eH, ← elocs]
  clear eH elocs
  have hl : lv_has ls 2 [(0, .ref a), (1, .int 0)] := hl
  refine lv_aload_n hx hb d_StringBuilder_setLength_0 rfl (lv_at hl 0 rfl) ?_
  refine lv_iload_n hx hb d_StringBuilder_setLength_1 rfl (lv_at hl 1 rfl) ?_
  refine mv_bv X (mv_rSU (rest := []) (As := [.int 0]) gt_good C X (y := y_AbstractStringBuilder_setLength) (n := 1) ⟨gt_2 152 (by decide +kernel) rfl, gt_6 145 (by decide +kernel) rfl, gt_1 67 (by decide +kernel) rfl, gt_2 153 (by decide +kernel) rfl, gt_1 2 (by decide +kernel) rfl, gt_2 154 (rfl) rfl, by decide +kernel⟩ (cm_AbstractStringBuilder_setLength hE hJ hn hcc ka wa kv wv) ka rfl ⟨Nat.le_of_ble_eq_true rfl, Nat.le_of_ble_eq_true rfl⟩ rfl hl.1 rfl (Nat.le_of_ble_eq_true rfl) d_StringBuilder_setLength_2 ⟨Nat.zero_le _, Nat.zero_le _⟩) (fun hN H locs hp X => ?_)
  have hq := hp
  exact mq_vret hQ C X hr hlk hq (by omega) (by omega) d_StringBuilder_setLength_5
theorem d_String_initA_0 : decode prog_20_method_150_code 0 = .ok (.aload_n 0, 1) := by decide +kernel
theorem d_String_initA_1 : decode prog_20_method_150_code 1 = .ok (.invokespecial 1, 3) := by decide +kernel
theorem d_String_initA_4 : decode prog_20_method_150_code 4 = .ok (.aload_n 1, 1) := by decide +kernel
theorem d_String_initA_5 : decode prog_20_method_150_code 5 = .ok (.invokevirtual 552, 3) := by decide +kernel
theorem d_String_initA_8 : decode prog_20_method_150_code 8 = .ok (.astore_n 3, 1) := by decide +kernel
theorem d_String_initA_9 : decode prog_20_method_150_code 9 = .ok (.aload_n 1, 1) := by decide +kernel
theorem d_String_initA_10 : decode prog_20_method_150_code 10 = .ok (.invokevirtual 549, 3) := by decide +kernel
theorem d_String_initA_13 : decode prog_20_method_150_code 13 = .ok (.istore 4, 2) := by decide +kernel
theorem d_String_initA_15 : decode prog_20_method_150_code 15 = .ok (.aload_n 1, 1) := by decide +kernel
theorem d_String_initA_16 : decode prog_20_method_150_code 16 = .ok (.invokevirtual 1047, 3) := by decide +kernel
theorem d_String_initA_19 : decode prog_20_method_150_code 19 = .ok (.ifCond .eq 22, 3) := by decide +kernel
theorem d_String_initA_22 : decode prog_20_method_150_code 22 = .ok (.aload_n 0, 1) := by decide +kernel
theorem d_String_initA_23 : decode prog_20_method_150_code 23 = .ok (.iconst 0, 1) := by decide +kernel
theorem d_String_initA_24 : decode prog_20_method_150_code 24 = .ok (.putfield 15, 3) := by decide +kernel
theorem d_String_initA_27 : decode prog_20_method_150_code 27 = .ok (.aload_n 0, 1) := by decide +kernel
theorem d_String_initA_28 : decode prog_20_method_150_code 28 = .ok (.aload_n 3, 1) := by decide +kernel
theorem d_String_initA_29 : decode prog_20_method_150_code 29 = .ok (.iconst 0, 1) := by decide +kernel
theorem d_String_initA_30 : decode prog_20_method_150_code 30 = .ok (.iload 4, 2) := by decide +kernel
theorem d_String_initA_32 : decode prog_20_method_150_code 32 = .ok (.invokestatic 54, 3) := by decide +kernel
theorem d_String_initA_35 : decode prog_20_method_150_code 35 = .ok (.putfield 9, 3) := by decide +kernel
theorem d_String_initA_38 : decode prog_20_method_150_code 38 = .ok (.goto 59, 3) := by decide +kernel
theorem d_String_initA_97 : decode prog_20_method_150_code 97 = .ok (.return_, 1) := by decide +kernel
set_option maxRecDepth 100000 in
set_option maxHeartbeats 4000000 in
theorem cm_String_initA {l : Launch} {S0 : State} {b : Nat} {D : va_G} {dT : Nat → ClassId} (hE : vEnv S0 b D dT) {dE mO : Nat} (hJ : vJ S0 dE mO) {h0 : vH} {s0 a av n cap : Nat} {ml : Int32} {f : Nat → Int32} (hn : n ≤ cap) (hcc : cap < 2 ^ 20) (hf : fitB f cap) (ks : h0 s0 = some (.inr (0, [.null, .int 0, .int 0, .int 0]))) (ws0 : S0.heap.size ≤ s0) (ka : h0 a = some (.inr (1, [.ref av, .int 0, .int ml, .int (nI n)]))) (kv : h0 av = some (.inl (dT 2, cap, .inl f))) (wv : S0.heap.size ≤ av) : vMv l S0 D vcl GT y_String_init_2 prog_20_method_150_code 5 none 3 76 1 n [.ref s0, .ref a, .null] h0 (fun h' => ∃ q g, h0 q = none ∧ S0.heap.size ≤ q ∧ h' = vup (vup h0 q (.inl (dT 2, n, .inl g))) s0 (.inr (0, [.ref q, .int 0, .int 0, .int 0])) ∧ fitB g n ∧ ∀ k, k < n → g k = f k) := by
  unfold vMv
  refine vM_ofQ hE.1 (by decide) (Nat.le_of_ble_eq_true rfl) (fun p e s m args below meth c ls Q hQ C hr hlk hnm X hl => ?_)
  have C : vC p s m _ c _ _ "java/lang/String" GT D vcl (vty dT) := C
  have hx := C.1.1
  have hb := C.1.2.1
  obtain ⟨H, eH⟩ : ∃ z, z = s.heap := ⟨_, rfl⟩
  obtain ⟨locs, elocs⟩ : ∃ z : List Loc, z = [] := ⟨_, rfl⟩
  rw [← eH, ← elocs] at X
  rw [← eH, ← elocs]
  clear eH elocs
  have hl : lv_has ls 5 [(0, .ref s0), (1, .ref a), (2, .null)] := hl
  refine lv_aload_n hx hb d_String_initA_0 rfl (lv_at hl 0 rfl) ?_
  refine mv_obj C hl.1 ⟨gt_2 106 (by decide +kernel) rfl, gt_1 34 (by decide +kernel) rfl, gt_1 35 (rfl) rfl⟩ (Nat.le_of_ble_eq_true rfl) (Nat.le_of_ble_eq_true rfl) d_String_initA_1 ?_
  refine lv_aload_n hx hb d_String_initA_4 rfl (lv_at hl 1 rfl) ?_
  refine mv_bq X (mv_rU (rest := []) (As := []) gt_good C X ku_17_552_1 (va_Decl.of (C.1.2.2.2.2 _ (gt_2 108 (by decide +kernel) rfl)) (C.1.2.2.2.2 _ (gt_2 111 (rfl) rfl))) (cm_AbstractStringBuilder_getValue hE ka) ka rfl ⟨Nat.le_of_ble_eq_true rfl, Nat.le_of_ble_eq_true rfl⟩ rfl hl.1 rfl (Nat.le_of_ble_eq_true rfl) d_String_initA_5 ⟨Nat.zero_le _, Nat.zero_le _⟩) (fun r1 hN H locs hp X => ?_)
  obtain ⟨eh, er⟩ := hp
  replace eh := eh.symm
  replace er := er.symm
  subst eh er
  change W _ _ _ _ _ _ _ _ _ _ _ _ _ _ _ (F0 _ _ _ (.ref av :: _))
  refine lv_astore_n (lv' := [(3, .ref av), (0, .ref s0), (1, .ref a), (2, .null)]) hx hb d_String_initA_8 rfl hl (by decide) rfl (fun ls hl => ?_)
  refine lv_aload_n hx hb d_String_initA_9 rfl (lv_at hl 2 rfl) ?_
  refine mv_bi X (mv_rU (rest := []) (As := []) gt_good C X ku_17_549_1 (va_Decl.of (C.1.2.2.2.2 _ (gt_1 233 (by decide +kernel) rfl)) (C.1.2.2.2.2 _ (gt_1 234 (rfl) rfl))) (cm_StringBuilder_length hE ka) ka rfl ⟨Nat.le_of_ble_eq_true rfl, Nat.le_of_ble_eq_true rfl⟩ rfl hl.1 rfl (Nat.le_of_ble_eq_true rfl) d_String_initA_10 ⟨Nat.zero_le _, Nat.zero_le _⟩) (fun r2 hN H locs hp X => ?_)
  obtain ⟨eh, er⟩ := hp
  replace eh := eh.symm
  replace er := er.symm
  subst eh er
  refine lv_istore (lv' := [(4, .int (nI n)), (3, .ref av), (0, .ref s0), (1, .ref a), (2, .null)]) hx hb d_String_initA_13 hl (by decide) rfl (fun ls hl => ?_)
  refine lv_aload_n hx hb d_String_initA_15 rfl (lv_at hl 3 rfl) ?_
  refine mv_bi X (mv_rU (rest := []) (As := []) gt_good C X ku_17_1047_1 (va_Decl.of (C.1.2.2.2.2 _ (gt_2 38 (by decide +kernel) rfl)) (C.1.2.2.2.2 _ (gt_2 41 (rfl) rfl))) (cm_AbstractStringBuilder_isLatin1 hE hJ ka) ka rfl ⟨Nat.le_of_ble_eq_true rfl, Nat.le_of_ble_eq_true rfl⟩ rfl hl.1 rfl (Nat.le_of_ble_eq_true rfl) d_String_initA_16 ⟨Nat.zero_le _, Nat.zero_le _⟩) (fun r3 hN H locs hp X => ?_)
  obtain ⟨eh, er⟩ := hp
  replace eh := eh.symm
  replace er := er.symm
  subst eh er
  refine lv_if_eq (tgt := 41) hx hb d_String_initA_19 (by decide) (fun z => absurd z (by decide)) (fun c4 => ?_)
  refine lv_aload_n hx hb d_String_initA_22 rfl (lv_at hl 2 rfl) ?_
  refine lv_iconst (v := 0) hx hb d_String_initA_23 (by decide) ?_
  refine mv_putF C X ks ws0 1 hnm p_17_15_0 rfl rfl (Nat.le_of_ble_eq_true rfl) d_String_initA_24 (fun H locs X => ?_)
  have X : vO S0 D vcl (vup h0 s0 (.inr (0, [.null, .int 0, .int 0, .int 0]))) s H locs := X
  refine lv_aload_n hx hb d_String_initA_27 rfl (lv_at hl 2 rfl) ?_
  refine lv_aload_n hx hb d_String_initA_28 rfl (lv_at hl 1 rfl) ?_
  refine lv_iconst (v := 0) hx hb d_String_initA_29 (by decide) ?_
  refine lv_iload hx hb d_String_initA_30 (lv_at hl 0 rfl) ?_
  refine mv_bq X (mv_rS (rest := [.ref s0]) (As := [.ref av, .int 0, .int (nI n)]) gt_good C X k_17_54 (cm_Arrays_copyOfRange hE hJ (i0 := 0) (Nat.zero_le n) hn hcc hf ((vup_n _ _ (Ne.symm (vne_oa ks kv))).trans kv) wv) ⟨Nat.le_of_ble_eq_true rfl, Nat.le_of_ble_eq_true rfl⟩ rfl hl.1 rfl (Nat.le_of_ble_eq_true rfl) d_String_initA_32 ⟨by show 0 + 1 ≤ 1; omega, by show 0 + (n - 0) ≤ n; omega⟩) (fun r5 hN H locs hp X => ?_)
  obtain ⟨q, g, er, zq0, wq, eh, fg, eg⟩ := hp
  subst er
  replace eh := eh.symm
  subst eh
  rw [Nat.sub_zero] at X fg
  have zq : h0 q = none := by rw [vup_n _ _ (fun z => by rw [z, vup_s] at zq0; cases zq0)] at zq0; exact zq0
  change W _ _ _ _ _ _ _ _ _ _ _ _ _ _ _ (F0 _ _ _ (.ref q :: _))
  have n_s0_q : s0 ≠ q := vnf ks zq
  have n_a_q : a ≠ q := vnf ka zq
  have n_av_q : av ≠ q := vnf kv zq
  refine mv_putF C X ((vup_n _ _ n_s0_q).trans (vup_s _ _ _)) ws0 0 hnm p_17_9_0 rfl rfl (Nat.le_of_ble_eq_true rfl) d_String_initA_35 (fun H locs X => ?_)
  have X : vO S0 D vcl (vup (vup (vup h0 s0 (.inr (0, [.null, .int 0, .int 0, .int 0]))) q (.inl (dT 2, n, .inl g))) s0 (.inr (0, [.ref q, .int 0, .int 0, .int 0]))) s H locs := X
  refine lv_goto (tgt := 97) hx hb d_String_initA_38 (by decide) ?_
  exact mq_vret hQ C X hr hlk (⟨q, g, zq, wq, by rw [vup_sw _ _ _ _ (Ne.symm n_s0_q), vup_u], fg, fun k hk => by rw [eg k (by omega), Nat.zero_add]⟩) (by omega) (by omega) d_String_initA_97
theorem d_String_initS_0 : decode prog_20_method_53_code 0 = .ok (.aload_n 0, 1) := by decide +kernel
theorem d_String_initS_1 : decode prog_20_method_53_code 1 = .ok (.aload_n 1, 1) := by decide +kernel
theorem d_String_initS_2 : decode prog_20_method_53_code 2 = .ok (.aconst_null, 1) := by decide +kernel
theorem d_String_initS_3 : decode prog_20_method_53_code 3 = .ok (.invokespecial 489, 3) := by decide +kernel
theorem d_String_initS_6 : decode prog_20_method_53_code 6 = .ok (.return_, 1) := by decide +kernel
set_option maxRecDepth 100000 in
set_option maxHeartbeats 4000000 in
theorem cm_String_initS {l : Launch} {S0 : State} {b : Nat} {D : va_G} {dT : Nat → ClassId} (hE : vEnv S0 b D dT) {dE mO : Nat} (hJ : vJ S0 dE mO) {h0 : vH} {s0 a av n cap : Nat} {ml : Int32} {f : Nat → Int32} (hn : n ≤ cap) (hcc : cap < 2 ^ 20) (hf : fitB f cap) (ks : h0 s0 = some (.inr (0, [.null, .int 0, .int 0, .int 0]))) (ws0 : S0.heap.size ≤ s0) (ka : h0 a = some (.inr (1, [.ref av, .int 0, .int ml, .int (nI n)]))) (kv : h0 av = some (.inl (dT 2, cap, .inl f))) (wv : S0.heap.size ≤ av) : vMv l S0 D vcl GT y_String_init prog_20_method_53_code 2 none 4 100 1 n [.ref s0, .ref a] h0 (fun h' => ∃ q g, h0 q = none ∧ S0.heap.size ≤ q ∧ h' = vup (vup h0 q (.inl (dT 2, n, .inl g))) s0 (.inr (0, [.ref q, .int 0, .int 0, .int 0])) ∧ fitB g n ∧ ∀ k, k < n → g k = f k) := by
  unfold vMv
  refine vM_ofQ hE.1 (by decide) (Nat.le_of_ble_eq_true rfl) (fun p e s m args below meth c ls Q hQ C hr hlk hnm X hl => ?_)
  have C : vC p s m _ c _ _ "java/lang/String" GT D vcl (vty dT) := C
  have hx := C.1.1
  have hb := C.1.2.1
  obtain ⟨H, eH⟩ : ∃ z, z = s.heap := ⟨_, rfl⟩
  obtain ⟨locs, elocs⟩ : ∃ z : List Loc, z = [] := ⟨_, rfl⟩
  rw [← eH, ← elocs] at X
  rw [← eH, ← elocs]
  clear eH elocs
  have hl : lv_has ls 2 [(0, .ref s0), (1, .ref a)] := hl
  refine lv_aload_n hx hb d_String_initS_0 rfl (lv_at hl 0 rfl) ?_
  refine lv_aload_n hx hb d_String_initS_1 rfl (lv_at hl 1 rfl) ?_
  refine lv_null hx hb d_String_initS_2 ?_
  refine mv_bv X (mv_rI (rest := []) (As := [.ref a, .null]) gt_good C X k_17_489 (cm_String_initA hE hJ hn hcc hf ks ws0 ka kv wv) ⟨Nat.le_of_ble_eq_true rfl, Nat.le_of_ble_eq_true rfl⟩ rfl hl.1 rfl (Nat.le_of_ble_eq_true rfl) d_String_initS_3 ⟨by show 0 + 1 ≤ 1; omega, by show 0 + n ≤ n; omega⟩) (fun hN H locs hp X => ?_)
  have hq := hp
  exact mq_vret hQ C X hr hlk hq (by omega) (by omega) d_String_initS_6
theorem d_StringBuilder_toString_0 : decode prog_21_method_42_code 0 = .ok (.new 18, 3) := by decide +kernel
theorem d_StringBuilder_toString_3 : decode prog_21_method_42_code 3 = .ok (.dup, 1) := by decide +kernel
theorem d_StringBuilder_toString_4 : decode prog_21_method_42_code 4 = .ok (.aload_n 0, 1) := by decide +kernel
theorem d_StringBuilder_toString_5 : decode prog_21_method_42_code 5 = .ok (.invokespecial 137, 3) := by decide +kernel
theorem d_StringBuilder_toString_8 : decode prog_21_method_42_code 8 = .ok (.areturn, 1) := by decide +kernel
set_option maxRecDepth 100000 in
set_option maxHeartbeats 4000000 in
theorem cm_StringBuilder_toString {l : Launch} {S0 : State} {b : Nat} {D : va_G} {dT : Nat → ClassId} (hE : vEnv S0 b D dT) {dE mO : Nat} (hJ : vJ S0 dE mO) {h0 : vH} {a av n cap : Nat} {ml : Int32} {f : Nat → Int32} (hn : n ≤ cap) (hcc : cap < 2 ^ 20) (hf : fitB f cap) (ka : h0 a = some (.inr (1, [.ref av, .int 0, .int ml, .int (nI n)]))) (kv : h0 av = some (.inl (dT 2, cap, .inl f))) (wv : S0.heap.size ≤ av) : vMq l S0 D vcl GT y_StringBuilder_toString prog_21_method_42_code 1 (some (.object "java/lang/String")) 5 121 2 (4 + n) [.ref a] h0 (fun r h' => ∃ q qa g, r = some q ∧ vfx (fun _ => False) h0 h' ∧ (h0 q = none ∧ h0 qa = none) ∧ h' q = some (.inr (0, [.ref qa, .int 0, .int 0, .int 0])) ∧ h' qa = some (.inl (dT 2, n, .inl g)) ∧ S0.heap.size ≤ qa ∧ fitB g n ∧ ∀ k, k < n → g k = f k) := by
  unfold vMq
  refine vM_ofQ hE.1 (by decide) (Nat.le_of_ble_eq_true rfl) (fun p e s m args below meth c ls Q hQ C hr hlk hnm X hl => ?_)
  have C : vC p s m _ c _ _ "java/lang/StringBuilder" GT D vcl (vty dT) := C
  have hx := C.1.1
  have hb := C.1.2.1
  obtain ⟨H, eH⟩ : ∃ z, z = s.heap := ⟨_, rfl⟩
  obtain ⟨locs, elocs⟩ : ∃ z : List Loc, z = [] := ⟨_, rfl⟩
  rw [← eH, ← elocs] at X
  rw [← eH, ← elocs]
  clear eH elocs
  have hl : lv_has ls 1 [(0, .ref a)] := hl
  refine mv_new C X n_18_18 (by show 0 + 1 ≤ 2; omega) (by show 0 + 4 ≤ (4 + n); omega) d_StringBuilder_toString_0 (fun q1 H z_q1 w_q1 X => ?_)
  have n_a_q1 : a ≠ q1 := vnf ka z_q1
  have n_av_q1 : av ≠ q1 := vnf kv z_q1
  have X : vO S0 D vcl (vup h0 q1 (.inr (0, [.null, .int 0, .int 0, .int 0]))) s H locs := X
  change W _ _ _ _ _ _ _ _ _ _ _ _ (0 + 1) (0 + 4) _ _
  refine lv_dup hx hb d_StringBuilder_toString_3 rfl ?_
  refine lv_aload_n hx hb d_StringBuilder_toString_4 rfl (lv_at hl 0 rfl) ?_
  refine mv_bv X (mv_rI (rest := [.ref q1]) (As := [.ref a]) gt_good C X k_18_137 (cm_String_initS hE hJ hn hcc hf (vup_s _ _ _) w_q1 ((vup_n _ _ n_a_q1).trans ka) ((vup_n _ _ n_av_q1).trans kv) wv) ⟨Nat.le_of_ble_eq_true rfl, Nat.le_of_ble_eq_true rfl⟩ rfl hl.1 rfl (Nat.le_of_ble_eq_true rfl) d_StringBuilder_toString_5 ⟨by show (0 + 1) + 1 ≤ 2; omega, by show (0 + 4) + n ≤ (4 + n); omega⟩) (fun hN H locs hp X => ?_)
  obtain ⟨qa, g, zq, wq, eh, fg, eg⟩ := hp
  replace eh := eh.symm
  subst eh
  have n_a_qa : a ≠ qa := vnf ((vup_n _ _ n_a_q1).trans ka) zq
  have n_av_qa : av ≠ qa := vnf ((vup_n _ _ n_av_q1).trans kv) zq
  have n_q1_qa : q1 ≠ qa := vnf (vup_s _ _ _) zq
  exact mq_aret (r := some q1) hQ C X hr (Or.inl ⟨_, rfl⟩) hlk (⟨q1, qa, g, rfl, ((vfx.rf.new1 z_q1).new1 zq).new z_q1, ⟨z_q1, (vfx.rf.new1 z_q1).non zq⟩, vup_s _ _ _, ((vup_n _ _ (Ne.symm n_q1_qa)).trans (vup_s _ _ _)), wq, fg, eg⟩) (by omega) (by omega) d_StringBuilder_toString_8
