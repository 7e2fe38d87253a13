theorem d_AbstractCollection_init_0 : decode prog_25_method_1_code 0 = .ok (.aload_n 0, 1) := by decide +kernel
theorem d_AbstractCollection_init_1 : decode prog_25_method_1_code 1 = .ok (.invokespecial 1, 3) := by decide +kernel
theorem d_AbstractCollection_init_4 : decode prog_25_method_1_code 4 = .ok (.return_, 1) := by decide +kernel
set_option maxRecDepth 100000 in
set_option maxHeartbeats 4000000 in
theorem cm_AbstractCollection_init {l : Launch} {S0 : State} {b : Nat} {D : va_G} {dT : Nat → ClassId} (hE : vEnv S0 b D dT) {h0 : vH} {a : Nat} (ka : h0 a = some (.inr (2, [.null, .int 0, .int 0]))) (wa : S0.heap.size ≤ a) : vMv l S0 D vcl GT y_AbstractCollection_init prog_25_method_1_code 1 none 1 12 0 0 [.ref a] h0 (fun h' => h' = h0) := by
  unfold vMv
  refine vM_ofQ hE.1 (by decide) (Nat.le_of_ble_eq_true rfl) (fun p e s m args below meth c ls Q hQ C hr hlk hnm X hl => ?_)
  have C : vC p s m _ c _ _ "java/util/AbstractCollection" GT D vcl (vty dT) := C
  have hx := C.1.1
  have hb := C.1.2.1
  obtain ⟨H, eH⟩ : ∃ z, z = s.heap := ⟨_, rfl⟩
  obtain ⟨locs, elocs⟩ : ∃ z : List Loc, z = [] := ⟨_, rfl⟩
  rw [← eH, ← elocs] at X
  rw [← eH, ← elocs]
  clear eH elocs
  have hl : lv_has ls 1 [(0, .ref a)] := hl
  refine lv_aload_n hx hb d_AbstractCollection_init_0 rfl (lv_at hl 0 rfl) ?_
  refine mv_obj C hl.1 ⟨gt_1 92 (by decide +kernel) rfl, gt_1 34 (by decide +kernel) rfl, gt_1 35 (rfl) rfl⟩ (Nat.le_of_ble_eq_true rfl) (Nat.le_of_ble_eq_true rfl) d_AbstractCollection_init_1 ?_
  exact mq_vret hQ C X hr hlk rfl (by omega) (by omega) d_AbstractCollection_init_4
theorem d_AbstractList_init_0 : decode prog_26_method_1_code 0 = .ok (.aload_n 0, 1) := by decide +kernel
theorem d_AbstractList_init_1 : decode prog_26_method_1_code 1 = .ok (.invokespecial 1, 3) := by decide +kernel
theorem d_AbstractList_init_4 : decode prog_26_method_1_code 4 = .ok (.aload_n 0, 1) := by decide +kernel
theorem d_AbstractList_init_5 : decode prog_26_method_1_code 5 = .ok (.iconst 0, 1) := by decide +kernel
theorem d_AbstractList_init_6 : decode prog_26_method_1_code 6 = .ok (.putfield 7, 3) := by decide +kernel
theorem d_AbstractList_init_9 : decode prog_26_method_1_code 9 = .ok (.return_, 1) := by decide +kernel
set_option maxRecDepth 100000 in
set_option maxHeartbeats 4000000 in
theorem cm_AbstractList_init {l : Launch} {S0 : State} {b : Nat} {D : va_G} {dT : Nat → ClassId} (hE : vEnv S0 b D dT) {h0 : vH} {a : Nat} (ka : h0 a = some (.inr (2, [.null, .int 0, .int 0]))) (wa : S0.heap.size ≤ a) : vMv l S0 D vcl GT y_AbstractList_init prog_26_method_1_code 1 none 2 32 0 0 [.ref a] h0 (fun h' => h' = h0) := by
  unfold vMv
  refine vM_ofQ hE.1 (by decide) (Nat.le_of_ble_eq_true rfl) (fun p e s m args below meth c ls Q hQ C hr hlk hnm X hl => ?_)
  have C : vC p s m _ c _ _ "java/util/AbstractList" GT D vcl (vty dT) := C
  have hx := C.1.1
  have hb := C.1.2.1
  obtain ⟨H, eH⟩ : ∃ z, z = s.heap := ⟨_, rfl⟩
  obtain ⟨locs, elocs⟩ : ∃ z : List Loc, z = [] := ⟨_, rfl⟩
  rw [← eH, ← elocs] at X
  rw [← eH, ← elocs]
  clear eH elocs
  have hl : lv_has ls 1 [(0, .ref a)] := hl
  refine lv_aload_n hx hb d_AbstractList_init_0 rfl (lv_at hl 0 rfl) ?_
  refine mv_bv X (mv_rI (rest := []) (As := []) gt_good C X k_22_1 (cm_AbstractCollection_init hE ka wa) ⟨Nat.le_of_ble_eq_true rfl, Nat.le_of_ble_eq_true rfl⟩ rfl hl.1 rfl (Nat.le_of_ble_eq_true rfl) d_AbstractList_init_1 ⟨Nat.zero_le _, Nat.zero_le _⟩) (fun hN H locs hp X => ?_)
  replace hp := hp.symm
  subst hp
  refine lv_aload_n hx hb d_AbstractList_init_4 rfl (lv_at hl 0 rfl) ?_
  refine lv_iconst (v := 0) hx hb d_AbstractList_init_5 (by decide) ?_
  refine mv_put C X ka wa 2 p_22_7_2 rfl rfl (Nat.le_of_ble_eq_true rfl) d_AbstractList_init_6 (fun H locs X => ?_)
  have X : vO S0 D vcl (vup h0 a (.inr (2, [.null, .int 0, .int 0]))) s H locs := X
  exact mq_vret hQ C X hr hlk (vup_idJ ka) (by omega) (by omega) d_AbstractList_init_9
theorem d_ArrayList_init_0 : decode prog_27_method_2_code 0 = .ok (.aload_n 0, 1) := by decide +kernel
theorem d_ArrayList_init_1 : decode prog_27_method_2_code 1 = .ok (.invokespecial 1, 3) := by decide +kernel
theorem d_ArrayList_init_4 : decode prog_27_method_2_code 4 = .ok (.aload_n 0, 1) := by decide +kernel
theorem d_ArrayList_init_5 : decode prog_27_method_2_code 5 = .ok (.getstatic 39, 3) := by decide +kernel
theorem d_ArrayList_init_8 : decode prog_27_method_2_code 8 = .ok (.putfield 9, 3) := by decide +kernel
theorem d_ArrayList_init_11 : decode prog_27_method_2_code 11 = .ok (.return_, 1) := by decide +kernel
set_option maxRecDepth 100000 in
set_option maxHeartbeats 4000000 in
theorem cm_ArrayList_init {l : Launch} {S0 : State} {b : Nat} {D : va_G} {dT : Nat → ClassId} (hE : vEnv S0 b D dT) {dE mO : Nat} (hJ : vJ S0 dE mO) {h0 : vH} {a : Nat} (ka : h0 a = some (.inr (2, [.null, .int 0, .int 0]))) (wa : S0.heap.size ≤ a) : vMv l S0 D vcl GT y_ArrayList_init prog_27_method_2_code 1 none 3 52 0 0 [.ref a] h0 (fun h' => h' = vup h0 a (.inr (2, [.ref dE, .int 0, .int 0]))) := by
  unfold vMv
  refine vM_ofQ hE.1 (by decide) (Nat.le_of_ble_eq_true rfl) (fun p e s m args below meth c ls Q hQ C hr hlk hnm X hl => ?_)
  have C : vC p s m _ c _ _ "java/util/ArrayList" GT D vcl (vty dT) := C
  have hx := C.1.1
  have hb := C.1.2.1
  obtain ⟨H, eH⟩ : ∃ z, z = s.heap := ⟨_, rfl⟩
  obtain ⟨locs, elocs⟩ : ∃ z : List Loc, z = [] := ⟨_, rfl⟩
  rw [← eH, ← elocs] at X
  rw [← eH, ← elocs]
  clear eH elocs
  have hl : lv_has ls 1 [(0, .ref a)] := hl
  refine lv_aload_n hx hb d_ArrayList_init_0 rfl (lv_at hl 0 rfl) ?_
  refine mv_bv X (mv_rI (rest := []) (As := []) gt_good C X k_23_1 (cm_AbstractList_init hE ka wa) ⟨Nat.le_of_ble_eq_true rfl, Nat.le_of_ble_eq_true rfl⟩ rfl hl.1 rfl (Nat.le_of_ble_eq_true rfl) d_ArrayList_init_1 ⟨Nat.zero_le _, Nat.zero_le _⟩) (fun hN H locs hp X => ?_)
  replace hp := hp.symm
  subst hp
  refine lv_aload_n hx hb d_ArrayList_init_4 rfl (lv_at hl 0 rfl) ?_
  refine mv_gets C X hJ.2.1 (gt_1 93 (by decide +kernel) rfl) rfl d_ArrayList_init_5 ?_
  refine mv_put C X ka wa 0 p_23_9_2 rfl rfl (Nat.le_of_ble_eq_true rfl) d_ArrayList_init_8 (fun H locs X => ?_)
  have X : vO S0 D vcl (vup h0 a (.inr (2, [.ref dE, .int 0, .int 0]))) s H locs := X
  exact mq_vret hQ C X hr hlk rfl (by omega) (by omega) d_ArrayList_init_11
theorem d_ArrayList_size_0 : decode prog_27_method_8_code 0 = .ok (.aload_n 0, 1) := by decide +kernel
theorem d_ArrayList_size_1 : decode prog_27_method_8_code 1 = .ok (.getfield 48, 3) := by decide +kernel
theorem d_ArrayList_size_4 : decode prog_27_method_8_code 4 = .ok (.ireturn, 1) := by decide +kernel
set_option maxRecDepth 100000 in
set_option maxHeartbeats 4000000 in
theorem cm_ArrayList_size {l : Launch} {S0 : State} {b : Nat} {D : va_G} {dT : Nat → ClassId} (hE : vEnv S0 b D dT) {h0 : vH} {a ea n : Nat} {md : Int32} (ka : h0 a = some (.inr (2, [.ref ea, .int (nI n), .int md]))) : vMi l S0 D vcl GT y_ArrayList_size prog_27_method_8_code 1 (some .int) 0 0 0 0 [.ref a] h0 (fun r h' => h' = h0 ∧ r = nI n) := by
  unfold vMi
  refine vM_ofQ hE.1 (by decide) (Nat.le_of_ble_eq_true rfl) (fun p e s m args below meth c ls Q hQ C hr hlk hnm X hl => ?_)
  have C : vC p s m _ c _ _ "java/util/ArrayList" GT D vcl (vty dT) := C
  have hx := C.1.1
  have hb := C.1.2.1
  obtain ⟨H, eH⟩ : ∃ z, z = s.heap := ⟨_, rfl⟩
  obtain ⟨locs, elocs⟩ : ∃ z : List Loc, z = [] := ⟨_, rfl⟩
  rw [← eH, ← elocs] at X
  rw [← eH, ← elocs]
  clear eH elocs
  have hl : lv_has ls 1 [(0, .ref a)] := hl
  refine lv_aload_n hx hb d_ArrayList_size_0 rfl (lv_at hl 0 rfl) ?_
  refine mv_get C X ka 1 f_23_48_2 (v := .int (nI n)) rfl d_ArrayList_size_1 ?_
  exact mq_iret hQ C X hr rfl hlk (⟨rfl, rfl⟩) (by omega) (by omega) d_ArrayList_size_4
theorem d_ArrayList_elementData_0 : decode prog_27_method_18_code 0 = .ok (.aload_n 0, 1) := by decide +kernel
theorem d_ArrayList_elementData_1 : decode prog_27_method_18_code 1 = .ok (.getfield 9, 3) := by decide +kernel
theorem d_ArrayList_elementData_4 : decode prog_27_method_18_code 4 = .ok (.iload_n 1, 1) := by decide +kernel
theorem d_ArrayList_elementData_5 : decode prog_27_method_18_code 5 = .ok (.aaload, 1) := by decide +kernel
theorem d_ArrayList_elementData_6 : decode prog_27_method_18_code 6 = .ok (.areturn, 1) := by decide +kernel
set_option maxRecDepth 100000 in
set_option maxHeartbeats 4000000 in
theorem cm_ArrayList_elementData {l : Launch} {S0 : State} {b : Nat} {D : va_G} {dT : Nat → ClassId} (hE : vEnv S0 b D dT) {h0 : vH} {a ea n cap : Nat} {md : Int32} {f : Nat → Option Nat} {j : Nat} (hj : j < cap) (hc : cap < 2 ^ 30) (ka : h0 a = some (.inr (2, [.ref ea, .int (nI n), .int md]))) (ke : h0 ea = some (.inl (dT 4, cap, .inr (.inr (.inr (.inr f)))))) : vMq l S0 D vcl GT y_ArrayList_elementData prog_27_method_18_code 2 (some (.object "java/lang/Object")) 0 0 0 0 [.ref a, .int (nI j)] h0 (fun r h' => h' = h0 ∧ r = f j) := by
  unfold vMq
  refine vM_ofQ hE.1 (by decide) (Nat.le_of_ble_eq_true rfl) (fun p e s m args below meth c ls Q hQ C hr hlk hnm X hl => ?_)
  have C : vC p s m _ c _ _ "java/util/ArrayList" GT D vcl (vty dT) := C
  have hx := C.1.1
  have hb := C.1.2.1
  obtain ⟨H, eH⟩ : ∃ z, z = s.heap := ⟨_, rfl⟩
  obtain ⟨locs, elocs⟩ : ∃ z : List Loc, z = [] := ⟨_, rfl⟩
  rw [← eH, ← elocs] at X
  rw [← eH, ← elocs]
  clear eH elocs
  have hl : lv_has ls 2 [(0, .ref a), (1, .int (nI j))] := hl
  refine lv_aload_n hx hb d_ArrayList_elementData_0 rfl (lv_at hl 0 rfl) ?_
  refine mv_get C X ka 0 f_23_9_2 (v := .ref ea) rfl d_ArrayList_elementData_1 ?_
  refine lv_iload_n hx hb d_ArrayList_elementData_4 rfl (lv_at hl 1 rfl) ?_
  refine mv_aald C X ke 4 rfl rfl j rfl hj (by omega) d_ArrayList_elementData_5 ?_
  exact mq_aret (r := (f j)) hQ C X hr (Or.inl ⟨_, rfl⟩) hlk (⟨rfl, rfl⟩) (by omega) (by omega) d_ArrayList_elementData_6
theorem d_ArrayList_get_0 : decode prog_27_method_20_code 0 = .ok (.iload_n 1, 1) := by decide +kernel
theorem d_ArrayList_get_1 : decode prog_27_method_20_code 1 = .ok (.aload_n 0, 1) := by decide +kernel
theorem d_ArrayList_get_2 : decode prog_27_method_20_code 2 = .ok (.getfield 48, 3) := by decide +kernel
theorem d_ArrayList_get_5 : decode prog_27_method_20_code 5 = .ok (.invokestatic 118, 3) := by decide +kernel
theorem d_ArrayList_get_8 : decode prog_27_method_20_code 8 = .ok (.pop, 1) := by decide +kernel
theorem d_ArrayList_get_9 : decode prog_27_method_20_code 9 = .ok (.aload_n 0, 1) := by decide +kernel
theorem d_ArrayList_get_10 : decode prog_27_method_20_code 10 = .ok (.iload_n 1, 1) := by decide +kernel
theorem d_ArrayList_get_11 : decode prog_27_method_20_code 11 = .ok (.invokevirtual 123, 3) := by decide +kernel
theorem d_ArrayList_get_14 : decode prog_27_method_20_code 14 = .ok (.areturn, 1) := by decide +kernel
set_option maxRecDepth 100000 in
set_option maxHeartbeats 4000000 in
theorem cm_ArrayList_get {l : Launch} {S0 : State} {b : Nat} {D : va_G} {dT : Nat → ClassId} (hE : vEnv S0 b D dT) {h0 : vH} {a ea n cap : Nat} {md : Int32} {f : Nat → Option Nat} {j : Nat} (hj : j < n) (hn : n ≤ cap) (hc : cap < 2 ^ 30) (ka : h0 a = some (.inr (2, [.ref ea, .int (nI n), .int md]))) (ke : h0 ea = some (.inl (dT 4, cap, .inr (.inr (.inr (.inr f)))))) : vMq l S0 D vcl GT y_ArrayList_get prog_27_method_20_code 2 (some (.object "java/lang/Object")) 2 43 0 0 [.ref a, .int (nI j)] h0 (fun r h' => h' = h0 ∧ r = f j) := by
  unfold vMq
  refine vM_ofQ hE.1 (by decide) (Nat.le_of_ble_eq_true rfl) (fun p e s m args below meth c ls Q hQ C hr hlk hnm X hl => ?_)
  have C : vC p s m _ c _ _ "java/util/ArrayList" GT D vcl (vty dT) := C
  have hx := C.1.1
  have hb := C.1.2.1
  obtain ⟨H, eH⟩ : ∃ z, z = s.heap := ⟨_, rfl⟩
  obtain ⟨locs, elocs⟩ : ∃ z : List Loc, z = [] := ⟨_, rfl⟩
  rw [← eH, ← elocs] at X
  rw [← eH, ← elocs]
  clear eH elocs
  have hl : lv_has ls 2 [(0, .ref a), (1, .int (nI j))] := hl
  refine lv_iload_n hx hb d_ArrayList_get_0 rfl (lv_at hl 1 rfl) ?_
  refine lv_aload_n hx hb d_ArrayList_get_1 rfl (lv_at hl 0 rfl) ?_
  refine mv_get C X ka 1 f_23_48_2 (v := .int (nI n)) rfl d_ArrayList_get_2 ?_
  refine mv_bi X (mv_rS (rest := []) (As := [.int (nI j), .int (nI n)]) gt_good C X k_23_118 (cm_Objects_checkIndex hE hj (by omega)) ⟨Nat.le_of_ble_eq_true rfl, Nat.le_of_ble_eq_true rfl⟩ rfl hl.1 rfl (Nat.le_of_ble_eq_true rfl) d_ArrayList_get_5 ⟨Nat.zero_le _, Nat.zero_le _⟩) (fun r1 hN H locs hp X => ?_)
  obtain ⟨eh, er⟩ := hp
  replace eh := eh.symm
  replace er := er.symm
  subst eh er
  refine lv_pop hx hb d_ArrayList_get_8 rfl ?_
  refine lv_aload_n hx hb d_ArrayList_get_9 rfl (lv_at hl 0 rfl) ?_
  refine lv_iload_n hx hb d_ArrayList_get_10 rfl (lv_at hl 1 rfl) ?_
  refine mv_bq X (mv_rV (rest := []) (As := [.int (nI j)]) gt_good C X k_23_123 (cm_ArrayList_elementData hE (by omega) hc ka ke) ka rfl rfl ⟨Nat.le_of_ble_eq_true rfl, Nat.le_of_ble_eq_true rfl⟩ rfl hl.1 rfl (Nat.le_of_ble_eq_true rfl) d_ArrayList_get_11 ⟨Nat.zero_le _, Nat.zero_le _⟩) (fun r2 hN H locs hp X => ?_)
  obtain ⟨eh, er⟩ := hp
  replace eh := eh.symm
  replace er := er.symm
  subst eh er
  exact mq_aret (r := (f j)) hQ C X hr (Or.inl ⟨_, rfl⟩) hlk (⟨rfl, rfl⟩) (by omega) (by omega) d_ArrayList_get_14
theorem d_Arrays_copyOfQ3_0 : decode prog_28_method_120_code 0 = .ok (.aload_n 2, 1) := by decide +kernel
theorem d_Arrays_copyOfQ3_1 : decode prog_28_method_120_code 1 = .ok (.ldc 110, 2) := by decide +kernel
theorem d_Arrays_copyOfQ3_3 : decode prog_28_method_120_code 3 = .ok (.if_acmp .ne 10, 3) := by decide +kernel
theorem d_Arrays_copyOfQ3_6 : decode prog_28_method_120_code 6 = .ok (.iload_n 1, 1) := by decide +kernel
theorem d_Arrays_copyOfQ3_7 : decode prog_28_method_120_code 7 = .ok (.anewarray 2, 3) := by decide +kernel
theorem d_Arrays_copyOfQ3_10 : decode prog_28_method_120_code 10 = .ok (.goto 14, 3) := by decide +kernel
theorem d_Arrays_copyOfQ3_24 : decode prog_28_method_120_code 24 = .ok (.astore_n 3, 1) := by decide +kernel
theorem d_Arrays_copyOfQ3_25 : decode prog_28_method_120_code 25 = .ok (.aload_n 0, 1) := by decide +kernel
theorem d_Arrays_copyOfQ3_26 : decode prog_28_method_120_code 26 = .ok (.iconst 0, 1) := by decide +kernel
theorem d_Arrays_copyOfQ3_27 : decode prog_28_method_120_code 27 = .ok (.aload_n 3, 1) := by decide +kernel
theorem d_Arrays_copyOfQ3_28 : decode prog_28_method_120_code 28 = .ok (.iconst 0, 1) := by decide +kernel
theorem d_Arrays_copyOfQ3_29 : decode prog_28_method_120_code 29 = .ok (.aload_n 0, 1) := by decide +kernel
theorem d_Arrays_copyOfQ3_30 : decode prog_28_method_120_code 30 = .ok (.arraylength, 1) := by decide +kernel
theorem d_Arrays_copyOfQ3_31 : decode prog_28_method_120_code 31 = .ok (.iload_n 1, 1) := by decide +kernel
theorem d_Arrays_copyOfQ3_32 : decode prog_28_method_120_code 32 = .ok (.invokestatic 304, 3) := by decide +kernel
theorem d_Arrays_copyOfQ3_35 : decode prog_28_method_120_code 35 = .ok (.invokestatic 150, 3) := by decide +kernel
theorem d_Arrays_copyOfQ3_38 : decode prog_28_method_120_code 38 = .ok (.aload_n 3, 1) := by decide +kernel
theorem d_Arrays_copyOfQ3_39 : decode prog_28_method_120_code 39 = .ok (.areturn, 1) := by decide +kernel
set_option maxRecDepth 100000 in
set_option maxHeartbeats 4000000 in
theorem cm_Arrays_copyOfQ3 {l : Launch} {S0 : State} {b : Nat} {D : va_G} {dT : Nat → ClassId} (hE : vEnv S0 b D dT) {dE mO : Nat} (hJ : vJ S0 dE mO) {h0 : vH} {ea cap k0 : Nat} {f : Nat → Option Nat} (hk : cap < k0) (hk2 : k0 < 2 ^ 27) (hel : elO h0 f cap) (ke : h0 ea = some (.inl (dT 4, cap, .inr (.inr (.inr (.inr f)))))) (we : S0.heap.size ≤ ea) : vMq l S0 D vcl GT y_Arrays_copyOf_3 prog_28_method_120_code 4 (some (.array (.object "java/lang/Object"))) 1 30 1 k0 [.ref ea, .int (nI k0), .ref mO] h0 (fun r h' => ∃ q g, r = some q ∧ h0 q = none ∧ S0.heap.size ≤ q ∧ h' = vup h0 q (.inl (dT 4, k0, .inr (.inr (.inr (.inr g))))) ∧ ∀ k, k < cap → g k = f k) := by
  unfold vMq
  refine vM_ofQ hE.1 (by decide) (Nat.le_of_ble_eq_true rfl) (fun p e s m args below meth c ls Q hQ C hr hlk hnm X hl => ?_)
  have C : vC p s m _ c _ _ "java/util/Arrays" GT D vcl (vty dT) := C
  have hx := C.1.1
  have hb := C.1.2.1
  obtain ⟨H, eH⟩ : ∃ z, z = s.heap := ⟨_, rfl⟩
  obtain ⟨locs, elocs⟩ : ∃ z : List Loc, z = [] := ⟨_, rfl⟩
  rw [← eH, ← elocs] at X
  rw [← eH, ← elocs]
  clear eH elocs
  have hl : lv_has ls 4 [(0, .ref ea), (1, .int (nI k0)), (2, .ref mO)] := hl
  refine lv_aload_n hx hb d_Arrays_copyOfQ3_0 rfl (lv_at hl 2 rfl) ?_
  refine mv_ldcM C X hJ.2.2.2.2.1 (gt_3 140 (by decide +kernel) rfl) d_Arrays_copyOfQ3_1 ?_
  refine lv_acmp_ne (rx := (some mO)) (ry := (some mO)) (tgt := 13) hx hb d_Arrays_copyOfQ3_3 (by decide) (fun z => absurd z (fun q => q rfl)) (fun c1 => ?_)
  refine lv_iload_n hx hb d_Arrays_copyOfQ3_6 rfl (lv_at hl 1 rfl) ?_
  refine mv_newq C X (gt_3 142 (by decide +kernel) rfl) (va_Nw_AO X hJ) 4 rfl k0 rfl (by omega) (by show k0 * 4 ≤ _; omega) (by show 0 + 1 ≤ 1; omega) (by show 0 + k0 ≤ k0; omega) d_Arrays_copyOfQ3_7 (fun q2 H z_q2 w_q2 X => ?_)
  have n_ea_q2 : ea ≠ q2 := vnf ke z_q2
  have X : vO S0 D vcl (vup h0 q2 (.inl (dT 4, k0, .inr (.inr (.inr (.inr (fun _ => none))))))) s H locs := X
  refine lv_goto (tgt := 24) hx hb d_Arrays_copyOfQ3_10 (by decide) ?_
  refine lv_astore_n (lv' := [(3, .ref q2), (0, .ref ea), (1, .int (nI k0)), (2, .ref mO)]) hx hb d_Arrays_copyOfQ3_24 rfl hl (by decide) rfl (fun ls hl => ?_)
  refine lv_aload_n hx hb d_Arrays_copyOfQ3_25 rfl (lv_at hl 1 rfl) ?_
  refine lv_iconst (v := 0) hx hb d_Arrays_copyOfQ3_26 (by decide) ?_
  refine lv_aload_n hx hb d_Arrays_copyOfQ3_27 rfl (lv_at hl 0 rfl) ?_
  refine lv_iconst (v := 0) hx hb d_Arrays_copyOfQ3_28 (by decide) ?_
  refine lv_aload_n hx hb d_Arrays_copyOfQ3_29 rfl (lv_at hl 1 rfl) ?_
  refine mv_alen C X ((vup_n _ _ n_ea_q2).trans ke) 4 rfl d_Arrays_copyOfQ3_30 ?_
  refine lv_iload_n hx hb d_Arrays_copyOfQ3_31 rfl (lv_at hl 2 rfl) ?_
  refine va_mmin hx hb (by rw [C.1.2.2.1, hl.1]) C.1.2.2.2.1 (C.1.2.2.2.2 _ (gt_2 31 (by decide +kernel) rfl)) (C.1.2.2.2.2 _ (gt_2 32 (by decide +kernel) rfl)) (C.1.2.2.2.2 _ (gt_1 15 (by decide +kernel) rfl)) (C.1.2.2.2.2 _ (gt_2 33 (rfl) rfl)) (Nat.le_of_ble_eq_true rfl) (Nat.le_of_ble_eq_true rfl) (by show (0 + 1) ≤ 1; omega) (by show (0 + k0) ≤ k0; omega) d_Arrays_copyOfQ3_32 ?_
  rw [if_neg (nI_nlt (by omega) (by omega))]
  refine mv_copyq C X hl.1 ⟨gt_2 34 (by decide +kernel) rfl, gt_2 36 (by decide +kernel) rfl, gt_2 35 (by decide +kernel) rfl, gt_1 17 (by decide +kernel) rfl⟩ ((vup_n _ _ n_ea_q2).trans ke) we (vup_s _ _ _) w_q2 4 rfl 0 0 cap rfl rfl rfl (by omega) (by omega) (by omega) (by omega) (fun i hi y0 hy => elO.any C X hJ (hel.new z_q2) hi (by rw [Nat.zero_add] at hy; exact hy)) (Nat.le_of_ble_eq_true rfl) (Nat.le_of_ble_eq_true rfl) d_Arrays_copyOfQ3_35 (fun H locs X => ?_)
  rw [vup_u] at X
  have X : vO S0 D vcl (vup h0 q2 (.inl (dT 4, k0, .inr (.inr (.inr (.inr (va_cpy f (fun _ => none) 0 0 cap))))))) s H locs := X
  refine lv_aload_n hx hb d_Arrays_copyOfQ3_38 rfl (lv_at hl 0 rfl) ?_
  exact mq_aret (r := some q2) hQ C X hr (Or.inr ⟨_, rfl⟩) hlk (⟨q2, _, rfl, z_q2, w_q2, rfl, fun k hk => by rw [pk_cpy_in (Nat.zero_le _) (by omega), Nat.sub_zero, Nat.zero_add]⟩) (by omega) (by omega) d_Arrays_copyOfQ3_39
theorem d_Arrays_copyOfQ2_0 : decode prog_28_method_119_code 0 = .ok (.aload_n 0, 1) := by decide +kernel
theorem d_Arrays_copyOfQ2_1 : decode prog_28_method_119_code 1 = .ok (.iload_n 1, 1) := by decide +kernel
theorem d_Arrays_copyOfQ2_2 : decode prog_28_method_119_code 2 = .ok (.aload_n 0, 1) := by decide +kernel
theorem d_Arrays_copyOfQ2_3 : decode prog_28_method_119_code 3 = .ok (.invokevirtual 86, 3) := by decide +kernel
theorem d_Arrays_copyOfQ2_6 : decode prog_28_method_119_code 6 = .ok (.invokestatic 300, 3) := by decide +kernel
theorem d_Arrays_copyOfQ2_9 : decode prog_28_method_119_code 9 = .ok (.areturn, 1) := by decide +kernel
set_option maxRecDepth 100000 in
set_option maxHeartbeats 4000000 in
theorem cm_Arrays_copyOfQ2 {l : Launch} {S0 : State} {b : Nat} {D : va_G} {dT : Nat → ClassId} (hE : vEnv S0 b D dT) {dE mO : Nat} (hJ : vJ S0 dE mO) {h0 : vH} {ea cap k0 : Nat} {f : Nat → Option Nat} (hk : cap < k0) (hk2 : k0 < 2 ^ 27) (hel : elO h0 f cap) (ke : h0 ea = some (.inl (dT 4, cap, .inr (.inr (.inr (.inr f)))))) (we : S0.heap.size ≤ ea) : vMq l S0 D vcl GT y_Arrays_copyOf_2 prog_28_method_119_code 2 (some (.array (.object "java/lang/Object"))) 2 53 1 k0 [.ref ea, .int (nI k0)] h0 (fun r h' => ∃ q g, r = some q ∧ h0 q = none ∧ S0.heap.size ≤ q ∧ h' = vup h0 q (.inl (dT 4, k0, .inr (.inr (.inr (.inr g))))) ∧ ∀ k, k < cap → g k = f k) := by
  unfold vMq
  refine vM_ofQ hE.1 (by decide) (Nat.le_of_ble_eq_true rfl) (fun p e s m args below meth c ls Q hQ C hr hlk hnm X hl => ?_)
  have C : vC p s m _ c _ _ "java/util/Arrays" GT D vcl (vty dT) := C
  have hx := C.1.1
  have hb := C.1.2.1
  obtain ⟨H, eH⟩ : ∃ z, z = s.heap := ⟨_, rfl⟩
  obtain ⟨locs, elocs⟩ : ∃ z : List Loc, z = [] := ⟨_, rfl⟩
  rw [← eH, ← elocs] at X
  rw [← eH, ← elocs]
  clear eH elocs
  have hl : lv_has ls 2 [(0, .ref ea), (1, .int (nI k0))] := hl
  refine lv_aload_n hx hb d_Arrays_copyOfQ2_0 rfl (lv_at hl 0 rfl) ?_
  refine lv_iload_n hx hb d_Arrays_copyOfQ2_1 rfl (lv_at hl 1 rfl) ?_
  refine lv_aload_n hx hb d_Arrays_copyOfQ2_2 rfl (lv_at hl 0 rfl) ?_
  refine mv_getC C X hl.1 ⟨gt_3 119 (by decide +kernel) rfl, gt_3 120 (by decide +kernel) rfl, gt_3 136 (by decide +kernel) rfl, gt_6 151 (by decide +kernel) rfl⟩ hJ.2.2.2.2.2.1 hJ.2.2.2.2.1 ke we 4 rfl (Nat.le_of_ble_eq_true rfl) (Nat.le_of_ble_eq_true rfl) d_Arrays_copyOfQ2_3 ?_
  refine mv_bq X (mv_rS (rest := []) (As := [.ref ea, .int (nI k0), .ref mO]) gt_good C X k_24_300 (cm_Arrays_copyOfQ3 hE hJ hk hk2 hel ke we) ⟨Nat.le_of_ble_eq_true rfl, Nat.le_of_ble_eq_true rfl⟩ rfl hl.1 rfl (Nat.le_of_ble_eq_true rfl) d_Arrays_copyOfQ2_6 ⟨by show 0 + 1 ≤ 1; omega, by show 0 + k0 ≤ k0; omega⟩) (fun r1 hN H locs hp X => ?_)
  obtain ⟨q, g, er, zq, wq, eh, eg⟩ := hp
  subst er
  change W _ _ _ _ _ _ _ _ _ _ _ _ _ _ _ (F0 _ _ _ (.ref q :: _))
  exact mq_aret (r := some q) hQ C X hr (Or.inr ⟨_, rfl⟩) hlk (⟨q, g, rfl, zq, wq, eh, eg⟩) (by omega) (by omega) d_Arrays_copyOfQ2_9
theorem d_AL_growE1_0 : decode prog_27_method_6_code 0 = .ok (.aload_n 0, 1) := by decide +kernel
theorem d_AL_growE1_1 : decode prog_27_method_6_code 1 = .ok (.getfield 9, 3) := by decide +kernel
theorem d_AL_growE1_4 : decode prog_27_method_6_code 4 = .ok (.arraylength, 1) := by decide +kernel
theorem d_AL_growE1_5 : decode prog_27_method_6_code 5 = .ok (.istore_n 2, 1) := by decide +kernel
theorem d_AL_growE1_6 : decode prog_27_method_6_code 6 = .ok (.iload_n 2, 1) := by decide +kernel
theorem d_AL_growE1_7 : decode prog_27_method_6_code 7 = .ok (.ifCond .gt 13, 3) := by decide +kernel
theorem d_AL_growE1_10 : decode prog_27_method_6_code 10 = .ok (.aload_n 0, 1) := by decide +kernel
theorem d_AL_growE1_11 : decode prog_27_method_6_code 11 = .ok (.getfield 9, 3) := by decide +kernel
theorem d_AL_growE1_14 : decode prog_27_method_6_code 14 = .ok (.getstatic 39, 3) := by decide +kernel
theorem d_AL_growE1_17 : decode prog_27_method_6_code 17 = .ok (.if_acmp .eq 28, 3) := by decide +kernel
theorem d_AL_growE1_45 : decode prog_27_method_6_code 45 = .ok (.aload_n 0, 1) := by decide +kernel
theorem d_AL_growE1_46 : decode prog_27_method_6_code 46 = .ok (.bipush 10, 2) := by decide +kernel
theorem d_AL_growE1_48 : decode prog_27_method_6_code 48 = .ok (.iload_n 1, 1) := by decide +kernel
theorem d_AL_growE1_49 : decode prog_27_method_6_code 49 = .ok (.invokestatic 79, 3) := by decide +kernel
theorem d_AL_growE1_52 : decode prog_27_method_6_code 52 = .ok (.anewarray 7, 3) := by decide +kernel
theorem d_AL_growE1_55 : decode prog_27_method_6_code 55 = .ok (.dup_x1, 1) := by decide +kernel
theorem d_AL_growE1_56 : decode prog_27_method_6_code 56 = .ok (.putfield 9, 3) := by decide +kernel
theorem d_AL_growE1_59 : decode prog_27_method_6_code 59 = .ok (.areturn, 1) := by decide +kernel
set_option maxRecDepth 100000 in
set_option maxHeartbeats 4000000 in
theorem cm_AL_growE1 {l : Launch} {S0 : State} {b : Nat} {D : va_G} {dT : Nat → ClassId} (hE : vEnv S0 b D dT) {dE mO : Nat} (hJ : vJ S0 dE mO) {h0 : vH} {a : Nat} {md : Int32} {fE : Nat → Option Nat} (ka : h0 a = some (.inr (2, [.ref dE, .int (nI 0), .int md]))) (wa : S0.heap.size ≤ a) (kE : h0 dE = some (.inl (dT 4, 0, .inr (.inr (.inr (.inr fE)))))) : vMq l S0 D vcl GT y_ArrayList_grow_2 prog_27_method_6_code 4 (some (.array (.object "java/lang/Object"))) 1 14 1 10 [.ref a, .int 1] h0 (fun r h' => ∃ q, r = some q ∧ h0 q = none ∧ S0.heap.size ≤ q ∧ h' = vup (vup h0 q (.inl (dT 4, 10, .inr (.inr (.inr (.inr (fun _ => none))))))) a (.inr (2, [.ref q, .int (nI 0), .int md]))) := by
  unfold vMq
  refine vM_ofQ hE.1 (by decide) (Nat.le_of_ble_eq_true rfl) (fun p e s m args below meth c ls Q hQ C hr hlk hnm X hl => ?_)
  have C : vC p s m _ c _ _ "java/util/ArrayList" GT D vcl (vty dT) := C
  have hx := C.1.1
  have hb := C.1.2.1
  obtain ⟨H, eH⟩ : ∃ z, z = s.heap := ⟨_, rfl⟩
  obtain ⟨locs, elocs⟩ : ∃ z : List Loc, z = [] := ⟨_, rfl⟩
  rw [← eH, ← elocs] at X
  rw [← eH, ← elocs]
  clear eH elocs
  have hl : lv_has ls 4 [(0, .ref a), (1, .int 1)] := hl
  refine lv_aload_n hx hb d_AL_growE1_0 rfl (lv_at hl 0 rfl) ?_
  refine mv_get C X ka 0 f_23_9_2 (v := .ref dE) rfl d_AL_growE1_1 ?_
  refine mv_alen C X kE 4 rfl d_AL_growE1_4 ?_
  refine lv_istore_n (lv' := [(2, .int (nI 0)), (0, .ref a), (1, .int 1)]) hx hb d_AL_growE1_5 rfl hl (by decide) rfl (fun ls hl => ?_)
  refine lv_iload_n hx hb d_AL_growE1_6 rfl (lv_at hl 0 rfl) ?_
  refine lv_if_gt (tgt := 20) hx hb d_AL_growE1_7 (by decide) (fun z => absurd z (by decide)) (fun c1 => ?_)
  refine lv_aload_n hx hb d_AL_growE1_10 rfl (lv_at hl 1 rfl) ?_
  refine mv_get C X ka 0 f_23_9_2 (v := .ref dE) rfl d_AL_growE1_11 ?_
  refine mv_gets C X hJ.2.1 (gt_1 93 (by decide +kernel) rfl) rfl d_AL_growE1_14 ?_
  refine lv_acmp_eq (rx := (some dE)) (ry := (some dE)) (tgt := 45) hx hb d_AL_growE1_17 (by decide) (fun c2 => ?_) (fun z => absurd rfl z)
  refine lv_aload_n hx hb d_AL_growE1_45 rfl (lv_at hl 1 rfl) ?_
  refine lv_bipush (v := 10) hx hb d_AL_growE1_46 (by decide) ?_
  refine lv_iload_n hx hb d_AL_growE1_48 rfl (lv_at hl 2 rfl) ?_
  refine va_mmax hx hb (by rw [C.1.2.2.1, hl.1]) C.1.2.2.2.1 (C.1.2.2.2.2 _ (gt_3 143 (by decide +kernel) rfl)) (C.1.2.2.2.2 _ (gt_2 14 (by decide +kernel) rfl)) (C.1.2.2.2.2 _ (gt_1 15 (by decide +kernel) rfl)) (C.1.2.2.2.2 _ (gt_2 15 (rfl) rfl)) (Nat.le_of_ble_eq_true rfl) (Nat.le_of_ble_eq_true rfl) (by show 0 ≤ 1; omega) (by show 0 ≤ 10; omega) d_AL_growE1_49 ?_
  rw [show (if (10 : Int32) < 1 then (1 : Int32) else 10) = 10 from if_neg (by decide)]
  refine mv_newq C X (gt_3 144 (by decide +kernel) rfl) (va_Nw_AO X hJ) 4 rfl 10 rfl (by omega) (by show 10 * 4 ≤ _; omega) (by show 0 + 1 ≤ 1; omega) (by show 0 + 10 ≤ 10; omega) d_AL_growE1_52 (fun q3 H z_q3 w_q3 X => ?_)
  have n_a_q3 : a ≠ q3 := vnf ka z_q3
  have n_dE_q3 : dE ≠ q3 := vnf kE z_q3
  have X : vO S0 D vcl (vup h0 q3 (.inl (dT 4, 10, .inr (.inr (.inr (.inr (fun _ => none))))))) s H locs := X
  refine lv_dup_x1 hx hb d_AL_growE1_55 rfl rfl ?_
  refine mv_put C X ((vup_n _ _ n_a_q3).trans ka) wa 0 p_23_9_2 rfl rfl (Nat.le_of_ble_eq_true rfl) d_AL_growE1_56 (fun H locs X => ?_)
  have X : vO S0 D vcl (vup (vup h0 q3 (.inl (dT 4, 10, .inr (.inr (.inr (.inr (fun _ => none))))))) a (.inr (2, [.ref q3, .int (nI 0), .int md]))) s H locs := X
  exact mq_aret (r := some q3) hQ C X hr (Or.inr ⟨_, rfl⟩) hlk (⟨q3, rfl, z_q3, w_q3, rfl⟩) (by omega) (by omega) d_AL_growE1_59
theorem d_AL_growE0_0 : decode prog_27_method_7_code 0 = .ok (.aload_n 0, 1) := by decide +kernel
theorem d_AL_growE0_1 : decode prog_27_method_7_code 1 = .ok (.aload_n 0, 1) := by decide +kernel
theorem d_AL_growE0_2 : decode prog_27_method_7_code 2 = .ok (.getfield 48, 3) := by decide +kernel
theorem d_AL_growE0_5 : decode prog_27_method_7_code 5 = .ok (.iconst 1, 1) := by decide +kernel
theorem d_AL_growE0_6 : decode prog_27_method_7_code 6 = .ok (.iadd, 1) := by decide +kernel
theorem d_AL_growE0_7 : decode prog_27_method_7_code 7 = .ok (.invokevirtual 69, 3) := by decide +kernel
theorem d_AL_growE0_10 : decode prog_27_method_7_code 10 = .ok (.areturn, 1) := by decide +kernel
set_option maxRecDepth 100000 in
set_option maxHeartbeats 4000000 in
theorem cm_AL_growE0 {l : Launch} {S0 : State} {b : Nat} {D : va_G} {dT : Nat → ClassId} (hE : vEnv S0 b D dT) {dE mO : Nat} (hJ : vJ S0 dE mO) {h0 : vH} {a : Nat} {md : Int32} {fE : Nat → Option Nat} (ka : h0 a = some (.inr (2, [.ref dE, .int (nI 0), .int md]))) (wa : S0.heap.size ≤ a) (kE : h0 dE = some (.inl (dT 4, 0, .inr (.inr (.inr (.inr fE)))))) : vMq l S0 D vcl GT y_ArrayList_grow prog_27_method_7_code 1 (some (.array (.object "java/lang/Object"))) 2 37 1 10 [.ref a] h0 (fun r h' => ∃ q, r = some q ∧ h0 q = none ∧ S0.heap.size ≤ q ∧ h' = vup (vup h0 q (.inl (dT 4, 10, .inr (.inr (.inr (.inr (fun _ => none))))))) a (.inr (2, [.ref q, .int (nI 0), .int md]))) := by
  unfold vMq
  refine vM_ofQ hE.1 (by decide) (Nat.le_of_ble_eq_true rfl) (fun p e s m args below meth c ls Q hQ C hr hlk hnm X hl => ?_)
  have C : vC p s m _ c _ _ "java/util/ArrayList" GT D vcl (vty dT) := C
  have hx := C.1.1
  have hb := C.1.2.1
  obtain ⟨H, eH⟩ : ∃ z, z = s.heap := ⟨_, rfl⟩
  obtain ⟨locs, elocs⟩ : ∃ z : List Loc, z = [] := ⟨_, rfl⟩
  rw [← eH, ← elocs] at X
  rw [← eH, ← elocs]
  clear eH elocs
  have hl : lv_has ls 1 [(0, .ref a)] := hl
  refine lv_aload_n hx hb d_AL_growE0_0 rfl (lv_at hl 0 rfl) ?_
  refine lv_aload_n hx hb d_AL_growE0_1 rfl (lv_at hl 0 rfl) ?_
  refine mv_get C X ka 1 f_23_48_2 (v := .int (nI 0)) rfl d_AL_growE0_2 ?_
  refine lv_iconst (v := 1) hx hb d_AL_growE0_5 (by decide) ?_
  refine lv_iadd hx hb d_AL_growE0_6 ?_
  rw [show nI 0 + 1 = (1 : Int32) from rfl]
  refine mv_bq X (mv_rV (rest := []) (As := [.int 1]) gt_good C X k_23_69 (cm_AL_growE1 hE hJ ka wa kE) ka rfl rfl ⟨Nat.le_of_ble_eq_true rfl, Nat.le_of_ble_eq_true rfl⟩ rfl hl.1 rfl (Nat.le_of_ble_eq_true rfl) d_AL_growE0_7 ⟨by show 0 + 1 ≤ 1; omega, by show 0 + 10 ≤ 10; omega⟩) (fun r1 hN H locs hp X => ?_)
  obtain ⟨q, er, zq, wq, eh⟩ := hp
  subst er
  change W _ _ _ _ _ _ _ _ _ _ _ _ _ _ _ (F0 _ _ _ (.ref q :: _))
  exact mq_aret (r := some q) hQ C X hr (Or.inr ⟨_, rfl⟩) hlk (⟨q, rfl, zq, wq, eh⟩) (by omega) (by omega) d_AL_growE0_10
theorem d_AL_growN1_0 : decode prog_27_method_6_code 0 = .ok (.aload_n 0, 1) := by decide +kernel
theorem d_AL_growN1_1 : decode prog_27_method_6_code 1 = .ok (.getfield 9, 3) := by decide +kernel
theorem d_AL_growN1_4 : decode prog_27_method_6_code 4 = .ok (.arraylength, 1) := by decide +kernel
theorem d_AL_growN1_5 : decode prog_27_method_6_code 5 = .ok (.istore_n 2, 1) := by decide +kernel
theorem d_AL_growN1_6 : decode prog_27_method_6_code 6 = .ok (.iload_n 2, 1) := by decide +kernel
theorem d_AL_growN1_7 : decode prog_27_method_6_code 7 = .ok (.ifCond .gt 13, 3) := by decide +kernel
theorem d_AL_growN1_20 : decode prog_27_method_6_code 20 = .ok (.iload_n 2, 1) := by decide +kernel
theorem d_AL_growN1_21 : decode prog_27_method_6_code 21 = .ok (.iload_n 1, 1) := by decide +kernel
theorem d_AL_growN1_22 : decode prog_27_method_6_code 22 = .ok (.iload_n 2, 1) := by decide +kernel
theorem d_AL_growN1_23 : decode prog_27_method_6_code 23 = .ok (.isub, 1) := by decide +kernel
theorem d_AL_growN1_24 : decode prog_27_method_6_code 24 = .ok (.iload_n 2, 1) := by decide +kernel
theorem d_AL_growN1_25 : decode prog_27_method_6_code 25 = .ok (.iconst 1, 1) := by decide +kernel
theorem d_AL_growN1_26 : decode prog_27_method_6_code 26 = .ok (.ishr, 1) := by decide +kernel
theorem d_AL_growN1_27 : decode prog_27_method_6_code 27 = .ok (.invokestatic 73, 3) := by decide +kernel
theorem d_AL_growN1_30 : decode prog_27_method_6_code 30 = .ok (.istore_n 3, 1) := by decide +kernel
theorem d_AL_growN1_31 : decode prog_27_method_6_code 31 = .ok (.aload_n 0, 1) := by decide +kernel
theorem d_AL_growN1_32 : decode prog_27_method_6_code 32 = .ok (.aload_n 0, 1) := by decide +kernel
theorem d_AL_growN1_33 : decode prog_27_method_6_code 33 = .ok (.getfield 9, 3) := by decide +kernel
theorem d_AL_growN1_36 : decode prog_27_method_6_code 36 = .ok (.iload_n 3, 1) := by decide +kernel
theorem d_AL_growN1_37 : decode prog_27_method_6_code 37 = .ok (.invokestatic 66, 3) := by decide +kernel
theorem d_AL_growN1_40 : decode prog_27_method_6_code 40 = .ok (.dup_x1, 1) := by decide +kernel
theorem d_AL_growN1_41 : decode prog_27_method_6_code 41 = .ok (.putfield 9, 3) := by decide +kernel
theorem d_AL_growN1_44 : decode prog_27_method_6_code 44 = .ok (.areturn, 1) := by decide +kernel
set_option maxRecDepth 100000 in
set_option maxHeartbeats 4000000 in
theorem cm_AL_growN1 {l : Launch} {S0 : State} {b : Nat} {D : va_G} {dT : Nat → ClassId} (hE : vEnv S0 b D dT) {dE mO : Nat} (hJ : vJ S0 dE mO) {h0 : vH} {a ea n : Nat} {md : Int32} {f : Nat → Option Nat} (hn1 : 0 < n) (hn : n < 2 ^ 20) (hel : elO h0 f n) (ka : h0 a = some (.inr (2, [.ref ea, .int (nI n), .int md]))) (wa : S0.heap.size ≤ a) (ke : h0 ea = some (.inl (dT 4, n, .inr (.inr (.inr (.inr f)))))) (we : S0.heap.size ≤ ea) : vMq l S0 D vcl GT y_ArrayList_grow_2 prog_27_method_6_code 4 (some (.array (.object "java/lang/Object"))) 3 74 1 (n + max 1 (n / 2)) [.ref a, .int (nI (n + 1))] h0 (fun r h' => ∃ q g, r = some q ∧ h0 q = none ∧ S0.heap.size ≤ q ∧ h' = vup (vup h0 q (.inl (dT 4, (n + max 1 (n / 2)), .inr (.inr (.inr (.inr g)))))) a (.inr (2, [.ref q, .int (nI n), .int md])) ∧ ∀ k, k < n → g k = f k) := by
  unfold vMq
  refine vM_ofQ hE.1 (by decide) (Nat.le_of_ble_eq_true rfl) (fun p e s m args below meth c ls Q hQ C hr hlk hnm X hl => ?_)
  have C : vC p s m _ c _ _ "java/util/ArrayList" GT D vcl (vty dT) := C
  have hx := C.1.1
  have hb := C.1.2.1
  obtain ⟨H, eH⟩ : ∃ z, z = s.heap := ⟨_, rfl⟩
  obtain ⟨locs, elocs⟩ : ∃ z : List Loc, z = [] := ⟨_, rfl⟩
  rw [← eH, ← elocs] at X
  rw [← eH, ← elocs]
  clear eH elocs
  have hl : lv_has ls 4 [(0, .ref a), (1, .int (nI (n + 1)))] := hl
  refine lv_aload_n hx hb d_AL_growN1_0 rfl (lv_at hl 0 rfl) ?_
  refine mv_get C X ka 0 f_23_9_2 (v := .ref ea) rfl d_AL_growN1_1 ?_
  refine mv_alen C X ke 4 rfl d_AL_growN1_4 ?_
  refine lv_istore_n (lv' := [(2, .int (nI n)), (0, .ref a), (1, .int (nI (n + 1)))]) hx hb d_AL_growN1_5 rfl hl (by decide) rfl (fun ls hl => ?_)
  refine lv_iload_n hx hb d_AL_growN1_6 rfl (lv_at hl 0 rfl) ?_
  refine lv_if_gt (tgt := 20) hx hb d_AL_growN1_7 (by decide) (fun c1 => ?_) (fun z => absurd (nI_lt (a := 0) hn1 (by omega)) z)
  refine lv_iload_n hx hb d_AL_growN1_20 rfl (lv_at hl 0 rfl) ?_
  refine lv_iload_n hx hb d_AL_growN1_21 rfl (lv_at hl 2 rfl) ?_
  refine lv_iload_n hx hb d_AL_growN1_22 rfl (lv_at hl 0 rfl) ?_
  refine lv_isub hx hb d_AL_growN1_23 ?_
  refine lv_iload_n hx hb d_AL_growN1_24 rfl (lv_at hl 0 rfl) ?_
  refine lv_iconst (v := 1) hx hb d_AL_growN1_25 (by decide) ?_
  refine lv_ishr hx hb d_AL_growN1_26 ?_
  rw [al_shr (by omega), nI_sub (by omega), show n + 1 - n = 1 by omega]
  refine mv_bi X (mv_rS (rest := []) (As := [.int (nI n), .int (nI 1), .int (nI (n / 2))]) gt_good C X k_23_73 (cm_ArraysSupport_newLength hE (by omega) (by omega) (by omega) (by omega)) ⟨Nat.le_of_ble_eq_true rfl, Nat.le_of_ble_eq_true rfl⟩ rfl hl.1 rfl (Nat.le_of_ble_eq_true rfl) d_AL_growN1_27 ⟨Nat.zero_le _, Nat.zero_le _⟩) (fun r2 hN H locs hp X => ?_)
  obtain ⟨eh, er⟩ := hp
  replace eh := eh.symm
  replace er := er.symm
  subst eh er
  refine lv_istore_n (lv' := [(3, .int (nI (n + max 1 (n / 2)))), (2, .int (nI n)), (0, .ref a), (1, .int (nI (n + 1)))]) hx hb d_AL_growN1_30 rfl hl (by decide) rfl (fun ls hl => ?_)
  refine lv_aload_n hx hb d_AL_growN1_31 rfl (lv_at hl 2 rfl) ?_
  refine lv_aload_n hx hb d_AL_growN1_32 rfl (lv_at hl 2 rfl) ?_
  refine mv_get C X ka 0 f_23_9_2 (v := .ref ea) rfl d_AL_growN1_33 ?_
  refine lv_iload_n hx hb d_AL_growN1_36 rfl (lv_at hl 0 rfl) ?_
  refine mv_bq X (mv_rS (rest := [.ref a]) (As := [.ref ea, .int (nI (n + max 1 (n / 2)))]) gt_good C X k_23_66 (cm_Arrays_copyOfQ2 hE hJ (k0 := (n + max 1 (n / 2))) (by omega) (by omega) hel ke we) ⟨Nat.le_of_ble_eq_true rfl, Nat.le_of_ble_eq_true rfl⟩ rfl hl.1 rfl (Nat.le_of_ble_eq_true rfl) d_AL_growN1_37 ⟨by show 0 + 1 ≤ 1; omega, by show 0 + (n + max 1 (n / 2)) ≤ (n + max 1 (n / 2)); omega⟩) (fun r3 hN H locs hp X => ?_)
  obtain ⟨q, g, er, zq, wq, eh, eg⟩ := hp
  subst er
  replace eh := eh.symm
  subst eh
  change W _ _ _ _ _ _ _ _ _ _ _ _ _ _ _ (F0 _ _ _ (.ref q :: _))
  have n_a_q : a ≠ q := vnf ka zq
  have n_ea_q : ea ≠ q := vnf ke zq
  refine lv_dup_x1 hx hb d_AL_growN1_40 rfl rfl ?_
  refine mv_put C X ((vup_n _ _ n_a_q).trans ka) wa 0 p_23_9_2 rfl rfl (Nat.le_of_ble_eq_true rfl) d_AL_growN1_41 (fun H locs X => ?_)
  have X : vO S0 D vcl (vup (vup h0 q (.inl (dT 4, (n + max 1 (n / 2)), .inr (.inr (.inr (.inr g)))))) a (.inr (2, [.ref q, .int (nI n), .int md]))) s H locs := X
  exact mq_aret (r := some q) hQ C X hr (Or.inr ⟨_, rfl⟩) hlk (⟨q, g, rfl, zq, wq, rfl, eg⟩) (by omega) (by omega) d_AL_growN1_44
theorem d_AL_growN0_0 : decode prog_27_method_7_code 0 = .ok (.aload_n 0, 1) := by decide +kernel
theorem d_AL_growN0_1 : decode prog_27_method_7_code 1 = .ok (.aload_n 0, 1) := by decide +kernel
theorem d_AL_growN0_2 : decode prog_27_method_7_code 2 = .ok (.getfield 48, 3) := by decide +kernel
theorem d_AL_growN0_5 : decode prog_27_method_7_code 5 = .ok (.iconst 1, 1) := by decide +kernel
theorem d_AL_growN0_6 : decode prog_27_method_7_code 6 = .ok (.iadd, 1) := by decide +kernel
theorem d_AL_growN0_7 : decode prog_27_method_7_code 7 = .ok (.invokevirtual 69, 3) := by decide +kernel
theorem d_AL_growN0_10 : decode prog_27_method_7_code 10 = .ok (.areturn, 1) := by decide +kernel
set_option maxRecDepth 100000 in
set_option maxHeartbeats 4000000 in
theorem cm_AL_growN0 {l : Launch} {S0 : State} {b : Nat} {D : va_G} {dT : Nat → ClassId} (hE : vEnv S0 b D dT) {dE mO : Nat} (hJ : vJ S0 dE mO) {h0 : vH} {a ea n : Nat} {md : Int32} {f : Nat → Option Nat} (hn1 : 0 < n) (hn : n < 2 ^ 20) (hel : elO h0 f n) (ka : h0 a = some (.inr (2, [.ref ea, .int (nI n), .int md]))) (wa : S0.heap.size ≤ a) (ke : h0 ea = some (.inl (dT 4, n, .inr (.inr (.inr (.inr f)))))) (we : S0.heap.size ≤ ea) : vMq l S0 D vcl GT y_ArrayList_grow prog_27_method_7_code 1 (some (.array (.object "java/lang/Object"))) 4 97 1 (n + max 1 (n / 2)) [.ref a] h0 (fun r h' => ∃ q g, r = some q ∧ h0 q = none ∧ S0.heap.size ≤ q ∧ h' = vup (vup h0 q (.inl (dT 4, (n + max 1 (n / 2)), .inr (.inr (.inr (.inr g)))))) a (.inr (2, [.ref q, .int (nI n), .int md])) ∧ ∀ k, k < n → g k = f k) := by
  unfold vMq
  refine vM_ofQ hE.1 (by decide) (Nat.le_of_ble_eq_true rfl) (fun p e s m args below meth c ls Q hQ C hr hlk hnm X hl => ?_)
  have C : vC p s m _ c _ _ "java/util/ArrayList" GT D vcl (vty dT) := C
  have hx := C.1.1
  have hb := C.1.2.1
  obtain ⟨H, eH⟩ : ∃ z, z = s.heap := ⟨_, rfl⟩
  obtain ⟨locs, elocs⟩ : ∃ z : List Loc, z = [] := ⟨_, rfl⟩
  rw [← eH, ← elocs] at X
  rw [← eH, ← elocs]
  clear eH elocs
  have hl : lv_has ls 1 [(0, .ref a)] := hl
  refine lv_aload_n hx hb d_AL_growN0_0 rfl (lv_at hl 0 rfl) ?_
  refine lv_aload_n hx hb d_AL_growN0_1 rfl (lv_at hl 0 rfl) ?_
  refine mv_get C X ka 1 f_23_48_2 (v := .int (nI n)) rfl d_AL_growN0_2 ?_
  refine lv_iconst (v := 1) hx hb d_AL_growN0_5 (by decide) ?_
  refine lv_iadd hx hb d_AL_growN0_6 ?_
  rw [nI_1]
  refine mv_bq X (mv_rV (rest := []) (As := [.int (nI (n + 1))]) gt_good C X k_23_69 (cm_AL_growN1 hE hJ hn1 hn hel ka wa ke we) ka rfl rfl ⟨Nat.le_of_ble_eq_true rfl, Nat.le_of_ble_eq_true rfl⟩ rfl hl.1 rfl (Nat.le_of_ble_eq_true rfl) d_AL_growN0_7 ⟨by show 0 + 1 ≤ 1; omega, by show 0 + (n + max 1 (n / 2)) ≤ (n + max 1 (n / 2)); omega⟩) (fun r1 hN H locs hp X => ?_)
  obtain ⟨q, g, er, zq, wq, eh, eg⟩ := hp
  subst er
  change W _ _ _ _ _ _ _ _ _ _ _ _ _ _ _ (F0 _ _ _ (.ref q :: _))
  exact mq_aret (r := some q) hQ C X hr (Or.inr ⟨_, rfl⟩) hlk (⟨q, g, rfl, zq, wq, eh, eg⟩) (by omega) (by omega) d_AL_growN0_10
theorem d_AL_add30_8_0 : decode prog_27_method_24_code 0 = .ok (.iload_n 3, 1) := by decide +kernel
theorem d_AL_add30_8_1 : decode prog_27_method_24_code 1 = .ok (.aload_n 2, 1) := by decide +kernel
theorem d_AL_add30_8_2 : decode prog_27_method_24_code 2 = .ok (.arraylength, 1) := by decide +kernel
theorem d_AL_add30_8_3 : decode prog_27_method_24_code 3 = .ok (.if_icmp .ne 8, 3) := by decide +kernel
theorem d_AL_add30_8_11 : decode prog_27_method_24_code 11 = .ok (.aload_n 2, 1) := by decide +kernel
theorem d_AL_add30_8_12 : decode prog_27_method_24_code 12 = .ok (.iload_n 3, 1) := by decide +kernel
theorem d_AL_add30_8_13 : decode prog_27_method_24_code 13 = .ok (.aload_n 1, 1) := by decide +kernel
theorem d_AL_add30_8_14 : decode prog_27_method_24_code 14 = .ok (.aastore, 1) := by decide +kernel
theorem d_AL_add30_8_15 : decode prog_27_method_24_code 15 = .ok (.aload_n 0, 1) := by decide +kernel
theorem d_AL_add30_8_16 : decode prog_27_method_24_code 16 = .ok (.iload_n 3, 1) := by decide +kernel
theorem d_AL_add30_8_17 : decode prog_27_method_24_code 17 = .ok (.iconst 1, 1) := by decide +kernel
theorem d_AL_add30_8_18 : decode prog_27_method_24_code 18 = .ok (.iadd, 1) := by decide +kernel
theorem d_AL_add30_8_19 : decode prog_27_method_24_code 19 = .ok (.putfield 48, 3) := by decide +kernel
theorem d_AL_add30_8_22 : decode prog_27_method_24_code 22 = .ok (.return_, 1) := by decide +kernel
set_option maxRecDepth 100000 in
set_option maxHeartbeats 4000000 in
theorem cm_AL_add30_8 {l : Launch} {S0 : State} {b : Nat} {D : va_G} {dT : Nat → ClassId} (hE : vEnv S0 b D dT) {dE mO : Nat} (hJ : vJ S0 dE mO) {h0 : vH} {a ea n cap : Nat} {md : Int32} {f : Nat → Option Nat} (hn : n < cap) (hc : cap < 2 ^ 20) {q0 : Nat} {fs : List Value} (ka : h0 a = some (.inr (2, [.ref ea, .int (nI n), .int md]))) (wa : S0.heap.size ≤ a) (ke : h0 ea = some (.inl (dT 4, cap, .inr (.inr (.inr (.inr f)))))) (we : S0.heap.size ≤ ea) (kq : h0 q0 = some (.inr (8, fs))) : vMv l S0 D vcl GT y_ArrayList_add_2 prog_27_method_24_code 4 none 0 0 0 0 [.ref a, .ref q0, .ref ea, .int (nI n)] h0 (fun h' => lAdd dT S0.heap.size h0 h' a ea n f q0) := by
  unfold vMv
  refine vM_ofQ hE.1 (by decide) (Nat.le_of_ble_eq_true rfl) (fun p e s m args below meth c ls Q hQ C hr hlk hnm X hl => ?_)
  have C : vC p s m _ c _ _ "java/util/ArrayList" GT D vcl (vty dT) := C
  have hx := C.1.1
  have hb := C.1.2.1
  obtain ⟨H, eH⟩ : ∃ z, z = s.heap := ⟨_, rfl⟩
  obtain ⟨locs, elocs⟩ : ∃ z : List Loc, z = [] := ⟨_, rfl⟩
  rw [← eH, ← elocs] at X
  rw [← eH, ← elocs]
  clear eH elocs
  have hl : lv_has ls 4 [(0, .ref a), (1, .ref q0), (2, .ref ea), (3, .int (nI n))] := hl
  refine lv_iload_n hx hb d_AL_add30_8_0 rfl (lv_at hl 3 rfl) ?_
  refine lv_aload_n hx hb d_AL_add30_8_1 rfl (lv_at hl 2 rfl) ?_
  refine mv_alen C X ke 4 rfl d_AL_add30_8_2 ?_
  refine lv_icmp_ne (tgt := 11) hx hb d_AL_add30_8_3 (by decide) (fun c1 => ?_) (fun z => absurd (nI_eqI (a := n) (b := cap) (by omega) (by omega) z) (by omega))
  refine lv_aload_n hx hb d_AL_add30_8_11 rfl (lv_at hl 2 rfl) ?_
  refine lv_iload_n hx hb d_AL_add30_8_12 rfl (lv_at hl 3 rfl) ?_
  refine lv_aload_n hx hb d_AL_add30_8_13 rfl (lv_at hl 1 rfl) ?_
  refine mv_aast C X ke we 4 rfl (mv_anyO C X hJ kq rfl (by decide)) n rfl (by omega) (by omega) d_AL_add30_8_14 (fun H locs X => ?_)
  have X : vO S0 D vcl (vup h0 ea (.inl (dT 4, cap, .inr (.inr (.inr (.inr (va_up f n (some q0)))))))) s H locs := X
  refine lv_aload_n hx hb d_AL_add30_8_15 rfl (lv_at hl 0 rfl) ?_
  refine lv_iload_n hx hb d_AL_add30_8_16 rfl (lv_at hl 3 rfl) ?_
  refine lv_iconst (v := 1) hx hb d_AL_add30_8_17 (by decide) ?_
  refine lv_iadd hx hb d_AL_add30_8_18 ?_
  rw [nI_1]
  refine mv_put C X ((vup_n _ _ (vne_oa ka ke)).trans ka) wa 1 p_23_48_2 rfl rfl (Nat.le_of_ble_eq_true rfl) d_AL_add30_8_19 (fun H locs X => ?_)
  have X : vO S0 D vcl (vup (vup h0 ea (.inl (dT 4, cap, .inr (.inr (.inr (.inr (va_up f n (some q0)))))))) a (.inr (2, [.ref ea, .int (nI (n + 1)), .int md]))) s H locs := X
  exact mq_vret hQ C X hr hlk (⟨ea, _, cap, _, (vup_s _ _ _), ((vup_n _ _ (Ne.symm (vne_oa ka ke))).trans (vup_s _ _ _)), we, by omega, fun k hk => va_up_ne _ _ (by omega), va_up_self _ _ _, (vfx.rf.up (Or.inr ⟨rfl, we⟩)).up (Or.inl rfl), Or.inl ⟨rfl, we⟩, fun c0 y w => Or.inl (arr_cap ke w)⟩) (by omega) (by omega) d_AL_add30_8_22
theorem d_AL_add0_8_0 : decode prog_27_method_25_code 0 = .ok (.aload_n 0, 1) := by decide +kernel
theorem d_AL_add0_8_1 : decode prog_27_method_25_code 1 = .ok (.dup, 1) := by decide +kernel
theorem d_AL_add0_8_2 : decode prog_27_method_25_code 2 = .ok (.getfield 63, 3) := by decide +kernel
theorem d_AL_add0_8_5 : decode prog_27_method_25_code 5 = .ok (.iconst 1, 1) := by decide +kernel
theorem d_AL_add0_8_6 : decode prog_27_method_25_code 6 = .ok (.iadd, 1) := by decide +kernel
theorem d_AL_add0_8_7 : decode prog_27_method_25_code 7 = .ok (.putfield 63, 3) := by decide +kernel
theorem d_AL_add0_8_10 : decode prog_27_method_25_code 10 = .ok (.aload_n 0, 1) := by decide +kernel
theorem d_AL_add0_8_11 : decode prog_27_method_25_code 11 = .ok (.aload_n 1, 1) := by decide +kernel
theorem d_AL_add0_8_12 : decode prog_27_method_25_code 12 = .ok (.aload_n 0, 1) := by decide +kernel
theorem d_AL_add0_8_13 : decode prog_27_method_25_code 13 = .ok (.getfield 9, 3) := by decide +kernel
theorem d_AL_add0_8_16 : decode prog_27_method_25_code 16 = .ok (.aload_n 0, 1) := by decide +kernel
theorem d_AL_add0_8_17 : decode prog_27_method_25_code 17 = .ok (.getfield 48, 3) := by decide +kernel
theorem d_AL_add0_8_20 : decode prog_27_method_25_code 20 = .ok (.invokevirtual 131, 3) := by decide +kernel
theorem d_AL_add0_8_23 : decode prog_27_method_25_code 23 = .ok (.iconst 1, 1) := by decide +kernel
theorem d_AL_add0_8_24 : decode prog_27_method_25_code 24 = .ok (.ireturn, 1) := by decide +kernel
set_option maxRecDepth 100000 in
set_option maxHeartbeats 4000000 in
theorem cm_AL_add0_8 {l : Launch} {S0 : State} {b : Nat} {D : va_G} {dT : Nat → ClassId} (hE : vEnv S0 b D dT) {dE mO : Nat} (hJ : vJ S0 dE mO) {h0 : vH} {a ea n cap : Nat} {md : Int32} {f : Nat → Option Nat} (hn : n < cap) (hc : cap < 2 ^ 20) {q0 : Nat} {fs : List Value} (ka : h0 a = some (.inr (2, [.ref ea, .int (nI n), .int md]))) (wa : S0.heap.size ≤ a) (ke : h0 ea = some (.inl (dT 4, cap, .inr (.inr (.inr (.inr f)))))) (we : S0.heap.size ≤ ea) (kq : h0 q0 = some (.inr (8, fs))) : vMi l S0 D vcl GT y_ArrayList_add prog_27_method_25_code 2 (some .boolean) 1 23 0 0 [.ref a, .ref q0] h0 (fun r h' => r = 1 ∧ lAdd dT S0.heap.size h0 h' a ea n f q0) := by
  unfold vMi
  refine vM_ofQ hE.1 (by decide) (Nat.le_of_ble_eq_true rfl) (fun p e s m args below meth c ls Q hQ C hr hlk hnm X hl => ?_)
  have C : vC p s m _ c _ _ "java/util/ArrayList" GT D vcl (vty dT) := C
  have hx := C.1.1
  have hb := C.1.2.1
  obtain ⟨H, eH⟩ : ∃ z, z = s.heap := ⟨_, rfl⟩
  obtain ⟨locs, elocs⟩ : ∃ z : List Loc, z = [] := ⟨_, rfl⟩
  rw [← eH, ← elocs] at X
  rw [← eH, ← elocs]
  clear eH elocs
  have hl : lv_has ls 2 [(0, .ref a), (1, .ref q0)] := hl
  refine lv_aload_n hx hb d_AL_add0_8_0 rfl (lv_at hl 0 rfl) ?_
  refine lv_dup hx hb d_AL_add0_8_1 rfl ?_
  refine mv_get C X ka 2 f_23_63_2 (v := .int md) rfl d_AL_add0_8_2 ?_
  refine lv_iconst (v := 1) hx hb d_AL_add0_8_5 (by decide) ?_
  refine lv_iadd hx hb d_AL_add0_8_6 ?_
  refine mv_put C X ka wa 2 p_23_63_2 rfl rfl (Nat.le_of_ble_eq_true rfl) d_AL_add0_8_7 (fun H locs X => ?_)
  have X : vO S0 D vcl (vup h0 a (.inr (2, [.ref ea, .int (nI n), .int (md + 1)]))) s H locs := X
  refine lv_aload_n hx hb d_AL_add0_8_10 rfl (lv_at hl 0 rfl) ?_
  refine lv_aload_n hx hb d_AL_add0_8_11 rfl (lv_at hl 1 rfl) ?_
  refine lv_aload_n hx hb d_AL_add0_8_12 rfl (lv_at hl 0 rfl) ?_
  refine mv_get C X (vup_s _ _ _) 0 f_23_9_2 (v := .ref ea) rfl d_AL_add0_8_13 ?_
  refine lv_aload_n hx hb d_AL_add0_8_16 rfl (lv_at hl 0 rfl) ?_
  refine mv_get C X (vup_s _ _ _) 1 f_23_48_2 (v := .int (nI n)) rfl d_AL_add0_8_17 ?_
  refine mv_bv X (mv_rV (rest := []) (As := [.ref q0, .ref ea, .int (nI n)]) gt_good C X k_23_131 (cm_AL_add30_8 hE hJ hn hc (vup_s _ _ _) wa ((vup_n _ _ (Ne.symm (vne_oa ka ke))).trans ke) we ((vup_n _ _ (Ne.symm (vne_c ka kq (by decide)))).trans kq)) (vup_s _ _ _) rfl rfl ⟨Nat.le_of_ble_eq_true rfl, Nat.le_of_ble_eq_true rfl⟩ rfl hl.1 rfl (Nat.le_of_ble_eq_true rfl) d_AL_add0_8_20 ⟨Nat.zero_le _, Nat.zero_le _⟩) (fun hN H locs hp X => ?_)
  have hq := lAdd.up ka hp
  refine lv_iconst (v := 1) hx hb d_AL_add0_8_23 (by decide) ?_
  exact mq_iret hQ C X hr rfl hlk (⟨rfl, hq⟩) (by omega) (by omega) d_AL_add0_8_24
theorem d_AL_add3E_8_0 : decode prog_27_method_24_code 0 = .ok (.iload_n 3, 1) := by decide +kernel
theorem d_AL_add3E_8_1 : decode prog_27_method_24_code 1 = .ok (.aload_n 2, 1) := by decide +kernel
theorem d_AL_add3E_8_2 : decode prog_27_method_24_code 2 = .ok (.arraylength, 1) := by decide +kernel
theorem d_AL_add3E_8_3 : decode prog_27_method_24_code 3 = .ok (.if_icmp .ne 8, 3) := by decide +kernel
theorem d_AL_add3E_8_6 : decode prog_27_method_24_code 6 = .ok (.aload_n 0, 1) := by decide +kernel
theorem d_AL_add3E_8_7 : decode prog_27_method_24_code 7 = .ok (.invokevirtual 129, 3) := by decide +kernel
theorem d_AL_add3E_8_10 : decode prog_27_method_24_code 10 = .ok (.astore_n 2, 1) := by decide +kernel
theorem d_AL_add3E_8_11 : decode prog_27_method_24_code 11 = .ok (.aload_n 2, 1) := by decide +kernel
theorem d_AL_add3E_8_12 : decode prog_27_method_24_code 12 = .ok (.iload_n 3, 1) := by decide +kernel
theorem d_AL_add3E_8_13 : decode prog_27_method_24_code 13 = .ok (.aload_n 1, 1) := by decide +kernel
theorem d_AL_add3E_8_14 : decode prog_27_method_24_code 14 = .ok (.aastore, 1) := by decide +kernel
theorem d_AL_add3E_8_15 : decode prog_27_method_24_code 15 = .ok (.aload_n 0, 1) := by decide +kernel
theorem d_AL_add3E_8_16 : decode prog_27_method_24_code 16 = .ok (.iload_n 3, 1) := by decide +kernel
theorem d_AL_add3E_8_17 : decode prog_27_method_24_code 17 = .ok (.iconst 1, 1) := by decide +kernel
theorem d_AL_add3E_8_18 : decode prog_27_method_24_code 18 = .ok (.iadd, 1) := by decide +kernel
theorem d_AL_add3E_8_19 : decode prog_27_method_24_code 19 = .ok (.putfield 48, 3) := by decide +kernel
theorem d_AL_add3E_8_22 : decode prog_27_method_24_code 22 = .ok (.return_, 1) := by decide +kernel
set_option maxRecDepth 100000 in
set_option maxHeartbeats 4000000 in
theorem cm_AL_add3E_8 {l : Launch} {S0 : State} {b : Nat} {D : va_G} {dT : Nat → ClassId} (hE : vEnv S0 b D dT) {dE mO : Nat} (hJ : vJ S0 dE mO) {h0 : vH} {a : Nat} {md : Int32} {fE : Nat → Option Nat} {q0 : Nat} {fs : List Value} (ka : h0 a = some (.inr (2, [.ref dE, .int (nI 0), .int md]))) (wa : S0.heap.size ≤ a) (kE : h0 dE = some (.inl (dT 4, 0, .inr (.inr (.inr (.inr fE)))))) (kq : h0 q0 = some (.inr (8, fs))) : vMv l S0 D vcl GT y_ArrayList_add_2 prog_27_method_24_code 4 none 3 57 1 10 [.ref a, .ref q0, .ref dE, .int (nI 0)] h0 (fun h' => lAdd dT S0.heap.size h0 h' a dE 0 fE q0) := by
  unfold vMv
  refine vM_ofQ hE.1 (by decide) (Nat.le_of_ble_eq_true rfl) (fun p e s m args below meth c ls Q hQ C hr hlk hnm X hl => ?_)
  have C : vC p s m _ c _ _ "java/util/ArrayList" GT D vcl (vty dT) := C
  have hx := C.1.1
  have hb := C.1.2.1
  obtain ⟨H, eH⟩ : ∃ z, z = s.heap := ⟨_, rfl⟩
  obtain ⟨locs, elocs⟩ : ∃ z : List Loc, z = [] := ⟨_, rfl⟩
  rw [← eH, ← elocs] at X
  rw [← eH, ← elocs]
  clear eH elocs
  have hl : lv_has ls 4 [(0, .ref a), (1, .ref q0), (2, .ref dE), (3, .int (nI 0))] := hl
  refine lv_iload_n hx hb d_AL_add3E_8_0 rfl (lv_at hl 3 rfl) ?_
  refine lv_aload_n hx hb d_AL_add3E_8_1 rfl (lv_at hl 2 rfl) ?_
  refine mv_alen C X kE 4 rfl d_AL_add3E_8_2 ?_
  refine lv_icmp_ne (tgt := 11) hx hb d_AL_add3E_8_3 (by decide) (fun z => absurd z (fun q => q rfl)) (fun c1 => ?_)
  refine lv_aload_n hx hb d_AL_add3E_8_6 rfl (lv_at hl 0 rfl) ?_
  refine mv_bq X (mv_rV (rest := []) (As := []) gt_good C X k_23_129 (cm_AL_growE0 hE hJ ka wa kE) ka rfl rfl ⟨Nat.le_of_ble_eq_true rfl, Nat.le_of_ble_eq_true rfl⟩ rfl hl.1 rfl (Nat.le_of_ble_eq_true rfl) d_AL_add3E_8_7 ⟨by show 0 + 1 ≤ 1; omega, by show 0 + 10 ≤ 10; omega⟩) (fun r2 hN H locs hp X => ?_)
  obtain ⟨q, er, zq, wq, eh⟩ := hp
  subst er
  replace eh := eh.symm
  subst eh
  change W _ _ _ _ _ _ _ _ _ _ _ _ _ _ _ (F0 _ _ _ (.ref q :: _))
  have n_a_q : a ≠ q := vnf ka zq
  have n_dE_q : dE ≠ q := vnf kE zq
  have n_q0_q : q0 ≠ q := vnf kq zq
  refine lv_astore_n (lv' := [(2, .ref q), (0, .ref a), (1, .ref q0), (3, .int (nI 0))]) hx hb d_AL_add3E_8_10 rfl hl (by decide) rfl (fun ls hl => ?_)
  refine lv_aload_n hx hb d_AL_add3E_8_11 rfl (lv_at hl 0 rfl) ?_
  refine lv_iload_n hx hb d_AL_add3E_8_12 rfl (lv_at hl 3 rfl) ?_
  refine lv_aload_n hx hb d_AL_add3E_8_13 rfl (lv_at hl 2 rfl) ?_
  refine mv_aast C X ((vup_n _ _ (Ne.symm n_a_q)).trans (vup_s _ _ _)) wq 4 rfl (mv_anyO C X hJ ((vup_n _ _ (Ne.symm (vne_c ka kq (by decide)))).trans ((vup_n _ _ n_q0_q).trans kq)) rfl (by decide)) 0 rfl (by omega) (by omega) d_AL_add3E_8_14 (fun H locs X => ?_)
  have X : vO S0 D vcl (vup (vup (vup h0 q (.inl (dT 4, 10, .inr (.inr (.inr (.inr (fun _ => none))))))) a (.inr (2, [.ref q, .int (nI 0), .int md]))) q (.inl (dT 4, 10, .inr (.inr (.inr (.inr (va_up (fun _ => none) 0 (some q0)))))))) s H locs := X
  refine lv_aload_n hx hb d_AL_add3E_8_15 rfl (lv_at hl 1 rfl) ?_
  refine lv_iload_n hx hb d_AL_add3E_8_16 rfl (lv_at hl 3 rfl) ?_
  refine lv_iconst (v := 1) hx hb d_AL_add3E_8_17 (by decide) ?_
  refine lv_iadd hx hb d_AL_add3E_8_18 ?_
  rw [nI_1]
  refine mv_put C X ((vup_n _ _ n_a_q).trans (vup_s _ _ _)) wa 1 p_23_48_2 rfl rfl (Nat.le_of_ble_eq_true rfl) d_AL_add3E_8_19 (fun H locs X => ?_)
  have X : vO S0 D vcl (vup (vup (vup (vup h0 q (.inl (dT 4, 10, .inr (.inr (.inr (.inr (fun _ => none))))))) a (.inr (2, [.ref q, .int (nI 0), .int md]))) q (.inl (dT 4, 10, .inr (.inr (.inr (.inr (va_up (fun _ => none) 0 (some q0)))))))) a (.inr (2, [.ref q, .int (nI (0 + 1)), .int md]))) s H locs := X
  exact mq_vret hQ C X hr hlk (⟨q, _, 10, _, (vup_s _ _ _), ((vup_n _ _ (Ne.symm n_a_q)).trans (vup_s _ _ _)), wq, by omega, fun k hk => by omega, va_up_self _ _ _, (((vfx.rf.new zq).up (Or.inl rfl)).new zq).up (Or.inl rfl), Or.inr zq, fun c0 y w => Or.inr (by omega)⟩) (by omega) (by omega) d_AL_add3E_8_22
theorem d_AL_addE_8_0 : decode prog_27_method_25_code 0 = .ok (.aload_n 0, 1) := by decide +kernel
theorem d_AL_addE_8_1 : decode prog_27_method_25_code 1 = .ok (.dup, 1) := by decide +kernel
theorem d_AL_addE_8_2 : decode prog_27_method_25_code 2 = .ok (.getfield 63, 3) := by decide +kernel
theorem d_AL_addE_8_5 : decode prog_27_method_25_code 5 = .ok (.iconst 1, 1) := by decide +kernel
theorem d_AL_addE_8_6 : decode prog_27_method_25_code 6 = .ok (.iadd, 1) := by decide +kernel
theorem d_AL_addE_8_7 : decode prog_27_method_25_code 7 = .ok (.putfield 63, 3) := by decide +kernel
theorem d_AL_addE_8_10 : decode prog_27_method_25_code 10 = .ok (.aload_n 0, 1) := by decide +kernel
theorem d_AL_addE_8_11 : decode prog_27_method_25_code 11 = .ok (.aload_n 1, 1) := by decide +kernel
theorem d_AL_addE_8_12 : decode prog_27_method_25_code 12 = .ok (.aload_n 0, 1) := by decide +kernel
theorem d_AL_addE_8_13 : decode prog_27_method_25_code 13 = .ok (.getfield 9, 3) := by decide +kernel
theorem d_AL_addE_8_16 : decode prog_27_method_25_code 16 = .ok (.aload_n 0, 1) := by decide +kernel
theorem d_AL_addE_8_17 : decode prog_27_method_25_code 17 = .ok (.getfield 48, 3) := by decide +kernel
theorem d_AL_addE_8_20 : decode prog_27_method_25_code 20 = .ok (.invokevirtual 131, 3) := by decide +kernel
theorem d_AL_addE_8_23 : decode prog_27_method_25_code 23 = .ok (.iconst 1, 1) := by decide +kernel
theorem d_AL_addE_8_24 : decode prog_27_method_25_code 24 = .ok (.ireturn, 1) := by decide +kernel
set_option maxRecDepth 100000 in
set_option maxHeartbeats 4000000 in
theorem cm_AL_addE_8 {l : Launch} {S0 : State} {b : Nat} {D : va_G} {dT : Nat → ClassId} (hE : vEnv S0 b D dT) {dE mO : Nat} (hJ : vJ S0 dE mO) {h0 : vH} {a : Nat} {md : Int32} {fE : Nat → Option Nat} {q0 : Nat} {fs : List Value} (ka : h0 a = some (.inr (2, [.ref dE, .int (nI 0), .int md]))) (wa : S0.heap.size ≤ a) (kE : h0 dE = some (.inl (dT 4, 0, .inr (.inr (.inr (.inr fE)))))) (kq : h0 q0 = some (.inr (8, fs))) : vMi l S0 D vcl GT y_ArrayList_add prog_27_method_25_code 2 (some .boolean) 4 80 1 10 [.ref a, .ref q0] h0 (fun r h' => r = 1 ∧ lAdd dT S0.heap.size h0 h' a dE 0 fE q0) := by
  unfold vMi
  refine vM_ofQ hE.1 (by decide) (Nat.le_of_ble_eq_true rfl) (fun p e s m args below meth c ls Q hQ C hr hlk hnm X hl => ?_)
  have C : vC p s m _ c _ _ "java/util/ArrayList" GT D vcl (vty dT) := C
  have hx := C.1.1
  have hb := C.1.2.1
  obtain ⟨H, eH⟩ : ∃ z, z = s.heap := ⟨_, rfl⟩
  obtain ⟨locs, elocs⟩ : ∃ z : List Loc, z = [] := ⟨_, rfl⟩
  rw [← eH, ← elocs] at X
  rw [← eH, ← elocs]
  clear eH elocs
  have hl : lv_has ls 2 [(0, .ref a), (1, .ref q0)] := hl
  refine lv_aload_n hx hb d_AL_addE_8_0 rfl (lv_at hl 0 rfl) ?_
  refine lv_dup hx hb d_AL_addE_8_1 rfl ?_
  refine mv_get C X ka 2 f_23_63_2 (v := .int md) rfl d_AL_addE_8_2 ?_
  refine lv_iconst (v := 1) hx hb d_AL_addE_8_5 (by decide) ?_
  refine lv_iadd hx hb d_AL_addE_8_6 ?_
  refine mv_put C X ka wa 2 p_23_63_2 rfl rfl (Nat.le_of_ble_eq_true rfl) d_AL_addE_8_7 (fun H locs X => ?_)
  have X : vO S0 D vcl (vup h0 a (.inr (2, [.ref dE, .int (nI 0), .int (md + 1)]))) s H locs := X
  refine lv_aload_n hx hb d_AL_addE_8_10 rfl (lv_at hl 0 rfl) ?_
  refine lv_aload_n hx hb d_AL_addE_8_11 rfl (lv_at hl 1 rfl) ?_
  refine lv_aload_n hx hb d_AL_addE_8_12 rfl (lv_at hl 0 rfl) ?_
  refine mv_get C X (vup_s _ _ _) 0 f_23_9_2 (v := .ref dE) rfl d_AL_addE_8_13 ?_
  refine lv_aload_n hx hb d_AL_addE_8_16 rfl (lv_at hl 0 rfl) ?_
  refine mv_get C X (vup_s _ _ _) 1 f_23_48_2 (v := .int (nI 0)) rfl d_AL_addE_8_17 ?_
  refine mv_bv X (mv_rV (rest := []) (As := [.ref q0, .ref dE, .int (nI 0)]) gt_good C X k_23_131 (cm_AL_add3E_8 hE hJ  (vup_s _ _ _) wa ((vup_n _ _ (Ne.symm (vne_oa ka kE))).trans kE) ((vup_n _ _ (Ne.symm (vne_c ka kq (by decide)))).trans kq)) (vup_s _ _ _) rfl rfl ⟨Nat.le_of_ble_eq_true rfl, Nat.le_of_ble_eq_true rfl⟩ rfl hl.1 rfl (Nat.le_of_ble_eq_true rfl) d_AL_addE_8_20 ⟨by show 0 + 1 ≤ 1; omega, by show 0 + 10 ≤ 10; omega⟩) (fun hN H locs hp X => ?_)
  have hq := lAdd.up ka hp
  refine lv_iconst (v := 1) hx hb d_AL_addE_8_23 (by decide) ?_
  exact mq_iret hQ C X hr rfl hlk (⟨rfl, hq⟩) (by omega) (by omega) d_AL_addE_8_24
theorem d_AL_add3N_8_0 : decode prog_27_method_24_code 0 = .ok (.iload_n 3, 1) := by decide +kernel
theorem d_AL_add3N_8_1 : decode prog_27_method_24_code 1 = .ok (.aload_n 2, 1) := by decide +kernel
theorem d_AL_add3N_8_2 : decode prog_27_method_24_code 2 = .ok (.arraylength, 1) := by decide +kernel
theorem d_AL_add3N_8_3 : decode prog_27_method_24_code 3 = .ok (.if_icmp .ne 8, 3) := by decide +kernel
theorem d_AL_add3N_8_6 : decode prog_27_method_24_code 6 = .ok (.aload_n 0, 1) := by decide +kernel
theorem d_AL_add3N_8_7 : decode prog_27_method_24_code 7 = .ok (.invokevirtual 129, 3) := by decide +kernel
theorem d_AL_add3N_8_10 : decode prog_27_method_24_code 10 = .ok (.astore_n 2, 1) := by decide +kernel
theorem d_AL_add3N_8_11 : decode prog_27_method_24_code 11 = .ok (.aload_n 2, 1) := by decide +kernel
theorem d_AL_add3N_8_12 : decode prog_27_method_24_code 12 = .ok (.iload_n 3, 1) := by decide +kernel
theorem d_AL_add3N_8_13 : decode prog_27_method_24_code 13 = .ok (.aload_n 1, 1) := by decide +kernel
theorem d_AL_add3N_8_14 : decode prog_27_method_24_code 14 = .ok (.aastore, 1) := by decide +kernel
theorem d_AL_add3N_8_15 : decode prog_27_method_24_code 15 = .ok (.aload_n 0, 1) := by decide +kernel
theorem d_AL_add3N_8_16 : decode prog_27_method_24_code 16 = .ok (.iload_n 3, 1) := by decide +kernel
theorem d_AL_add3N_8_17 : decode prog_27_method_24_code 17 = .ok (.iconst 1, 1) := by decide +kernel
theorem d_AL_add3N_8_18 : decode prog_27_method_24_code 18 = .ok (.iadd, 1) := by decide +kernel
theorem d_AL_add3N_8_19 : decode prog_27_method_24_code 19 = .ok (.putfield 48, 3) := by decide +kernel
theorem d_AL_add3N_8_22 : decode prog_27_method_24_code 22 = .ok (.return_, 1) := by decide +kernel
set_option maxRecDepth 100000 in
set_option maxHeartbeats 4000000 in
theorem cm_AL_add3N_8 {l : Launch} {S0 : State} {b : Nat} {D : va_G} {dT : Nat → ClassId} (hE : vEnv S0 b D dT) {dE mO : Nat} (hJ : vJ S0 dE mO) {h0 : vH} {a ea n : Nat} {md : Int32} {f : Nat → Option Nat} (hn1 : 0 < n) (hn : n < 2 ^ 20) (hel : elO h0 f n) {q0 : Nat} {fs : List Value} (ka : h0 a = some (.inr (2, [.ref ea, .int (nI n), .int md]))) (wa : S0.heap.size ≤ a) (ke : h0 ea = some (.inl (dT 4, n, .inr (.inr (.inr (.inr f)))))) (we : S0.heap.size ≤ ea) (kq : h0 q0 = some (.inr (8, fs))) : vMv l S0 D vcl GT y_ArrayList_add_2 prog_27_method_24_code 4 none 5 117 1 (n + max 1 (n / 2)) [.ref a, .ref q0, .ref ea, .int (nI n)] h0 (fun h' => lAdd dT S0.heap.size h0 h' a ea n f q0) := by
  unfold vMv
  refine vM_ofQ hE.1 (by decide) (Nat.le_of_ble_eq_true rfl) (fun p e s m args below meth c ls Q hQ C hr hlk hnm X hl => ?_)
  have C : vC p s m _ c _ _ "java/util/ArrayList" GT D vcl (vty dT) := C
  have hx := C.1.1
  have hb := C.1.2.1
  obtain ⟨H, eH⟩ : ∃ z, z = s.heap := ⟨_, rfl⟩
  obtain ⟨locs, elocs⟩ : ∃ z : List Loc, z = [] := ⟨_, rfl⟩
  rw [← eH, ← elocs] at X
  rw [← eH, ← elocs]
  clear eH elocs
  have hl : lv_has ls 4 [(0, .ref a), (1, .ref q0), (2, .ref ea), (3, .int (nI n))] := hl
  refine lv_iload_n hx hb d_AL_add3N_8_0 rfl (lv_at hl 3 rfl) ?_
  refine lv_aload_n hx hb d_AL_add3N_8_1 rfl (lv_at hl 2 rfl) ?_
  refine mv_alen C X ke 4 rfl d_AL_add3N_8_2 ?_
  refine lv_icmp_ne (tgt := 11) hx hb d_AL_add3N_8_3 (by decide) (fun z => absurd z (fun q => q rfl)) (fun c1 => ?_)
  refine lv_aload_n hx hb d_AL_add3N_8_6 rfl (lv_at hl 0 rfl) ?_
  refine mv_bq X (mv_rV (rest := []) (As := []) gt_good C X k_23_129 (cm_AL_growN0 hE hJ hn1 hn hel ka wa ke we) ka rfl rfl ⟨Nat.le_of_ble_eq_true rfl, Nat.le_of_ble_eq_true rfl⟩ rfl hl.1 rfl (Nat.le_of_ble_eq_true rfl) d_AL_add3N_8_7 ⟨by show 0 + 1 ≤ 1; omega, by show 0 + (n + max 1 (n / 2)) ≤ (n + max 1 (n / 2)); omega⟩) (fun r2 hN H locs hp X => ?_)
  obtain ⟨q, g, er, zq, wq, eh, eg⟩ := hp
  subst er
  replace eh := eh.symm
  subst eh
  change W _ _ _ _ _ _ _ _ _ _ _ _ _ _ _ (F0 _ _ _ (.ref q :: _))
  have n_a_q : a ≠ q := vnf ka zq
  have n_ea_q : ea ≠ q := vnf ke zq
  have n_q0_q : q0 ≠ q := vnf kq zq
  refine lv_astore_n (lv' := [(2, .ref q), (0, .ref a), (1, .ref q0), (3, .int (nI n))]) hx hb d_AL_add3N_8_10 rfl hl (by decide) rfl (fun ls hl => ?_)
  refine lv_aload_n hx hb d_AL_add3N_8_11 rfl (lv_at hl 0 rfl) ?_
  refine lv_iload_n hx hb d_AL_add3N_8_12 rfl (lv_at hl 3 rfl) ?_
  refine lv_aload_n hx hb d_AL_add3N_8_13 rfl (lv_at hl 2 rfl) ?_
  refine mv_aast C X ((vup_n _ _ (Ne.symm n_a_q)).trans (vup_s _ _ _)) wq 4 rfl (mv_anyO C X hJ ((vup_n _ _ (Ne.symm (vne_c ka kq (by decide)))).trans ((vup_n _ _ n_q0_q).trans kq)) rfl (by decide)) n rfl (by omega) (by omega) d_AL_add3N_8_14 (fun H locs X => ?_)
  have X : vO S0 D vcl (vup (vup (vup h0 q (.inl (dT 4, (n + max 1 (n / 2)), .inr (.inr (.inr (.inr g)))))) a (.inr (2, [.ref q, .int (nI n), .int md]))) q (.inl (dT 4, (n + max 1 (n / 2)), .inr (.inr (.inr (.inr (va_up g n (some q0)))))))) s H locs := X
  refine lv_aload_n hx hb d_AL_add3N_8_15 rfl (lv_at hl 1 rfl) ?_
  refine lv_iload_n hx hb d_AL_add3N_8_16 rfl (lv_at hl 3 rfl) ?_
  refine lv_iconst (v := 1) hx hb d_AL_add3N_8_17 (by decide) ?_
  refine lv_iadd hx hb d_AL_add3N_8_18 ?_
  rw [nI_1]
  refine mv_put C X ((vup_n _ _ n_a_q).trans (vup_s _ _ _)) wa 1 p_23_48_2 rfl rfl (Nat.le_of_ble_eq_true rfl) d_AL_add3N_8_19 (fun H locs X => ?_)
  have X : vO S0 D vcl (vup (vup (vup (vup h0 q (.inl (dT 4, (n + max 1 (n / 2)), .inr (.inr (.inr (.inr g)))))) a (.inr (2, [.ref q, .int (nI n), .int md]))) q (.inl (dT 4, (n + max 1 (n / 2)), .inr (.inr (.inr (.inr (va_up g n (some q0)))))))) a (.inr (2, [.ref q, .int (nI (n + 1)), .int md]))) s H locs := X
  exact mq_vret hQ C X hr hlk (⟨q, _, (n + max 1 (n / 2)), _, (vup_s _ _ _), ((vup_n _ _ (Ne.symm n_a_q)).trans (vup_s _ _ _)), wq, by omega, fun k hk => by rw [va_up_ne _ _ (by omega)]; exact eg k hk, va_up_self _ _ _, (((vfx.rf.new zq).up (Or.inl rfl)).new zq).up (Or.inl rfl), Or.inr zq, fun c0 y w => Or.inr (by omega)⟩) (by omega) (by omega) d_AL_add3N_8_22
theorem d_AL_addN_8_0 : decode prog_27_method_25_code 0 = .ok (.aload_n 0, 1) := by decide +kernel
theorem d_AL_addN_8_1 : decode prog_27_method_25_code 1 = .ok (.dup, 1) := by decide +kernel
theorem d_AL_addN_8_2 : decode prog_27_method_25_code 2 = .ok (.getfield 63, 3) := by decide +kernel
theorem d_AL_addN_8_5 : decode prog_27_method_25_code 5 = .ok (.iconst 1, 1) := by decide +kernel
theorem d_AL_addN_8_6 : decode prog_27_method_25_code 6 = .ok (.iadd, 1) := by decide +kernel
theorem d_AL_addN_8_7 : decode prog_27_method_25_code 7 = .ok (.putfield 63, 3) := by decide +kernel
theorem d_AL_addN_8_10 : decode prog_27_method_25_code 10 = .ok (.aload_n 0, 1) := by decide +kernel
theorem d_AL_addN_8_11 : decode prog_27_method_25_code 11 = .ok (.aload_n 1, 1) := by decide +kernel
theorem d_AL_addN_8_12 : decode prog_27_method_25_code 12 = .ok (.aload_n 0, 1) := by decide +kernel
theorem d_AL_addN_8_13 : decode prog_27_method_25_code 13 = .ok (.getfield 9, 3) := by decide +kernel
theorem d_AL_addN_8_16 : decode prog_27_method_25_code 16 = .ok (.aload_n 0, 1) := by decide +kernel
theorem d_AL_addN_8_17 : decode prog_27_method_25_code 17 = .ok (.getfield 48, 3) := by decide +kernel
theorem d_AL_addN_8_20 : decode prog_27_method_25_code 20 = .ok (.invokevirtual 131, 3) := by decide +kernel
theorem d_AL_addN_8_23 : decode prog_27_method_25_code 23 = .ok (.iconst 1, 1) := by decide +kernel
theorem d_AL_addN_8_24 : decode prog_27_method_25_code 24 = .ok (.ireturn, 1) := by decide +kernel
set_option maxRecDepth 100000 in
set_option maxHeartbeats 4000000 in
theorem cm_AL_addN_8 {l : Launch} {S0 : State} {b : Nat} {D : va_G} {dT : Nat → ClassId} (hE : vEnv S0 b D dT) {dE mO : Nat} (hJ : vJ S0 dE mO) {h0 : vH} {a ea n : Nat} {md : Int32} {f : Nat → Option Nat} (hn1 : 0 < n) (hn : n < 2 ^ 20) (hel : elO h0 f n) {q0 : Nat} {fs : List Value} (ka : h0 a = some (.inr (2, [.ref ea, .int (nI n), .int md]))) (wa : S0.heap.size ≤ a) (ke : h0 ea = some (.inl (dT 4, n, .inr (.inr (.inr (.inr f)))))) (we : S0.heap.size ≤ ea) (kq : h0 q0 = some (.inr (8, fs))) : vMi l S0 D vcl GT y_ArrayList_add prog_27_method_25_code 2 (some .boolean) 6 140 1 (n + max 1 (n / 2)) [.ref a, .ref q0] h0 (fun r h' => r = 1 ∧ lAdd dT S0.heap.size h0 h' a ea n f q0) := by
  unfold vMi
  refine vM_ofQ hE.1 (by decide) (Nat.le_of_ble_eq_true rfl) (fun p e s m args below meth c ls Q hQ C hr hlk hnm X hl => ?_)
  have C : vC p s m _ c _ _ "java/util/ArrayList" GT D vcl (vty dT) := C
  have hx := C.1.1
  have hb := C.1.2.1
  obtain ⟨H, eH⟩ : ∃ z, z = s.heap := ⟨_, rfl⟩
  obtain ⟨locs, elocs⟩ : ∃ z : List Loc, z = [] := ⟨_, rfl⟩
  rw [← eH, ← elocs] at X
  rw [← eH, ← elocs]
  clear eH elocs
  have hl : lv_has ls 2 [(0, .ref a), (1, .ref q0)] := hl
  refine lv_aload_n hx hb d_AL_addN_8_0 rfl (lv_at hl 0 rfl) ?_
  refine lv_dup hx hb d_AL_addN_8_1 rfl ?_
  refine mv_get C X ka 2 f_23_63_2 (v := .int md) rfl d_AL_addN_8_2 ?_
  refine lv_iconst (v := 1) hx hb d_AL_addN_8_5 (by decide) ?_
  refine lv_iadd hx hb d_AL_addN_8_6 ?_
  refine mv_put C X ka wa 2 p_23_63_2 rfl rfl (Nat.le_of_ble_eq_true rfl) d_AL_addN_8_7 (fun H locs X => ?_)
  have X : vO S0 D vcl (vup h0 a (.inr (2, [.ref ea, .int (nI n), .int (md + 1)]))) s H locs := X
  refine lv_aload_n hx hb d_AL_addN_8_10 rfl (lv_at hl 0 rfl) ?_
  refine lv_aload_n hx hb d_AL_addN_8_11 rfl (lv_at hl 1 rfl) ?_
  refine lv_aload_n hx hb d_AL_addN_8_12 rfl (lv_at hl 0 rfl) ?_
  refine mv_get C X (vup_s _ _ _) 0 f_23_9_2 (v := .ref ea) rfl d_AL_addN_8_13 ?_
  refine lv_aload_n hx hb d_AL_addN_8_16 rfl (lv_at hl 0 rfl) ?_
  refine mv_get C X (vup_s _ _ _) 1 f_23_48_2 (v := .int (nI n)) rfl d_AL_addN_8_17 ?_
  refine mv_bv X (mv_rV (rest := []) (As := [.ref q0, .ref ea, .int (nI n)]) gt_good C X k_23_131 (cm_AL_add3N_8 hE hJ hn1 hn (hel.up ka no_c2) (vup_s _ _ _) wa ((vup_n _ _ (Ne.symm (vne_oa ka ke))).trans ke) we ((vup_n _ _ (Ne.symm (vne_c ka kq (by decide)))).trans kq)) (vup_s _ _ _) rfl rfl ⟨Nat.le_of_ble_eq_true rfl, Nat.le_of_ble_eq_true rfl⟩ rfl hl.1 rfl (Nat.le_of_ble_eq_true rfl) d_AL_addN_8_20 ⟨by show 0 + 1 ≤ 1; omega, by show 0 + (n + max 1 (n / 2)) ≤ (n + max 1 (n / 2)); omega⟩) (fun hN H locs hp X => ?_)
  have hq := lAdd.up ka hp
  refine lv_iconst (v := 1) hx hb d_AL_addN_8_23 (by decide) ?_
  exact mq_iret hQ C X hr rfl hlk (⟨rfl, hq⟩) (by omega) (by omega) d_AL_addN_8_24
theorem d_AL_add30_9_0 : decode prog_27_method_24_code 0 = .ok (.iload_n 3, 1) := by decide +kernel
theorem d_AL_add30_9_1 : decode prog_27_method_24_code 1 = .ok (.aload_n 2, 1) := by decide +kernel
theorem d_AL_add30_9_2 : decode prog_27_method_24_code 2 = .ok (.arraylength, 1) := by decide +kernel
theorem d_AL_add30_9_3 : decode prog_27_method_24_code 3 = .ok (.if_icmp .ne 8, 3) := by decide +kernel
theorem d_AL_add30_9_11 : decode prog_27_method_24_code 11 = .ok (.aload_n 2, 1) := by decide +kernel
theorem d_AL_add30_9_12 : decode prog_27_method_24_code 12 = .ok (.iload_n 3, 1) := by decide +kernel
theorem d_AL_add30_9_13 : decode prog_27_method_24_code 13 = .ok (.aload_n 1, 1) := by decide +kernel
theorem d_AL_add30_9_14 : decode prog_27_method_24_code 14 = .ok (.aastore, 1) := by decide +kernel
theorem d_AL_add30_9_15 : decode prog_27_method_24_code 15 = .ok (.aload_n 0, 1) := by decide +kernel
theorem d_AL_add30_9_16 : decode prog_27_method_24_code 16 = .ok (.iload_n 3, 1) := by decide +kernel
theorem d_AL_add30_9_17 : decode prog_27_method_24_code 17 = .ok (.iconst 1, 1) := by decide +kernel
theorem d_AL_add30_9_18 : decode prog_27_method_24_code 18 = .ok (.iadd, 1) := by decide +kernel
theorem d_AL_add30_9_19 : decode prog_27_method_24_code 19 = .ok (.putfield 48, 3) := by decide +kernel
theorem d_AL_add30_9_22 : decode prog_27_method_24_code 22 = .ok (.return_, 1) := by decide +kernel
set_option maxRecDepth 100000 in
set_option maxHeartbeats 4000000 in
theorem cm_AL_add30_9 {l : Launch} {S0 : State} {b : Nat} {D : va_G} {dT : Nat → ClassId} (hE : vEnv S0 b D dT) {dE mO : Nat} (hJ : vJ S0 dE mO) {h0 : vH} {a ea n cap : Nat} {md : Int32} {f : Nat → Option Nat} (hn : n < cap) (hc : cap < 2 ^ 20) {q0 : Nat} {fs : List Value} (ka : h0 a = some (.inr (2, [.ref ea, .int (nI n), .int md]))) (wa : S0.heap.size ≤ a) (ke : h0 ea = some (.inl (dT 4, cap, .inr (.inr (.inr (.inr f)))))) (we : S0.heap.size ≤ ea) (kq : h0 q0 = some (.inr (9, fs))) : vMv l S0 D vcl GT y_ArrayList_add_2 prog_27_method_24_code 4 none 0 0 0 0 [.ref a, .ref q0, .ref ea, .int (nI n)] h0 (fun h' => lAdd dT S0.heap.size h0 h' a ea n f q0) := by
  unfold vMv
  refine vM_ofQ hE.1 (by decide) (Nat.le_of_ble_eq_true rfl) (fun p e s m args below meth c ls Q hQ C hr hlk hnm X hl => ?_)
  have C : vC p s m _ c _ _ "java/util/ArrayList" GT D vcl (vty dT) := C
  have hx := C.1.1
  have hb := C.1.2.1
  obtain ⟨H, eH⟩ : ∃ z, z = s.heap := ⟨_, rfl⟩
  obtain ⟨locs, elocs⟩ : ∃ z : List Loc, z = [] := ⟨_, rfl⟩
  rw [← eH, ← elocs] at X
  rw [← eH, ← elocs]
  clear eH elocs
  have hl : lv_has ls 4 [(0, .ref a), (1, .ref q0), (2, .ref ea), (3, .int (nI n))] := hl
  refine lv_iload_n hx hb d_AL_add30_9_0 rfl (lv_at hl 3 rfl) ?_
  refine lv_aload_n hx hb d_AL_add30_9_1 rfl (lv_at hl 2 rfl) ?_
  refine mv_alen C X ke 4 rfl d_AL_add30_9_2 ?_
  refine lv_icmp_ne (tgt := 11) hx hb d_AL_add30_9_3 (by decide) (fun c1 => ?_) (fun z => absurd (nI_eqI (a := n) (b := cap) (by omega) (by omega) z) (by omega))
  refine lv_aload_n hx hb d_AL_add30_9_11 rfl (lv_at hl 2 rfl) ?_
  refine lv_iload_n hx hb d_AL_add30_9_12 rfl (lv_at hl 3 rfl) ?_
  refine lv_aload_n hx hb d_AL_add30_9_13 rfl (lv_at hl 1 rfl) ?_
  refine mv_aast C X ke we 4 rfl (mv_anyO C X hJ kq rfl (by decide)) n rfl (by omega) (by omega) d_AL_add30_9_14 (fun H locs X => ?_)
  have X : vO S0 D vcl (vup h0 ea (.inl (dT 4, cap, .inr (.inr (.inr (.inr (va_up f n (some q0)))))))) s H locs := X
  refine lv_aload_n hx hb d_AL_add30_9_15 rfl (lv_at hl 0 rfl) ?_
  refine lv_iload_n hx hb d_AL_add30_9_16 rfl (lv_at hl 3 rfl) ?_
  refine lv_iconst (v := 1) hx hb d_AL_add30_9_17 (by decide) ?_
  refine lv_iadd hx hb d_AL_add30_9_18 ?_
  rw [nI_1]
  refine mv_put C X ((vup_n _ _ (vne_oa ka ke)).trans ka) wa 1 p_23_48_2 rfl rfl (Nat.le_of_ble_eq_true rfl) d_AL_add30_9_19 (fun H locs X => ?_)
  have X : vO S0 D vcl (vup (vup h0 ea (.inl (dT 4, cap, .inr (.inr (.inr (.inr (va_up f n (some q0)))))))) a (.inr (2, [.ref ea, .int (nI (n + 1)), .int md]))) s H locs := X
  exact mq_vret hQ C X hr hlk (⟨ea, _, cap, _, (vup_s _ _ _), ((vup_n _ _ (Ne.symm (vne_oa ka ke))).trans (vup_s _ _ _)), we, by omega, fun k hk => va_up_ne _ _ (by omega), va_up_self _ _ _, (vfx.rf.up (Or.inr ⟨rfl, we⟩)).up (Or.inl rfl), Or.inl ⟨rfl, we⟩, fun c0 y w => Or.inl (arr_cap ke w)⟩) (by omega) (by omega) d_AL_add30_9_22
theorem d_AL_add0_9_0 : decode prog_27_method_25_code 0 = .ok (.aload_n 0, 1) := by decide +kernel
theorem d_AL_add0_9_1 : decode prog_27_method_25_code 1 = .ok (.dup, 1) := by decide +kernel
theorem d_AL_add0_9_2 : decode prog_27_method_25_code 2 = .ok (.getfield 63, 3) := by decide +kernel
theorem d_AL_add0_9_5 : decode prog_27_method_25_code 5 = .ok (.iconst 1, 1) := by decide +kernel
theorem d_AL_add0_9_6 : decode prog_27_method_25_code 6 = .ok (.iadd, 1) := by decide +kernel
theorem d_AL_add0_9_7 : decode prog_27_method_25_code 7 = .ok (.putfield 63, 3) := by decide +kernel
theorem d_AL_add0_9_10 : decode prog_27_method_25_code 10 = .ok (.aload_n 0, 1) := by decide +kernel
theorem d_AL_add0_9_11 : decode prog_27_method_25_code 11 = .ok (.aload_n 1, 1) := by decide +kernel
theorem d_AL_add0_9_12 : decode prog_27_method_25_code 12 = .ok (.aload_n 0, 1) := by decide +kernel
theorem d_AL_add0_9_13 : decode prog_27_method_25_code 13 = .ok (.getfield 9, 3) := by decide +kernel
theorem d_AL_add0_9_16 : decode prog_27_method_25_code 16 = .ok (.aload_n 0, 1) := by decide +kernel
theorem d_AL_add0_9_17 : decode prog_27_method_25_code 17 = .ok (.getfield 48, 3) := by decide +kernel
theorem d_AL_add0_9_20 : decode prog_27_method_25_code 20 = .ok (.invokevirtual 131, 3) := by decide +kernel
theorem d_AL_add0_9_23 : decode prog_27_method_25_code 23 = .ok (.iconst 1, 1) := by decide +kernel
theorem d_AL_add0_9_24 : decode prog_27_method_25_code 24 = .ok (.ireturn, 1) := by decide +kernel
set_option maxRecDepth 100000 in
set_option maxHeartbeats 4000000 in
theorem cm_AL_add0_9 {l : Launch} {S0 : State} {b : Nat} {D : va_G} {dT : Nat → ClassId} (hE : vEnv S0 b D dT) {dE mO : Nat} (hJ : vJ S0 dE mO) {h0 : vH} {a ea n cap : Nat} {md : Int32} {f : Nat → Option Nat} (hn : n < cap) (hc : cap < 2 ^ 20) {q0 : Nat} {fs : List Value} (ka : h0 a = some (.inr (2, [.ref ea, .int (nI n), .int md]))) (wa : S0.heap.size ≤ a) (ke : h0 ea = some (.inl (dT 4, cap, .inr (.inr (.inr (.inr f)))))) (we : S0.heap.size ≤ ea) (kq : h0 q0 = some (.inr (9, fs))) : vMi l S0 D vcl GT y_ArrayList_add prog_27_method_25_code 2 (some .boolean) 1 23 0 0 [.ref a, .ref q0] h0 (fun r h' => r = 1 ∧ lAdd dT S0.heap.size h0 h' a ea n f q0) := by
  unfold vMi
  refine vM_ofQ hE.1 (by decide) (Nat.le_of_ble_eq_true rfl) (fun p e s m args below meth c ls Q hQ C hr hlk hnm X hl => ?_)
  have C : vC p s m _ c _ _ "java/util/ArrayList" GT D vcl (vty dT) := C
  have hx := C.1.1
  have hb := C.1.2.1
  obtain ⟨H, eH⟩ : ∃ z, z = s.heap := ⟨_, rfl⟩
  obtain ⟨locs, elocs⟩ : ∃ z : List Loc, z = [] := ⟨_, rfl⟩
  rw [← eH, ← elocs] at X
  rw [← eH, ← elocs]
  clear eH elocs
  have hl : lv_has ls 2 [(0, .ref a), (1, .ref q0)] := hl
  refine lv_aload_n hx hb d_AL_add0_9_0 rfl (lv_at hl 0 rfl) ?_
  refine lv_dup hx hb d_AL_add0_9_1 rfl ?_
  refine mv_get C X ka 2 f_23_63_2 (v := .int md) rfl d_AL_add0_9_2 ?_
  refine lv_iconst (v := 1) hx hb d_AL_add0_9_5 (by decide) ?_
  refine lv_iadd hx hb d_AL_add0_9_6 ?_
  refine mv_put C X ka wa 2 p_23_63_2 rfl rfl (Nat.le_of_ble_eq_true rfl) d_AL_add0_9_7 (fun H locs X => ?_)
  have X : vO S0 D vcl (vup h0 a (.inr (2, [.ref ea, .int (nI n), .int (md + 1)]))) s H locs := X
  refine lv_aload_n hx hb d_AL_add0_9_10 rfl (lv_at hl 0 rfl) ?_
  refine lv_aload_n hx hb d_AL_add0_9_11 rfl (lv_at hl 1 rfl) ?_
  refine lv_aload_n hx hb d_AL_add0_9_12 rfl (lv_at hl 0 rfl) ?_
  refine mv_get C X (vup_s _ _ _) 0 f_23_9_2 (v := .ref ea) rfl d_AL_add0_9_13 ?_
  refine lv_aload_n hx hb d_AL_add0_9_16 rfl (lv_at hl 0 rfl) ?_
  refine mv_get C X (vup_s _ _ _) 1 f_23_48_2 (v := .int (nI n)) rfl d_AL_add0_9_17 ?_
  refine mv_bv X (mv_rV (rest := []) (As := [.ref q0, .ref ea, .int (nI n)]) gt_good C X k_23_131 (cm_AL_add30_9 hE hJ hn hc (vup_s _ _ _) wa ((vup_n _ _ (Ne.symm (vne_oa ka ke))).trans ke) we ((vup_n _ _ (Ne.symm (vne_c ka kq (by decide)))).trans kq)) (vup_s _ _ _) rfl rfl ⟨Nat.le_of_ble_eq_true rfl, Nat.le_of_ble_eq_true rfl⟩ rfl hl.1 rfl (Nat.le_of_ble_eq_true rfl) d_AL_add0_9_20 ⟨Nat.zero_le _, Nat.zero_le _⟩) (fun hN H locs hp X => ?_)
  have hq := lAdd.up ka hp
  refine lv_iconst (v := 1) hx hb d_AL_add0_9_23 (by decide) ?_
  exact mq_iret hQ C X hr rfl hlk (⟨rfl, hq⟩) (by omega) (by omega) d_AL_add0_9_24
theorem d_AL_add3E_9_0 : decode prog_27_method_24_code 0 = .ok (.iload_n 3, 1) := by decide +kernel
theorem d_AL_add3E_9_1 : decode prog_27_method_24_code 1 = .ok (.aload_n 2, 1) := by decide +kernel
theorem d_AL_add3E_9_2 : decode prog_27_method_24_code 2 = .ok (.arraylength, 1) := by decide +kernel
theorem d_AL_add3E_9_3 : decode prog_27_method_24_code 3 = .ok (.if_icmp .ne 8, 3) := by decide +kernel
theorem d_AL_add3E_9_6 : decode prog_27_method_24_code 6 = .ok (.aload_n 0, 1) := by decide +kernel
theorem d_AL_add3E_9_7 : decode prog_27_method_24_code 7 = .ok (.invokevirtual 129, 3) := by decide +kernel
theorem d_AL_add3E_9_10 : decode prog_27_method_24_code 10 = .ok (.astore_n 2, 1) := by decide +kernel
theorem d_AL_add3E_9_11 : decode prog_27_method_24_code 11 = .ok (.aload_n 2, 1) := by decide +kernel
theorem d_AL_add3E_9_12 : decode prog_27_method_24_code 12 = .ok (.iload_n 3, 1) := by decide +kernel
theorem d_AL_add3E_9_13 : decode prog_27_method_24_code 13 = .ok (.aload_n 1, 1) := by decide +kernel
theorem d_AL_add3E_9_14 : decode prog_27_method_24_code 14 = .ok (.aastore, 1) := by decide +kernel
theorem d_AL_add3E_9_15 : decode prog_27_method_24_code 15 = .ok (.aload_n 0, 1) := by decide +kernel
theorem d_AL_add3E_9_16 : decode prog_27_method_24_code 16 = .ok (.iload_n 3, 1) := by decide +kernel
theorem d_AL_add3E_9_17 : decode prog_27_method_24_code 17 = .ok (.iconst 1, 1) := by decide +kernel
theorem d_AL_add3E_9_18 : decode prog_27_method_24_code 18 = .ok (.iadd, 1) := by decide +kernel
theorem d_AL_add3E_9_19 : decode prog_27_method_24_code 19 = .ok (.putfield 48, 3) := by decide +kernel
theorem d_AL_add3E_9_22 : decode prog_27_method_24_code 22 = .ok (.return_, 1) := by decide +kernel
set_option maxRecDepth 100000 in
set_option maxHeartbeats 4000000 in
theorem cm_AL_add3E_9 {l : Launch} {S0 : State} {b : Nat} {D : va_G} {dT : Nat → ClassId} (hE : vEnv S0 b D dT) {dE mO : Nat} (hJ : vJ S0 dE mO) {h0 : vH} {a : Nat} {md : Int32} {fE : Nat → Option Nat} {q0 : Nat} {fs : List Value} (ka : h0 a = some (.inr (2, [.ref dE, .int (nI 0), .int md]))) (wa : S0.heap.size ≤ a) (kE : h0 dE = some (.inl (dT 4, 0, .inr (.inr (.inr (.inr fE)))))) (kq : h0 q0 = some (.inr (9, fs))) : vMv l S0 D vcl GT y_ArrayList_add_2 prog_27_method_24_code 4 none 3 57 1 10 [.ref a, .ref q0, .ref dE, .int (nI 0)] h0 (fun h' => lAdd dT S0.heap.size h0 h' a dE 0 fE q0) := by
  unfold vMv
  refine vM_ofQ hE.1 (by decide) (Nat.le_of_ble_eq_true rfl) (fun p e s m args below meth c ls Q hQ C hr hlk hnm X hl => ?_)
  have C : vC p s m _ c _ _ "java/util/ArrayList" GT D vcl (vty dT) := C
  have hx := C.1.1
  have hb := C.1.2.1
  obtain ⟨H, eH⟩ : ∃ z, z = s.heap := ⟨_, rfl⟩
  obtain ⟨locs, elocs⟩ : ∃ z : List Loc, z = [] := ⟨_, rfl⟩
  rw [← eH, ← elocs] at X
  rw [← eH, ← elocs]
  clear eH elocs
  have hl : lv_has ls 4 [(0, .ref a), (1, .ref q0), (2, .ref dE), (3, .int (nI 0))] := hl
  refine lv_iload_n hx hb d_AL_add3E_9_0 rfl (lv_at hl 3 rfl) ?_
  refine lv_aload_n hx hb d_AL_add3E_9_1 rfl (lv_at hl 2 rfl) ?_
  refine mv_alen C X kE 4 rfl d_AL_add3E_9_2 ?_
  refine lv_icmp_ne (tgt := 11) hx hb d_AL_add3E_9_3 (by decide) (fun z => absurd z (fun q => q rfl)) (fun c1 => ?_)
  refine lv_aload_n hx hb d_AL_add3E_9_6 rfl (lv_at hl 0 rfl) ?_
  refine mv_bq X (mv_rV (rest := []) (As := []) gt_good C X k_23_129 (cm_AL_growE0 hE hJ ka wa kE) ka rfl rfl ⟨Nat.le_of_ble_eq_true rfl, Nat.le_of_ble_eq_true rfl⟩ rfl hl.1 rfl (Nat.le_of_ble_eq_true rfl) d_AL_add3E_9_7 ⟨by show 0 + 1 ≤ 1; omega, by show 0 + 10 ≤ 10; omega⟩) (fun r2 hN H locs hp X => ?_)
  obtain ⟨q, er, zq, wq, eh⟩ := hp
  subst er
  replace eh := eh.symm
  subst eh
  change W _ _ _ _ _ _ _ _ _ _ _ _ _ _ _ (F0 _ _ _ (.ref q :: _))
  have n_a_q : a ≠ q := vnf ka zq
  have n_dE_q : dE ≠ q := vnf kE zq
  have n_q0_q : q0 ≠ q := vnf kq zq
  refine lv_astore_n (lv' := [(2, .ref q), (0, .ref a), (1, .ref q0), (3, .int (nI 0))]) hx hb d_AL_add3E_9_10 rfl hl (by decide) rfl (fun ls hl => ?_)
  refine lv_aload_n hx hb d_AL_add3E_9_11 rfl (lv_at hl 0 rfl) ?_
  refine lv_iload_n hx hb d_AL_add3E_9_12 rfl (lv_at hl 3 rfl) ?_
  refine lv_aload_n hx hb d_AL_add3E_9_13 rfl (lv_at hl 2 rfl) ?_
  refine mv_aast C X ((vup_n _ _ (Ne.symm n_a_q)).trans (vup_s _ _ _)) wq 4 rfl (mv_anyO C X hJ ((vup_n _ _ (Ne.symm (vne_c ka kq (by decide)))).trans ((vup_n _ _ n_q0_q).trans kq)) rfl (by decide)) 0 rfl (by omega) (by omega) d_AL_add3E_9_14 (fun H locs X => ?_)
  have X : vO S0 D vcl (vup (vup (vup h0 q (.inl (dT 4, 10, .inr (.inr (.inr (.inr (fun _ => none))))))) a (.inr (2, [.ref q, .int (nI 0), .int md]))) q (.inl (dT 4, 10, .inr (.inr (.inr (.inr (va_up (fun _ => none) 0 (some q0)))))))) s H locs := X
  refine lv_aload_n hx hb d_AL_add3E_9_15 rfl (lv_at hl 1 rfl) ?_
  refine lv_iload_n hx hb d_AL_add3E_9_16 rfl (lv_at hl 3 rfl) ?_
  refine lv_iconst (v := 1) hx hb d_AL_add3E_9_17 (by decide) ?_
  refine lv_iadd hx hb d_AL_add3E_9_18 ?_
  rw [nI_1]
  refine mv_put C X ((vup_n _ _ n_a_q).trans (vup_s _ _ _)) wa 1 p_23_48_2 rfl rfl (Nat.le_of_ble_eq_true rfl) d_AL_add3E_9_19 (fun H locs X => ?_)
  have X : vO S0 D vcl (vup (vup (vup (vup h0 q (.inl (dT 4, 10, .inr (.inr (.inr (.inr (fun _ => none))))))) a (.inr (2, [.ref q, .int (nI 0), .int md]))) q (.inl (dT 4, 10, .inr (.inr (.inr (.inr (va_up (fun _ => none) 0 (some q0)))))))) a (.inr (2, [.ref q, .int (nI (0 + 1)), .int md]))) s H locs := X
  exact mq_vret hQ C X hr hlk (⟨q, _, 10, _, (vup_s _ _ _), ((vup_n _ _ (Ne.symm n_a_q)).trans (vup_s _ _ _)), wq, by omega, fun k hk => by omega, va_up_self _ _ _, (((vfx.rf.new zq).up (Or.inl rfl)).new zq).up (Or.inl rfl), Or.inr zq, fun c0 y w => Or.inr (by omega)⟩) (by omega) (by omega) d_AL_add3E_9_22
theorem d_AL_addE_9_0 : decode prog_27_method_25_code 0 = .ok (.aload_n 0, 1) := by decide +kernel
theorem d_AL_addE_9_1 : decode prog_27_method_25_code 1 = .ok (.dup, 1) := by decide +kernel
theorem d_AL_addE_9_2 : decode prog_27_method_25_code 2 = .ok (.getfield 63, 3) := by decide +kernel
theorem d_AL_addE_9_5 : decode prog_27_method_25_code 5 = .ok (.iconst 1, 1) := by decide +kernel
theorem d_AL_addE_9_6 : decode prog_27_method_25_code 6 = .ok (.iadd, 1) := by decide +kernel
theorem d_AL_addE_9_7 : decode prog_27_method_25_code 7 = .ok (.putfield 63, 3) := by decide +kernel
theorem d_AL_addE_9_10 : decode prog_27_method_25_code 10 = .ok (.aload_n 0, 1) := by decide +kernel
theorem d_AL_addE_9_11 : decode prog_27_method_25_code 11 = .ok (.aload_n 1, 1) := by decide +kernel
theorem d_AL_addE_9_12 : decode prog_27_method_25_code 12 = .ok (.aload_n 0, 1) := by decide +kernel
theorem d_AL_addE_9_13 : decode prog_27_method_25_code 13 = .ok (.getfield 9, 3) := by decide +kernel
theorem d_AL_addE_9_16 : decode prog_27_method_25_code 16 = .ok (.aload_n 0, 1) := by decide +kernel
theorem d_AL_addE_9_17 : decode prog_27_method_25_code 17 = .ok (.getfield 48, 3) := by decide +kernel
theorem d_AL_addE_9_20 : decode prog_27_method_25_code 20 = .ok (.invokevirtual 131, 3) := by decide +kernel
theorem d_AL_addE_9_23 : decode prog_27_method_25_code 23 = .ok (.iconst 1, 1) := by decide +kernel
theorem d_AL_addE_9_24 : decode prog_27_method_25_code 24 = .ok (.ireturn, 1) := by decide +kernel
set_option maxRecDepth 100000 in
set_option maxHeartbeats 4000000 in
theorem cm_AL_addE_9 {l : Launch} {S0 : State} {b : Nat} {D : va_G} {dT : Nat → ClassId} (hE : vEnv S0 b D dT) {dE mO : Nat} (hJ : vJ S0 dE mO) {h0 : vH} {a : Nat} {md : Int32} {fE : Nat → Option Nat} {q0 : Nat} {fs : List Value} (ka : h0 a = some (.inr (2, [.ref dE, .int (nI 0), .int md]))) (wa : S0.heap.size ≤ a) (kE : h0 dE = some (.inl (dT 4, 0, .inr (.inr (.inr (.inr fE)))))) (kq : h0 q0 = some (.inr (9, fs))) : vMi l S0 D vcl GT y_ArrayList_add prog_27_method_25_code 2 (some .boolean) 4 80 1 10 [.ref a, .ref q0] h0 (fun r h' => r = 1 ∧ lAdd dT S0.heap.size h0 h' a dE 0 fE q0) := by
  unfold vMi
  refine vM_ofQ hE.1 (by decide) (Nat.le_of_ble_eq_true rfl) (fun p e s m args below meth c ls Q hQ C hr hlk hnm X hl => ?_)
  have C : vC p s m _ c _ _ "java/util/ArrayList" GT D vcl (vty dT) := C
  have hx := C.1.1
  have hb := C.1.2.1
  obtain ⟨H, eH⟩ : ∃ z, z = s.heap := ⟨_, rfl⟩
  obtain ⟨locs, elocs⟩ : ∃ z : List Loc, z = [] := ⟨_, rfl⟩
  rw [← eH, ← elocs] at X
  rw [← eH, ← elocs]
  clear eH elocs
  have hl : lv_has ls 2 [(0, .ref a), (1, .ref q0)] := hl
  refine lv_aload_n hx hb d_AL_addE_9_0 rfl (lv_at hl 0 rfl) ?_
  refine lv_dup hx hb d_AL_addE_9_1 rfl ?_
  refine mv_get C X ka 2 f_23_63_2 (v := .int md) rfl d_AL_addE_9_2 ?_
  refine lv_iconst (v := 1) hx hb d_AL_addE_9_5 (by decide) ?_
  refine lv_iadd hx hb d_AL_addE_9_6 ?_
  refine mv_put C X ka wa 2 p_23_63_2 rfl rfl (Nat.le_of_ble_eq_true rfl) d_AL_addE_9_7 (fun H locs X => ?_)
  have X : vO S0 D vcl (vup h0 a (.inr (2, [.ref dE, .int (nI 0), .int (md + 1)]))) s H locs := X
  refine lv_aload_n hx hb d_AL_addE_9_10 rfl (lv_at hl 0 rfl) ?_
  refine lv_aload_n hx hb d_AL_addE_9_11 rfl (lv_at hl 1 rfl) ?_
  refine lv_aload_n hx hb d_AL_addE_9_12 rfl (lv_at hl 0 rfl) ?_
  refine mv_get C X (vup_s _ _ _) 0 f_23_9_2 (v := .ref dE) rfl d_AL_addE_9_13 ?_
  refine lv_aload_n hx hb d_AL_addE_9_16 rfl (lv_at hl 0 rfl) ?_
  refine mv_get C X (vup_s _ _ _) 1 f_23_48_2 (v := .int (nI 0)) rfl d_AL_addE_9_17 ?_
  refine mv_bv X (mv_rV (rest := []) (As := [.ref q0, .ref dE, .int (nI 0)]) gt_good C X k_23_131 (cm_AL_add3E_9 hE hJ  (vup_s _ _ _) wa ((vup_n _ _ (Ne.symm (vne_oa ka kE))).trans kE) ((vup_n _ _ (Ne.symm (vne_c ka kq (by decide)))).trans kq)) (vup_s _ _ _) rfl rfl ⟨Nat.le_of_ble_eq_true rfl, Nat.le_of_ble_eq_true rfl⟩ rfl hl.1 rfl (Nat.le_of_ble_eq_true rfl) d_AL_addE_9_20 ⟨by show 0 + 1 ≤ 1; omega, by show 0 + 10 ≤ 10; omega⟩) (fun hN H locs hp X => ?_)
  have hq := lAdd.up ka hp
  refine lv_iconst (v := 1) hx hb d_AL_addE_9_23 (by decide) ?_
  exact mq_iret hQ C X hr rfl hlk (⟨rfl, hq⟩) (by omega) (by omega) d_AL_addE_9_24
theorem d_AL_add3N_9_0 : decode prog_27_method_24_code 0 = .ok (.iload_n 3, 1) := by decide +kernel
theorem d_AL_add3N_9_1 : decode prog_27_method_24_code 1 = .ok (.aload_n 2, 1) := by decide +kernel
theorem d_AL_add3N_9_2 : decode prog_27_method_24_code 2 = .ok (.arraylength, 1) := by decide +kernel
theorem d_AL_add3N_9_3 : decode prog_27_method_24_code 3 = .ok (.if_icmp .ne 8, 3) := by decide +kernel
theorem d_AL_add3N_9_6 : decode prog_27_method_24_code 6 = .ok (.aload_n 0, 1) := by decide +kernel
theorem d_AL_add3N_9_7 : decode prog_27_method_24_code 7 = .ok (.invokevirtual 129, 3) := by decide +kernel
theorem d_AL_add3N_9_10 : decode prog_27_method_24_code 10 = .ok (.astore_n 2, 1) := by decide +kernel
theorem d_AL_add3N_9_11 : decode prog_27_method_24_code 11 = .ok (.aload_n 2, 1) := by decide +kernel
theorem d_AL_add3N_9_12 : decode prog_27_method_24_code 12 = .ok (.iload_n 3, 1) := by decide +kernel
theorem d_AL_add3N_9_13 : decode prog_27_method_24_code 13 = .ok (.aload_n 1, 1) := by decide +kernel
theorem d_AL_add3N_9_14 : decode prog_27_method_24_code 14 = .ok (.aastore, 1) := by decide +kernel
theorem d_AL_add3N_9_15 : decode prog_27_method_24_code 15 = .ok (.aload_n 0, 1) := by decide +kernel
theorem d_AL_add3N_9_16 : decode prog_27_method_24_code 16 = .ok (.iload_n 3, 1) := by decide +kernel
theorem d_AL_add3N_9_17 : decode prog_27_method_24_code 17 = .ok (.iconst 1, 1) := by decide +kernel
theorem d_AL_add3N_9_18 : decode prog_27_method_24_code 18 = .ok (.iadd, 1) := by decide +kernel
theorem d_AL_add3N_9_19 : decode prog_27_method_24_code 19 = .ok (.putfield 48, 3) := by decide +kernel
theorem d_AL_add3N_9_22 : decode prog_27_method_24_code 22 = .ok (.return_, 1) := by decide +kernel
set_option maxRecDepth 100000 in
set_option maxHeartbeats 4000000 in
theorem cm_AL_add3N_9 {l : Launch} {S0 : State} {b : Nat} {D : va_G} {dT : Nat → ClassId} (hE : vEnv S0 b D dT) {dE mO : Nat} (hJ : vJ S0 dE mO) {h0 : vH} {a ea n : Nat} {md : Int32} {f : Nat → Option Nat} (hn1 : 0 < n) (hn : n < 2 ^ 20) (hel : elO h0 f n) {q0 : Nat} {fs : List Value} (ka : h0 a = some (.inr (2, [.ref ea, .int (nI n), .int md]))) (wa : S0.heap.size ≤ a) (ke : h0 ea = some (.inl (dT 4, n, .inr (.inr (.inr (.inr f)))))) (we : S0.heap.size ≤ ea) (kq : h0 q0 = some (.inr (9, fs))) : vMv l S0 D vcl GT y_ArrayList_add_2 prog_27_method_24_code 4 none 5 117 1 (n + max 1 (n / 2)) [.ref a, .ref q0, .ref ea, .int (nI n)] h0 (fun h' => lAdd dT S0.heap.size h0 h' a ea n f q0) := by
  unfold vMv
  refine vM_ofQ hE.1 (by decide) (Nat.le_of_ble_eq_true rfl) (fun p e s m args below meth c ls Q hQ C hr hlk hnm X hl => ?_)
  have C : vC p s m _ c _ _ "java/util/ArrayList" GT D vcl (vty dT) := C
  have hx := C.1.1
  have hb := C.1.2.1
  obtain ⟨H, eH⟩ : ∃ z, z = s.heap := ⟨_, rfl⟩
  obtain ⟨locs, elocs⟩ : ∃ z : List Loc, z = [] := ⟨_, rfl⟩
  rw [← eH, ← elocs] at X
  rw [← eH, ← elocs]
  clear eH elocs
  have hl : lv_has ls 4 [(0, .ref a), (1, .ref q0), (2, .ref ea), (3, .int (nI n))] := hl
  refine lv_iload_n hx hb d_AL_add3N_9_0 rfl (lv_at hl 3 rfl) ?_
  refine lv_aload_n hx hb d_AL_add3N_9_1 rfl (lv_at hl 2 rfl) ?_
  refine mv_alen C X ke 4 rfl d_AL_add3N_9_2 ?_
  refine lv_icmp_ne (tgt := 11) hx hb d_AL_add3N_9_3 (by decide) (fun z => absurd z (fun q => q rfl)) (fun c1 => ?_)
  refine lv_aload_n hx hb d_AL_add3N_9_6 rfl (lv_at hl 0 rfl) ?_
  refine mv_bq X (mv_rV (rest := []) (As := []) gt_good C X k_23_129 (cm_AL_growN0 hE hJ hn1 hn hel ka wa ke we) ka rfl rfl ⟨Nat.le_of_ble_eq_true rfl, Nat.le_of_ble_eq_true rfl⟩ rfl hl.1 rfl (Nat.le_of_ble_eq_true rfl) d_AL_add3N_9_7 ⟨by show 0 + 1 ≤ 1; omega, by show 0 + (n + max 1 (n / 2)) ≤ (n + max 1 (n / 2)); omega⟩) (fun r2 hN H locs hp X => ?_)
  obtain ⟨q, g, er, zq, wq, eh, eg⟩ := hp
  subst er
  replace eh := eh.symm
  subst eh
  change W _ _ _ _ _ _ _ _ _ _ _ _ _ _ _ (F0 _ _ _ (.ref q :: _))
  have n_a_q : a ≠ q := vnf ka zq
  have n_ea_q : ea ≠ q := vnf ke zq
  have n_q0_q : q0 ≠ q := vnf kq zq
  refine lv_astore_n (lv' := [(2, .ref q), (0, .ref a), (1, .ref q0), (3, .int (nI n))]) hx hb d_AL_add3N_9_10 rfl hl (by decide) rfl (fun ls hl => ?_)
  refine lv_aload_n hx hb d_AL_add3N_9_11 rfl (lv_at hl 0 rfl) ?_
  refine lv_iload_n hx hb d_AL_add3N_9_12 rfl (lv_at hl 3 rfl) ?_
  refine lv_aload_n hx hb d_AL_add3N_9_13 rfl (lv_at hl 2 rfl) ?_
  refine mv_aast C X ((vup_n _ _ (Ne.symm n_a_q)).trans (vup_s _ _ _)) wq 4 rfl (mv_anyO C X hJ ((vup_n _ _ (Ne.symm (vne_c ka kq (by decide)))).trans ((vup_n _ _ n_q0_q).trans kq)) rfl (by decide)) n rfl (by omega) (by omega) d_AL_add3N_9_14 (fun H locs X => ?_)
  have X : vO S0 D vcl (vup (vup (vup h0 q (.inl (dT 4, (n + max 1 (n / 2)), .inr (.inr (.inr (.inr g)))))) a (.inr (2, [.ref q, .int (nI n), .int md]))) q (.inl (dT 4, (n + max 1 (n / 2)), .inr (.inr (.inr (.inr (va_up g n (some q0)))))))) s H locs := X
  refine lv_aload_n hx hb d_AL_add3N_9_15 rfl (lv_at hl 1 rfl) ?_
  refine lv_iload_n hx hb d_AL_add3N_9_16 rfl (lv_at hl 3 rfl) ?_
  refine lv_iconst (v := 1) hx hb d_AL_add3N_9_17 (by decide) ?_
  refine lv_iadd hx hb d_AL_add3N_9_18 ?_
  rw [nI_1]
  refine mv_put C X ((vup_n _ _ n_a_q).trans (vup_s _ _ _)) wa 1 p_23_48_2 rfl rfl (Nat.le_of_ble_eq_true rfl) d_AL_add3N_9_19 (fun H locs X => ?_)
  have X : vO S0 D vcl (vup (vup (vup (vup h0 q (.inl (dT 4, (n + max 1 (n / 2)), .inr (.inr (.inr (.inr g)))))) a (.inr (2, [.ref q, .int (nI n), .int md]))) q (.inl (dT 4, (n + max 1 (n / 2)), .inr (.inr (.inr (.inr (va_up g n (some q0)))))))) a (.inr (2, [.ref q, .int (nI (n + 1)), .int md]))) s H locs := X
  exact mq_vret hQ C X hr hlk (⟨q, _, (n + max 1 (n / 2)), _, (vup_s _ _ _), ((vup_n _ _ (Ne.symm n_a_q)).trans (vup_s _ _ _)), wq, by omega, fun k hk => by rw [va_up_ne _ _ (by omega)]; exact eg k hk, va_up_self _ _ _, (((vfx.rf.new zq).up (Or.inl rfl)).new zq).up (Or.inl rfl), Or.inr zq, fun c0 y w => Or.inr (by omega)⟩) (by omega) (by omega) d_AL_add3N_9_22
theorem d_AL_addN_9_0 : decode prog_27_method_25_code 0 = .ok (.aload_n 0, 1) := by decide +kernel
theorem d_AL_addN_9_1 : decode prog_27_method_25_code 1 = .ok (.dup, 1) := by decide +kernel
theorem d_AL_addN_9_2 : decode prog_27_method_25_code 2 = .ok (.getfield 63, 3) := by decide +kernel
theorem d_AL_addN_9_5 : decode prog_27_method_25_code 5 = .ok (.iconst 1, 1) := by decide +kernel
theorem d_AL_addN_9_6 : decode prog_27_method_25_code 6 = .ok (.iadd, 1) := by decide +kernel
theorem d_AL_addN_9_7 : decode prog_27_method_25_code 7 = .ok (.putfield 63, 3) := by decide +kernel
theorem d_AL_addN_9_10 : decode prog_27_method_25_code 10 = .ok (.aload_n 0, 1) := by decide +kernel
theorem d_AL_addN_9_11 : decode prog_27_method_25_code 11 = .ok (.aload_n 1, 1) := by decide +kernel
theorem d_AL_addN_9_12 : decode prog_27_method_25_code 12 = .ok (.aload_n 0, 1) := by decide +kernel
theorem d_AL_addN_9_13 : decode prog_27_method_25_code 13 = .ok (.getfield 9, 3) := by decide +kernel
theorem d_AL_addN_9_16 : decode prog_27_method_25_code 16 = .ok (.aload_n 0, 1) := by decide +kernel
theorem d_AL_addN_9_17 : decode prog_27_method_25_code 17 = .ok (.getfield 48, 3) := by decide +kernel
theorem d_AL_addN_9_20 : decode prog_27_method_25_code 20 = .ok (.invokevirtual 131, 3) := by decide +kernel
theorem d_AL_addN_9_23 : decode prog_27_method_25_code 23 = .ok (.iconst 1, 1) := by decide +kernel
theorem d_AL_addN_9_24 : decode prog_27_method_25_code 24 = .ok (.ireturn, 1) := by decide +kernel
set_option maxRecDepth 100000 in
set_option maxHeartbeats 4000000 in
theorem cm_AL_addN_9 {l : Launch} {S0 : State} {b : Nat} {D : va_G} {dT : Nat → ClassId} (hE : vEnv S0 b D dT) {dE mO : Nat} (hJ : vJ S0 dE mO) {h0 : vH} {a ea n : Nat} {md : Int32} {f : Nat → Option Nat} (hn1 : 0 < n) (hn : n < 2 ^ 20) (hel : elO h0 f n) {q0 : Nat} {fs : List Value} (ka : h0 a = some (.inr (2, [.ref ea, .int (nI n), .int md]))) (wa : S0.heap.size ≤ a) (ke : h0 ea = some (.inl (dT 4, n, .inr (.inr (.inr (.inr f)))))) (we : S0.heap.size ≤ ea) (kq : h0 q0 = some (.inr (9, fs))) : vMi l S0 D vcl GT y_ArrayList_add prog_27_method_25_code 2 (some .boolean) 6 140 1 (n + max 1 (n / 2)) [.ref a, .ref q0] h0 (fun r h' => r = 1 ∧ lAdd dT S0.heap.size h0 h' a ea n f q0) := by
  unfold vMi
  refine vM_ofQ hE.1 (by decide) (Nat.le_of_ble_eq_true rfl) (fun p e s m args below meth c ls Q hQ C hr hlk hnm X hl => ?_)
  have C : vC p s m _ c _ _ "java/util/ArrayList" GT D vcl (vty dT) := C
  have hx := C.1.1
  have hb := C.1.2.1
  obtain ⟨H, eH⟩ : ∃ z, z = s.heap := ⟨_, rfl⟩
  obtain ⟨locs, elocs⟩ : ∃ z : List Loc, z = [] := ⟨_, rfl⟩
  rw [← eH, ← elocs] at X
  rw [← eH, ← elocs]
  clear eH elocs
  have hl : lv_has ls 2 [(0, .ref a), (1, .ref q0)] := hl
  refine lv_aload_n hx hb d_AL_addN_9_0 rfl (lv_at hl 0 rfl) ?_
  refine lv_dup hx hb d_AL_addN_9_1 rfl ?_
  refine mv_get C X ka 2 f_23_63_2 (v := .int md) rfl d_AL_addN_9_2 ?_
  refine lv_iconst (v := 1) hx hb d_AL_addN_9_5 (by decide) ?_
  refine lv_iadd hx hb d_AL_addN_9_6 ?_
  refine mv_put C X ka wa 2 p_23_63_2 rfl rfl (Nat.le_of_ble_eq_true rfl) d_AL_addN_9_7 (fun H locs X => ?_)
  have X : vO S0 D vcl (vup h0 a (.inr (2, [.ref ea, .int (nI n), .int (md + 1)]))) s H locs := X
  refine lv_aload_n hx hb d_AL_addN_9_10 rfl (lv_at hl 0 rfl) ?_
  refine lv_aload_n hx hb d_AL_addN_9_11 rfl (lv_at hl 1 rfl) ?_
  refine lv_aload_n hx hb d_AL_addN_9_12 rfl (lv_at hl 0 rfl) ?_
  refine mv_get C X (vup_s _ _ _) 0 f_23_9_2 (v := .ref ea) rfl d_AL_addN_9_13 ?_
  refine lv_aload_n hx hb d_AL_addN_9_16 rfl (lv_at hl 0 rfl) ?_
  refine mv_get C X (vup_s _ _ _) 1 f_23_48_2 (v := .int (nI n)) rfl d_AL_addN_9_17 ?_
  refine mv_bv X (mv_rV (rest := []) (As := [.ref q0, .ref ea, .int (nI n)]) gt_good C X k_23_131 (cm_AL_add3N_9 hE hJ hn1 hn (hel.up ka no_c2) (vup_s _ _ _) wa ((vup_n _ _ (Ne.symm (vne_oa ka ke))).trans ke) we ((vup_n _ _ (Ne.symm (vne_c ka kq (by decide)))).trans kq)) (vup_s _ _ _) rfl rfl ⟨Nat.le_of_ble_eq_true rfl, Nat.le_of_ble_eq_true rfl⟩ rfl hl.1 rfl (Nat.le_of_ble_eq_true rfl) d_AL_addN_9_20 ⟨by show 0 + 1 ≤ 1; omega, by show 0 + (n + max 1 (n / 2)) ≤ (n + max 1 (n / 2)); omega⟩) (fun hN H locs hp X => ?_)
  have hq := lAdd.up ka hp
  refine lv_iconst (v := 1) hx hb d_AL_addN_9_23 (by decide) ?_
  exact mq_iret hQ C X hr rfl hlk (⟨rfl, hq⟩) (by omega) (by omega) d_AL_addN_9_24
theorem d_AL_add30_10_0 : decode prog_27_method_24_code 0 = .ok (.iload_n 3, 1) := by decide +kernel
theorem d_AL_add30_10_1 : decode prog_27_method_24_code 1 = .ok (.aload_n 2, 1) := by decide +kernel
theorem d_AL_add30_10_2 : decode prog_27_method_24_code 2 = .ok (.arraylength, 1) := by decide +kernel
theorem d_AL_add30_10_3 : decode prog_27_method_24_code 3 = .ok (.if_icmp .ne 8, 3) := by decide +kernel
theorem d_AL_add30_10_11 : decode prog_27_method_24_code 11 = .ok (.aload_n 2, 1) := by decide +kernel
theorem d_AL_add30_10_12 : decode prog_27_method_24_code 12 = .ok (.iload_n 3, 1) := by decide +kernel
theorem d_AL_add30_10_13 : decode prog_27_method_24_code 13 = .ok (.aload_n 1, 1) := by decide +kernel
theorem d_AL_add30_10_14 : decode prog_27_method_24_code 14 = .ok (.aastore, 1) := by decide +kernel
theorem d_AL_add30_10_15 : decode prog_27_method_24_code 15 = .ok (.aload_n 0, 1) := by decide +kernel
theorem d_AL_add30_10_16 : decode prog_27_method_24_code 16 = .ok (.iload_n 3, 1) := by decide +kernel
theorem d_AL_add30_10_17 : decode prog_27_method_24_code 17 = .ok (.iconst 1, 1) := by decide +kernel
theorem d_AL_add30_10_18 : decode prog_27_method_24_code 18 = .ok (.iadd, 1) := by decide +kernel
theorem d_AL_add30_10_19 : decode prog_27_method_24_code 19 = .ok (.putfield 48, 3) := by decide +kernel
theorem d_AL_add30_10_22 : decode prog_27_method_24_code 22 = .ok (.return_, 1) := by decide +kernel
set_option maxRecDepth 100000 in
set_option maxHeartbeats 4000000 in
theorem cm_AL_add30_10 {l : Launch} {S0 : State} {b : Nat} {D : va_G} {dT : Nat → ClassId} (hE : vEnv S0 b D dT) {dE mO : Nat} (hJ : vJ S0 dE mO) {h0 : vH} {a ea n cap : Nat} {md : Int32} {f : Nat → Option Nat} (hn : n < cap) (hc : cap < 2 ^ 20) {q0 : Nat} {fs : List Value} (ka : h0 a = some (.inr (2, [.ref ea, .int (nI n), .int md]))) (wa : S0.heap.size ≤ a) (ke : h0 ea = some (.inl (dT 4, cap, .inr (.inr (.inr (.inr f)))))) (we : S0.heap.size ≤ ea) (kq : h0 q0 = some (.inr (10, fs))) : vMv l S0 D vcl GT y_ArrayList_add_2 prog_27_method_24_code 4 none 0 0 0 0 [.ref a, .ref q0, .ref ea, .int (nI n)] h0 (fun h' => lAdd dT S0.heap.size h0 h' a ea n f q0) := by
  unfold vMv
  refine vM_ofQ hE.1 (by decide) (Nat.le_of_ble_eq_true rfl) (fun p e s m args below meth c ls Q hQ C hr hlk hnm X hl => ?_)
  have C : vC p s m _ c _ _ "java/util/ArrayList" GT D vcl (vty dT) := C
  have hx := C.1.1
  have hb := C.1.2.1
  obtain ⟨H, eH⟩ : ∃ z, z = s.heap := ⟨_, rfl⟩
  obtain ⟨locs, elocs⟩ : ∃ z : List Loc, z = [] := ⟨_, rfl⟩
  rw [← eH, ← elocs] at X
  rw [← eH, ← elocs]
  clear eH elocs
  have hl : lv_has ls 4 [(0, .ref a), (1, .ref q0), (2, .ref ea), (3, .int (nI n))] := hl
  refine lv_iload_n hx hb d_AL_add30_10_0 rfl (lv_at hl 3 rfl) ?_
  refine lv_aload_n hx hb d_AL_add30_10_1 rfl (lv_at hl 2 rfl) ?_
  refine mv_alen C X ke 4 rfl d_AL_add30_10_2 ?_
  refine lv_icmp_ne (tgt := 11) hx hb d_AL_add30_10_3 (by decide) (fun c1 => ?_) (fun z => absurd (nI_eqI (a := n) (b := cap) (by omega) (by omega) z) (by omega))
  refine lv_aload_n hx hb d_AL_add30_10_11 rfl (lv_at hl 2 rfl) ?_
  refine lv_iload_n hx hb d_AL_add30_10_12 rfl (lv_at hl 3 rfl) ?_
  refine lv_aload_n hx hb d_AL_add30_10_13 rfl (lv_at hl 1 rfl) ?_
  refine mv_aast C X ke we 4 rfl (mv_anyO C X hJ kq rfl (by decide)) n rfl (by omega) (by omega) d_AL_add30_10_14 (fun H locs X => ?_)
  have X : vO S0 D vcl (vup h0 ea (.inl (dT 4, cap, .inr (.inr (.inr (.inr (va_up f n (some q0)))))))) s H locs := X
  refine lv_aload_n hx hb d_AL_add30_10_15 rfl (lv_at hl 0 rfl) ?_
  refine lv_iload_n hx hb d_AL_add30_10_16 rfl (lv_at hl 3 rfl) ?_
  refine lv_iconst (v := 1) hx hb d_AL_add30_10_17 (by decide) ?_
  refine lv_iadd hx hb d_AL_add30_10_18 ?_
  rw [nI_1]
  refine mv_put C X ((vup_n _ _ (vne_oa ka ke)).trans ka) wa 1 p_23_48_2 rfl rfl (Nat.le_of_ble_eq_true rfl) d_AL_add30_10_19 (fun H locs X => ?_)
  have X : vO S0 D vcl (vup (vup h0 ea (.inl (dT 4, cap, .inr (.inr (.inr (.inr (va_up f n (some q0)))))))) a (.inr (2, [.ref ea, .int (nI (n + 1)), .int md]))) s H locs := X
  exact mq_vret hQ C X hr hlk (⟨ea, _, cap, _, (vup_s _ _ _), ((vup_n _ _ (Ne.symm (vne_oa ka ke))).trans (vup_s _ _ _)), we, by omega, fun k hk => va_up_ne _ _ (by omega), va_up_self _ _ _, (vfx.rf.up (Or.inr ⟨rfl, we⟩)).up (Or.inl rfl), Or.inl ⟨rfl, we⟩, fun c0 y w => Or.inl (arr_cap ke w)⟩) (by omega) (by omega) d_AL_add30_10_22
theorem d_AL_add0_10_0 : decode prog_27_method_25_code 0 = .ok (.aload_n 0, 1) := by decide +kernel
theorem d_AL_add0_10_1 : decode prog_27_method_25_code 1 = .ok (.dup, 1) := by decide +kernel
theorem d_AL_add0_10_2 : decode prog_27_method_25_code 2 = .ok (.getfield 63, 3) := by decide +kernel
theorem d_AL_add0_10_5 : decode prog_27_method_25_code 5 = .ok (.iconst 1, 1) := by decide +kernel
theorem d_AL_add0_10_6 : decode prog_27_method_25_code 6 = .ok (.iadd, 1) := by decide +kernel
theorem d_AL_add0_10_7 : decode prog_27_method_25_code 7 = .ok (.putfield 63, 3) := by decide +kernel
theorem d_AL_add0_10_10 : decode prog_27_method_25_code 10 = .ok (.aload_n 0, 1) := by decide +kernel
theorem d_AL_add0_10_11 : decode prog_27_method_25_code 11 = .ok (.aload_n 1, 1) := by decide +kernel
theorem d_AL_add0_10_12 : decode prog_27_method_25_code 12 = .ok (.aload_n 0, 1) := by decide +kernel
theorem d_AL_add0_10_13 : decode prog_27_method_25_code 13 = .ok (.getfield 9, 3) := by decide +kernel
theorem d_AL_add0_10_16 : decode prog_27_method_25_code 16 = .ok (.aload_n 0, 1) := by decide +kernel
theorem d_AL_add0_10_17 : decode prog_27_method_25_code 17 = .ok (.getfield 48, 3) := by decide +kernel
theorem d_AL_add0_10_20 : decode prog_27_method_25_code 20 = .ok (.invokevirtual 131, 3) := by decide +kernel
theorem d_AL_add0_10_23 : decode prog_27_method_25_code 23 = .ok (.iconst 1, 1) := by decide +kernel
theorem d_AL_add0_10_24 : decode prog_27_method_25_code 24 = .ok (.ireturn, 1) := by decide +kernel
set_option maxRecDepth 100000 in
set_option maxHeartbeats 4000000 in
theorem cm_AL_add0_10 {l : Launch} {S0 : State} {b : Nat} {D : va_G} {dT : Nat → ClassId} (hE : vEnv S0 b D dT) {dE mO : Nat} (hJ : vJ S0 dE mO) {h0 : vH} {a ea n cap : Nat} {md : Int32} {f : Nat → Option Nat} (hn : n < cap) (hc : cap < 2 ^ 20) {q0 : Nat} {fs : List Value} (ka : h0 a = some (.inr (2, [.ref ea, .int (nI n), .int md]))) (wa : S0.heap.size ≤ a) (ke : h0 ea = some (.inl (dT 4, cap, .inr (.inr (.inr (.inr f)))))) (we : S0.heap.size ≤ ea) (kq : h0 q0 = some (.inr (10, fs))) : vMi l S0 D vcl GT y_ArrayList_add prog_27_method_25_code 2 (some .boolean) 1 23 0 0 [.ref a, .ref q0] h0 (fun r h' => r = 1 ∧ lAdd dT S0.heap.size h0 h' a ea n f q0) := by
  unfold vMi
  refine vM_ofQ hE.1 (by decide) (Nat.le_of_ble_eq_true rfl) (fun p e s m args below meth c ls Q hQ C hr hlk hnm X hl => ?_)
  have C : vC p s m _ c _ _ "java/util/ArrayList" GT D vcl (vty dT) := C
  have hx := C.1.1
  have hb := C.1.2.1
  obtain ⟨H, eH⟩ : ∃ z, z = s.heap := ⟨_, rfl⟩
  obtain ⟨locs, elocs⟩ : ∃ z : List Loc, z = [] := ⟨_, rfl⟩
  rw [← eH, ← elocs] at X
  rw [← eH, ← elocs]
  clear eH elocs
  have hl : lv_has ls 2 [(0, .ref a), (1, .ref q0)] := hl
  refine lv_aload_n hx hb d_AL_add0_10_0 rfl (lv_at hl 0 rfl) ?_
  refine lv_dup hx hb d_AL_add0_10_1 rfl ?_
  refine mv_get C X ka 2 f_23_63_2 (v := .int md) rfl d_AL_add0_10_2 ?_
  refine lv_iconst (v := 1) hx hb d_AL_add0_10_5 (by decide) ?_
  refine lv_iadd hx hb d_AL_add0_10_6 ?_
  refine mv_put C X ka wa 2 p_23_63_2 rfl rfl (Nat.le_of_ble_eq_true rfl) d_AL_add0_10_7 (fun H locs X => ?_)
  have X : vO S0 D vcl (vup h0 a (.inr (2, [.ref ea, .int (nI n), .int (md + 1)]))) s H locs := X
  refine lv_aload_n hx hb d_AL_add0_10_10 rfl (lv_at hl 0 rfl) ?_
  refine lv_aload_n hx hb d_AL_add0_10_11 rfl (lv_at hl 1 rfl) ?_
  refine lv_aload_n hx hb d_AL_add0_10_12 rfl (lv_at hl 0 rfl) ?_
  refine mv_get C X (vup_s _ _ _) 0 f_23_9_2 (v := .ref ea) rfl d_AL_add0_10_13 ?_
  refine lv_aload_n hx hb d_AL_add0_10_16 rfl (lv_at hl 0 rfl) ?_
  refine mv_get C X (vup_s _ _ _) 1 f_23_48_2 (v := .int (nI n)) rfl d_AL_add0_10_17 ?_
  refine mv_bv X (mv_rV (rest := []) (As := [.ref q0, .ref ea, .int (nI n)]) gt_good C X k_23_131 (cm_AL_add30_10 hE hJ hn hc (vup_s _ _ _) wa ((vup_n _ _ (Ne.symm (vne_oa ka ke))).trans ke) we ((vup_n _ _ (Ne.symm (vne_c ka kq (by decide)))).trans kq)) (vup_s _ _ _) rfl rfl ⟨Nat.le_of_ble_eq_true rfl, Nat.le_of_ble_eq_true rfl⟩ rfl hl.1 rfl (Nat.le_of_ble_eq_true rfl) d_AL_add0_10_20 ⟨Nat.zero_le _, Nat.zero_le _⟩) (fun hN H locs hp X => ?_)
  have hq := lAdd.up ka hp
  refine lv_iconst (v := 1) hx hb d_AL_add0_10_23 (by decide) ?_
  exact mq_iret hQ C X hr rfl hlk (⟨rfl, hq⟩) (by omega) (by omega) d_AL_add0_10_24
theorem d_AL_add3E_10_0 : decode prog_27_method_24_code 0 = .ok (.iload_n 3, 1) := by decide +kernel
theorem d_AL_add3E_10_1 : decode prog_27_method_24_code 1 = .ok (.aload_n 2, 1) := by decide +kernel
theorem d_AL_add3E_10_2 : decode prog_27_method_24_code 2 = .ok (.arraylength, 1) := by decide +kernel
theorem d_AL_add3E_10_3 : decode prog_27_method_24_code 3 = .ok (.if_icmp .ne 8, 3) := by decide +kernel
theorem d_AL_add3E_10_6 : decode prog_27_method_24_code 6 = .ok (.aload_n 0, 1) := by decide +kernel
theorem d_AL_add3E_10_7 : decode prog_27_method_24_code 7 = .ok (.invokevirtual 129, 3) := by decide +kernel
theorem d_AL_add3E_10_10 : decode prog_27_method_24_code 10 = .ok (.astore_n 2, 1) := by decide +kernel
theorem d_AL_add3E_10_11 : decode prog_27_method_24_code 11 = .ok (.aload_n 2, 1) := by decide +kernel
theorem d_AL_add3E_10_12 : decode prog_27_method_24_code 12 = .ok (.iload_n 3, 1) := by decide +kernel
theorem d_AL_add3E_10_13 : decode prog_27_method_24_code 13 = .ok (.aload_n 1, 1) := by decide +kernel
theorem d_AL_add3E_10_14 : decode prog_27_method_24_code 14 = .ok (.aastore, 1) := by decide +kernel
theorem d_AL_add3E_10_15 : decode prog_27_method_24_code 15 = .ok (.aload_n 0, 1) := by decide +kernel
theorem d_AL_add3E_10_16 : decode prog_27_method_24_code 16 = .ok (.iload_n 3, 1) := by decide +kernel
theorem d_AL_add3E_10_17 : decode prog_27_method_24_code 17 = .ok (.iconst 1, 1) := by decide +kernel
theorem d_AL_add3E_10_18 : decode prog_27_method_24_code 18 = .ok (.iadd, 1) := by decide +kernel
theorem d_AL_add3E_10_19 : decode prog_27_method_24_code 19 = .ok (.putfield 48, 3) := by decide +kernel
theorem d_AL_add3E_10_22 : decode prog_27_method_24_code 22 = .ok (.return_, 1) := by decide +kernel
set_option maxRecDepth 100000 in
set_option maxHeartbeats 4000000 in
theorem cm_AL_add3E_10 {l : Launch} {S0 : State} {b : Nat} {D : va_G} {dT : Nat → ClassId} (hE : vEnv S0 b D dT) {dE mO : Nat} (hJ : vJ S0 dE mO) {h0 : vH} {a : Nat} {md : Int32} {fE : Nat → Option Nat} {q0 : Nat} {fs : List Value} (ka : h0 a = some (.inr (2, [.ref dE, .int (nI 0), .int md]))) (wa : S0.heap.size ≤ a) (kE : h0 dE = some (.inl (dT 4, 0, .inr (.inr (.inr (.inr fE)))))) (kq : h0 q0 = some (.inr (10, fs))) : vMv l S0 D vcl GT y_ArrayList_add_2 prog_27_method_24_code 4 none 3 57 1 10 [.ref a, .ref q0, .ref dE, .int (nI 0)] h0 (fun h' => lAdd dT S0.heap.size h0 h' a dE 0 fE q0) := by
  unfold vMv
  refine vM_ofQ hE.1 (by decide) (Nat.le_of_ble_eq_true rfl) (fun p e s m args below meth c ls Q hQ C hr hlk hnm X hl => ?_)
  have C : vC p s m _ c _ _ "java/util/ArrayList" GT D vcl (vty dT) := C
  have hx := C.1.1
  have hb := C.1.2.1
  obtain ⟨H, eH⟩ : ∃ z, z = s.heap := ⟨_, rfl⟩
  obtain ⟨locs, elocs⟩ : ∃ z : List Loc, z = [] := ⟨_, rfl⟩
  rw [← eH, ← elocs] at X
  rw [← eH, ← elocs]
  clear eH elocs
  have hl : lv_has ls 4 [(0, .ref a), (1, .ref q0), (2, .ref dE), (3, .int (nI 0))] := hl
  refine lv_iload_n hx hb d_AL_add3E_10_0 rfl (lv_at hl 3 rfl) ?_
  refine lv_aload_n hx hb d_AL_add3E_10_1 rfl (lv_at hl 2 rfl) ?_
  refine mv_alen C X kE 4 rfl d_AL_add3E_10_2 ?_
  refine lv_icmp_ne (tgt := 11) hx hb d_AL_add3E_10_3 (by decide) (fun z => absurd z (fun q => q rfl)) (fun c1 => ?_)
  refine lv_aload_n hx hb d_AL_add3E_10_6 rfl (lv_at hl 0 rfl) ?_
  refine mv_bq X (mv_rV (rest := []) (As := []) gt_good C X k_23_129 (cm_AL_growE0 hE hJ ka wa kE) ka rfl rfl ⟨Nat.le_of_ble_eq_true rfl, Nat.le_of_ble_eq_true rfl⟩ rfl hl.1 rfl (Nat.le_of_ble_eq_true rfl) d_AL_add3E_10_7 ⟨by show 0 + 1 ≤ 1; omega, by show 0 + 10 ≤ 10; omega⟩) (fun r2 hN H locs hp X => ?_)
  obtain ⟨q, er, zq, wq, eh⟩ := hp
  subst er
  replace eh := eh.symm
  subst eh
  change W _ _ _ _ _ _ _ _ _ _ _ _ _ _ _ (F0 _ _ _ (.ref q :: _))
  have n_a_q : a ≠ q := vnf ka zq
  have n_dE_q : dE ≠ q := vnf kE zq
  have n_q0_q : q0 ≠ q := vnf kq zq
  refine lv_astore_n (lv' := [(2, .ref q), (0, .ref a), (1, .ref q0), (3, .int (nI 0))]) hx hb d_AL_add3E_10_10 rfl hl (by decide) rfl (fun ls hl => ?_)
  refine lv_aload_n hx hb d_AL_add3E_10_11 rfl (lv_at hl 0 rfl) ?_
  refine lv_iload_n hx hb d_AL_add3E_10_12 rfl (lv_at hl 3 rfl) ?_
  refine lv_aload_n hx hb d_AL_add3E_10_13 rfl (lv_at hl 2 rfl) ?_
  refine mv_aast C X ((vup_n _ _ (Ne.symm n_a_q)).trans (vup_s _ _ _)) wq 4 rfl (mv_anyO C X hJ ((vup_n _ _ (Ne.symm (vne_c ka kq (by decide)))).trans ((vup_n _ _ n_q0_q).trans kq)) rfl (by decide)) 0 rfl (by omega) (by omega) d_AL_add3E_10_14 (fun H locs X => ?_)
  have X : vO S0 D vcl (vup (vup (vup h0 q (.inl (dT 4, 10, .inr (.inr (.inr (.inr (fun _ => none))))))) a (.inr (2, [.ref q, .int (nI 0), .int md]))) q (.inl (dT 4, 10, .inr (.inr (.inr (.inr (va_up (fun _ => none) 0 (some q0)))))))) s H locs := X
  refine lv_aload_n hx hb d_AL_add3E_10_15 rfl (lv_at hl 1 rfl) ?_
  refine lv_iload_n hx hb d_AL_add3E_10_16 rfl (lv_at hl 3 rfl) ?_
  refine lv_iconst (v := 1) hx hb d_AL_add3E_10_17 (by decide) ?_
  refine lv_iadd hx hb d_AL_add3E_10_18 ?_
  rw [nI_1]
  refine mv_put C X ((vup_n _ _ n_a_q).trans (vup_s _ _ _)) wa 1 p_23_48_2 rfl rfl (Nat.le_of_ble_eq_true rfl) d_AL_add3E_10_19 (fun H locs X => ?_)
  have X : vO S0 D vcl (vup (vup (vup (vup h0 q (.inl (dT 4, 10, .inr (.inr (.inr (.inr (fun _ => none))))))) a (.inr (2, [.ref q, .int (nI 0), .int md]))) q (.inl (dT 4, 10, .inr (.inr (.inr (.inr (va_up (fun _ => none) 0 (some q0)))))))) a (.inr (2, [.ref q, .int (nI (0 + 1)), .int md]))) s H locs := X
  exact mq_vret hQ C X hr hlk (⟨q, _, 10, _, (vup_s _ _ _), ((vup_n _ _ (Ne.symm n_a_q)).trans (vup_s _ _ _)), wq, by omega, fun k hk => by omega, va_up_self _ _ _, (((vfx.rf.new zq).up (Or.inl rfl)).new zq).up (Or.inl rfl), Or.inr zq, fun c0 y w => Or.inr (by omega)⟩) (by omega) (by omega) d_AL_add3E_10_22
theorem d_AL_addE_10_0 : decode prog_27_method_25_code 0 = .ok (.aload_n 0, 1) := by decide +kernel
theorem d_AL_addE_10_1 : decode prog_27_method_25_code 1 = .ok (.dup, 1) := by decide +kernel
theorem d_AL_addE_10_2 : decode prog_27_method_25_code 2 = .ok (.getfield 63, 3) := by decide +kernel
theorem d_AL_addE_10_5 : decode prog_27_method_25_code 5 = .ok (.iconst 1, 1) := by decide +kernel
theorem d_AL_addE_10_6 : decode prog_27_method_25_code 6 = .ok (.iadd, 1) := by decide +kernel
theorem d_AL_addE_10_7 : decode prog_27_method_25_code 7 = .ok (.putfield 63, 3) := by decide +kernel
theorem d_AL_addE_10_10 : decode prog_27_method_25_code 10 = .ok (.aload_n 0, 1) := by decide +kernel
theorem d_AL_addE_10_11 : decode prog_27_method_25_code 11 = .ok (.aload_n 1, 1) := by decide +kernel
theorem d_AL_addE_10_12 : decode prog_27_method_25_code 12 = .ok (.aload_n 0, 1) := by decide +kernel
theorem d_AL_addE_10_13 : decode prog_27_method_25_code 13 = .ok (.getfield 9, 3) := by decide +kernel
theorem d_AL_addE_10_16 : decode prog_27_method_25_code 16 = .ok (.aload_n 0, 1) := by decide +kernel
theorem d_AL_addE_10_17 : decode prog_27_method_25_code 17 = .ok (.getfield 48, 3) := by decide +kernel
theorem d_AL_addE_10_20 : decode prog_27_method_25_code 20 = .ok (.invokevirtual 131, 3) := by decide +kernel
theorem d_AL_addE_10_23 : decode prog_27_method_25_code 23 = .ok (.iconst 1, 1) := by decide +kernel
theorem d_AL_addE_10_24 : decode prog_27_method_25_code 24 = .ok (.ireturn, 1) := by decide +kernel
set_option maxRecDepth 100000 in
set_option maxHeartbeats 4000000 in
theorem cm_AL_addE_10 {l : Launch} {S0 : State} {b : Nat} {D : va_G} {dT : Nat → ClassId} (hE : vEnv S0 b D dT) {dE mO : Nat} (hJ : vJ S0 dE mO) {h0 : vH} {a : Nat} {md : Int32} {fE : Nat → Option Nat} {q0 : Nat} {fs : List Value} (ka : h0 a = some (.inr (2, [.ref dE, .int (nI 0), .int md]))) (wa : S0.heap.size ≤ a) (kE : h0 dE = some (.inl (dT 4, 0, .inr (.inr (.inr (.inr fE)))))) (kq : h0 q0 = some (.inr (10, fs))) : vMi l S0 D vcl GT y_ArrayList_add prog_27_method_25_code 2 (some .boolean) 4 80 1 10 [.ref a, .ref q0] h0 (fun r h' => r = 1 ∧ lAdd dT S0.heap.size h0 h' a dE 0 fE q0) := by
  unfold vMi
  refine vM_ofQ hE.1 (by decide) (Nat.le_of_ble_eq_true rfl) (fun p e s m args below meth c ls Q hQ C hr hlk hnm X hl => ?_)
  have C : vC p s m _ c _ _ "java/util/ArrayList" GT D vcl (vty dT) := C
  have hx := C.1.1
  have hb := C.1.2.1
  obtain ⟨H, eH⟩ : ∃ z, z = s.heap := ⟨_, rfl⟩
  obtain ⟨locs, elocs⟩ : ∃ z : List Loc, z = [] := ⟨_, rfl⟩
  rw [← eH, ← elocs] at X
  rw [← eH, ← elocs]
  clear eH elocs
  have hl : lv_has ls 2 [(0, .ref a), (1, .ref q0)] := hl
  refine lv_aload_n hx hb d_AL_addE_10_0 rfl (lv_at hl 0 rfl) ?_
  refine lv_dup hx hb d_AL_addE_10_1 rfl ?_
  refine mv_get C X ka 2 f_23_63_2 (v := .int md) rfl d_AL_addE_10_2 ?_
  refine lv_iconst (v := 1) hx hb d_AL_addE_10_5 (by decide) ?_
  refine lv_iadd hx hb d_AL_addE_10_6 ?_
  refine mv_put C X ka wa 2 p_23_63_2 rfl rfl (Nat.le_of_ble_eq_true rfl) d_AL_addE_10_7 (fun H locs X => ?_)
  have X : vO S0 D vcl (vup h0 a (.inr (2, [.ref dE, .int (nI 0), .int (md + 1)]))) s H locs := X
  refine lv_aload_n hx hb d_AL_addE_10_10 rfl (lv_at hl 0 rfl) ?_
  refine lv_aload_n hx hb d_AL_addE_10_11 rfl (lv_at hl 1 rfl) ?_
  refine lv_aload_n hx hb d_AL_addE_10_12 rfl (lv_at hl 0 rfl) ?_
  refine mv_get C X (vup_s _ _ _) 0 f_23_9_2 (v := .ref dE) rfl d_AL_addE_10_13 ?_
  refine lv_aload_n hx hb d_AL_addE_10_16 rfl (lv_at hl 0 rfl) ?_
  refine mv_get C X (vup_s _ _ _) 1 f_23_48_2 (v := .int (nI 0)) rfl d_AL_addE_10_17 ?_
  refine mv_bv X (mv_rV (rest := []) (As := [.ref q0, .ref dE, .int (nI 0)]) gt_good C X k_23_131 (cm_AL_add3E_10 hE hJ  (vup_s _ _ _) wa ((vup_n _ _ (Ne.symm (vne_oa ka kE))).trans kE) ((vup_n _ _ (Ne.symm (vne_c ka kq (by decide)))).trans kq)) (vup_s _ _ _) rfl rfl ⟨Nat.le_of_ble_eq_true rfl, Nat.le_of_ble_eq_true rfl⟩ rfl hl.1 rfl (Nat.le_of_ble_eq_true rfl) d_AL_addE_10_20 ⟨by show 0 + 1 ≤ 1; omega, by show 0 + 10 ≤ 10; omega⟩) (fun hN H locs hp X => ?_)
  have hq := lAdd.up ka hp
  refine lv_iconst (v := 1) hx hb d_AL_addE_10_23 (by decide) ?_
  exact mq_iret hQ C X hr rfl hlk (⟨rfl, hq⟩) (by omega) (by omega) d_AL_addE_10_24
theorem d_AL_add3N_10_0 : decode prog_27_method_24_code 0 = .ok (.iload_n 3, 1) := by decide +kernel
theorem d_AL_add3N_10_1 : decode prog_27_method_24_code 1 = .ok (.aload_n 2, 1) := by decide +kernel
theorem d_AL_add3N_10_2 : decode prog_27_method_24_code 2 = .ok (.arraylength, 1) := by decide +kernel
theorem d_AL_add3N_10_3 : decode prog_27_method_24_code 3 = .ok (.if_icmp .ne 8, 3) := by decide +kernel
theorem d_AL_add3N_10_6 : decode prog_27_method_24_code 6 = .ok (.aload_n 0, 1) := by decide +kernel
theorem d_AL_add3N_10_7 : decode prog_27_method_24_code 7 = .ok (.invokevirtual 129, 3) := by decide +kernel
theorem d_AL_add3N_10_10 : decode prog_27_method_24_code 10 = .ok (.astore_n 2, 1) := by decide +kernel
theorem d_AL_add3N_10_11 : decode prog_27_method_24_code 11 = .ok (.aload_n 2, 1) := by decide +kernel
theorem d_AL_add3N_10_12 : decode prog_27_method_24_code 12 = .ok (.iload_n 3, 1) := by decide +kernel
theorem d_AL_add3N_10_13 : decode prog_27_method_24_code 13 = .ok (.aload_n 1, 1) := by decide +kernel
theorem d_AL_add3N_10_14 : decode prog_27_method_24_code 14 = .ok (.aastore, 1) := by decide +kernel
theorem d_AL_add3N_10_15 : decode prog_27_method_24_code 15 = .ok (.aload_n 0, 1) := by decide +kernel
theorem d_AL_add3N_10_16 : decode prog_27_method_24_code 16 = .ok (.iload_n 3, 1) := by decide +kernel
theorem d_AL_add3N_10_17 : decode prog_27_method_24_code 17 = .ok (.iconst 1, 1) := by decide +kernel
theorem d_AL_add3N_10_18 : decode prog_27_method_24_code 18 = .ok (.iadd, 1) := by decide +kernel
theorem d_AL_add3N_10_19 : decode prog_27_method_24_code 19 = .ok (.putfield 48, 3) := by decide +kernel
theorem d_AL_add3N_10_22 : decode prog_27_method_24_code 22 = .ok (.return_, 1) := by decide +kernel
set_option maxRecDepth 100000 in
set_option maxHeartbeats 4000000 in
theorem cm_AL_add3N_10 {l : Launch} {S0 : State} {b : Nat} {D : va_G} {dT : Nat → ClassId} (hE : vEnv S0 b D dT) {dE mO : Nat} (hJ : vJ S0 dE mO) {h0 : vH} {a ea n : Nat} {md : Int32} {f : Nat → Option Nat} (hn1 : 0 < n) (hn : n < 2 ^ 20) (hel : elO h0 f n) {q0 : Nat} {fs : List Value} (ka : h0 a = some (.inr (2, [.ref ea, .int (nI n), .int md]))) (wa : S0.heap.size ≤ a) (ke : h0 ea = some (.inl (dT 4, n, .inr (.inr (.inr (.inr f)))))) (we : S0.heap.size ≤ ea) (kq : h0 q0 = some (.inr (10, fs))) : vMv l S0 D vcl GT y_ArrayList_add_2 prog_27_method_24_code 4 none 5 117 1 (n + max 1 (n / 2)) [.ref a, .ref q0, .ref ea, .int (nI n)] h0 (fun h' => lAdd dT S0.heap.size h0 h' a ea n f q0) := by
  unfold vMv
  refine vM_ofQ hE.1 (by decide) (Nat.le_of_ble_eq_true rfl) (fun p e s m args below meth c ls Q hQ C hr hlk hnm X hl => ?_)
  have C : vC p s m _ c _ _ "java/util/ArrayList" GT D vcl (vty dT) := C
  have hx := C.1.1
  have hb := C.1.2.1
  obtain ⟨H, eH⟩ : ∃ z, z = s.heap := ⟨_, rfl⟩
  obtain ⟨locs, elocs⟩ : ∃ z : List Loc, z = [] := ⟨_, rfl⟩
  rw [← eH, ← elocs] at X
  rw [← eH, ← elocs]
  clear eH elocs
  have hl : lv_has ls 4 [(0, .ref a), (1, .ref q0), (2, .ref ea), (3, .int (nI n))] := hl
  refine lv_iload_n hx hb d_AL_add3N_10_0 rfl (lv_at hl 3 rfl) ?_
  refine lv_aload_n hx hb d_AL_add3N_10_1 rfl (lv_at hl 2 rfl) ?_
  refine mv_alen C X ke 4 rfl d_AL_add3N_10_2 ?_
  refine lv_icmp_ne (tgt := 11) hx hb d_AL_add3N_10_3 (by decide) (fun z => absurd z (fun q => q rfl)) (fun c1 => ?_)
  refine lv_aload_n hx hb d_AL_add3N_10_6 rfl (lv_at hl 0 rfl) ?_
  refine mv_bq X (mv_rV (rest := []) (As := []) gt_good C X k_23_129 (cm_AL_growN0 hE hJ hn1 hn hel ka wa ke we) ka rfl rfl ⟨Nat.le_of_ble_eq_true rfl, Nat.le_of_ble_eq_true rfl⟩ rfl hl.1 rfl (Nat.le_of_ble_eq_true rfl) d_AL_add3N_10_7 ⟨by show 0 + 1 ≤ 1; omega, by show 0 + (n + max 1 (n / 2)) ≤ (n + max 1 (n / 2)); omega⟩) (fun r2 hN H locs hp X => ?_)
  obtain ⟨q, g, er, zq, wq, eh, eg⟩ := hp
  subst er
  replace eh := eh.symm
  subst eh
  change W _ _ _ _ _ _ _ _ _ _ _ _ _ _ _ (F0 _ _ _ (.ref q :: _))
  have n_a_q : a ≠ q := vnf ka zq
  have n_ea_q : ea ≠ q := vnf ke zq
  have n_q0_q : q0 ≠ q := vnf kq zq
  refine lv_astore_n (lv' := [(2, .ref q), (0, .ref a), (1, .ref q0), (3, .int (nI n))]) hx hb d_AL_add3N_10_10 rfl hl (by decide) rfl (fun ls hl => ?_)
  refine lv_aload_n hx hb d_AL_add3N_10_11 rfl (lv_at hl 0 rfl) ?_
  refine lv_iload_n hx hb d_AL_add3N_10_12 rfl (lv_at hl 3 rfl) ?_
  refine lv_aload_n hx hb d_AL_add3N_10_13 rfl (lv_at hl 2 rfl) ?_
  refine mv_aast C X ((vup_n _ _ (Ne.symm n_a_q)).trans (vup_s _ _ _)) wq 4 rfl (mv_anyO C X hJ ((vup_n _ _ (Ne.symm (vne_c ka kq (by decide)))).trans ((vup_n _ _ n_q0_q).trans kq)) rfl (by decide)) n rfl (by omega) (by omega) d_AL_add3N_10_14 (fun H locs X => ?_)
  have X : vO S0 D vcl (vup (vup (vup h0 q (.inl (dT 4, (n + max 1 (n / 2)), .inr (.inr (.inr (.inr g)))))) a (.inr (2, [.ref q, .int (nI n), .int md]))) q (.inl (dT 4, (n + max 1 (n / 2)), .inr (.inr (.inr (.inr (va_up g n (some q0)))))))) s H locs := X
  refine lv_aload_n hx hb d_AL_add3N_10_15 rfl (lv_at hl 1 rfl) ?_
  refine lv_iload_n hx hb d_AL_add3N_10_16 rfl (lv_at hl 3 rfl) ?_
  refine lv_iconst (v := 1) hx hb d_AL_add3N_10_17 (by decide) ?_
  refine lv_iadd hx hb d_AL_add3N_10_18 ?_
  rw [nI_1]
  refine mv_put C X ((vup_n _ _ n_a_q).trans (vup_s _ _ _)) wa 1 p_23_48_2 rfl rfl (Nat.le_of_ble_eq_true rfl) d_AL_add3N_10_19 (fun H locs X => ?_)
  have X : vO S0 D vcl (vup (vup (vup (vup h0 q (.inl (dT 4, (n + max 1 (n / 2)), .inr (.inr (.inr (.inr g)))))) a (.inr (2, [.ref q, .int (nI n), .int md]))) q (.inl (dT 4, (n + max 1 (n / 2)), .inr (.inr (.inr (.inr (va_up g n (some q0)))))))) a (.inr (2, [.ref q, .int (nI (n + 1)), .int md]))) s H locs := X
  exact mq_vret hQ C X hr hlk (⟨q, _, (n + max 1 (n / 2)), _, (vup_s _ _ _), ((vup_n _ _ (Ne.symm n_a_q)).trans (vup_s _ _ _)), wq, by omega, fun k hk => by rw [va_up_ne _ _ (by omega)]; exact eg k hk, va_up_self _ _ _, (((vfx.rf.new zq).up (Or.inl rfl)).new zq).up (Or.inl rfl), Or.inr zq, fun c0 y w => Or.inr (by omega)⟩) (by omega) (by omega) d_AL_add3N_10_22
theorem d_AL_addN_10_0 : decode prog_27_method_25_code 0 = .ok (.aload_n 0, 1) := by decide +kernel
theorem d_AL_addN_10_1 : decode prog_27_method_25_code 1 = .ok (.dup, 1) := by decide +kernel
theorem d_AL_addN_10_2 : decode prog_27_method_25_code 2 = .ok (.getfield 63, 3) := by decide +kernel
theorem d_AL_addN_10_5 : decode prog_27_method_25_code 5 = .ok (.iconst 1, 1) := by decide +kernel
theorem d_AL_addN_10_6 : decode prog_27_method_25_code 6 = .ok (.iadd, 1) := by decide +kernel
theorem d_AL_addN_10_7 : decode prog_27_method_25_code 7 = .ok (.putfield 63, 3) := by decide +kernel
theorem d_AL_addN_10_10 : decode prog_27_method_25_code 10 = .ok (.aload_n 0, 1) := by decide +kernel
theorem d_AL_addN_10_11 : decode prog_27_method_25_code 11 = .ok (.aload_n 1, 1) := by decide +kernel
theorem d_AL_addN_10_12 : decode prog_27_method_25_code 12 = .ok (.aload_n 0, 1) := by decide +kernel
theorem d_AL_addN_10_13 : decode prog_27_method_25_code 13 = .ok (.getfield 9, 3) := by decide +kernel
theorem d_AL_addN_10_16 : decode prog_27_method_25_code 16 = .ok (.aload_n 0, 1) := by decide +kernel
theorem d_AL_addN_10_17 : decode prog_27_method_25_code 17 = .ok (.getfield 48, 3) := by decide +kernel
theorem d_AL_addN_10_20 : decode prog_27_method_25_code 20 = .ok (.invokevirtual 131, 3) := by decide +kernel
theorem d_AL_addN_10_23 : decode prog_27_method_25_code 23 = .ok (.iconst 1, 1) := by decide +kernel
theorem d_AL_addN_10_24 : decode prog_27_method_25_code 24 = .ok (.ireturn, 1) := by decide +kernel
set_option maxRecDepth 100000 in
set_option maxHeartbeats 4000000 in
theorem cm_AL_addN_10 {l : Launch} {S0 : State} {b : Nat} {D : va_G} {dT : Nat → ClassId} (hE : vEnv S0 b D dT) {dE mO : Nat} (hJ : vJ S0 dE mO) {h0 : vH} {a ea n : Nat} {md : Int32} {f : Nat → Option Nat} (hn1 : 0 < n) (hn : n < 2 ^ 20) (hel : elO h0 f n) {q0 : Nat} {fs : List Value} (ka : h0 a = some (.inr (2, [.ref ea, .int (nI n), .int md]))) (wa : S0.heap.size ≤ a) (ke : h0 ea = some (.inl (dT 4, n, .inr (.inr (.inr (.inr f)))))) (we : S0.heap.size ≤ ea) (kq : h0 q0 = some (.inr (10, fs))) : vMi l S0 D vcl GT y_ArrayList_add prog_27_method_25_code 2 (some .boolean) 6 140 1 (n + max 1 (n / 2)) [.ref a, .ref q0] h0 (fun r h' => r = 1 ∧ lAdd dT S0.heap.size h0 h' a ea n f q0) := by
  unfold vMi
  refine vM_ofQ hE.1 (by decide) (Nat.le_of_ble_eq_true rfl) (fun p e s m args below meth c ls Q hQ C hr hlk hnm X hl => ?_)
  have C : vC p s m _ c _ _ "java/util/ArrayList" GT D vcl (vty dT) := C
  have hx := C.1.1
  have hb := C.1.2.1
  obtain ⟨H, eH⟩ : ∃ z, z = s.heap := ⟨_, rfl⟩
  obtain ⟨locs, elocs⟩ : ∃ z : List Loc, z = [] := ⟨_, rfl⟩
  rw [← eH, ← elocs] at X
  rw [← eH, ← elocs]
  clear eH elocs
  have hl : lv_has ls 2 [(0, .ref a), (1, .ref q0)] := hl
  refine lv_aload_n hx hb d_AL_addN_10_0 rfl (lv_at hl 0 rfl) ?_
  refine lv_dup hx hb d_AL_addN_10_1 rfl ?_
  refine mv_get C X ka 2 f_23_63_2 (v := .int md) rfl d_AL_addN_10_2 ?_
  refine lv_iconst (v := 1) hx hb d_AL_addN_10_5 (by decide) ?_
  refine lv_iadd hx hb d_AL_addN_10_6 ?_
  refine mv_put C X ka wa 2 p_23_63_2 rfl rfl (Nat.le_of_ble_eq_true rfl) d_AL_addN_10_7 (fun H locs X => ?_)
  have X : vO S0 D vcl (vup h0 a (.inr (2, [.ref ea, .int (nI n), .int (md + 1)]))) s H locs := X
  refine lv_aload_n hx hb d_AL_addN_10_10 rfl (lv_at hl 0 rfl) ?_
  refine lv_aload_n hx hb d_AL_addN_10_11 rfl (lv_at hl 1 rfl) ?_
  refine lv_aload_n hx hb d_AL_addN_10_12 rfl (lv_at hl 0 rfl) ?_
  refine mv_get C X (vup_s _ _ _) 0 f_23_9_2 (v := .ref ea) rfl d_AL_addN_10_13 ?_
  refine lv_aload_n hx hb d_AL_addN_10_16 rfl (lv_at hl 0 rfl) ?_
  refine mv_get C X (vup_s _ _ _) 1 f_23_48_2 (v := .int (nI n)) rfl d_AL_addN_10_17 ?_
  refine mv_bv X (mv_rV (rest := []) (As := [.ref q0, .ref ea, .int (nI n)]) gt_good C X k_23_131 (cm_AL_add3N_10 hE hJ hn1 hn (hel.up ka no_c2) (vup_s _ _ _) wa ((vup_n _ _ (Ne.symm (vne_oa ka ke))).trans ke) we ((vup_n _ _ (Ne.symm (vne_c ka kq (by decide)))).trans kq)) (vup_s _ _ _) rfl rfl ⟨Nat.le_of_ble_eq_true rfl, Nat.le_of_ble_eq_true rfl⟩ rfl hl.1 rfl (Nat.le_of_ble_eq_true rfl) d_AL_addN_10_20 ⟨by show 0 + 1 ≤ 1; omega, by show 0 + (n + max 1 (n / 2)) ≤ (n + max 1 (n / 2)); omega⟩) (fun hN H locs hp X => ?_)
  have hq := lAdd.up ka hp
  refine lv_iconst (v := 1) hx hb d_AL_addN_10_23 (by decide) ?_
  exact mq_iret hQ C X hr rfl hlk (⟨rfl, hq⟩) (by omega) (by omega) d_AL_addN_10_24
theorem d_AL_add30_11_0 : decode prog_27_method_24_code 0 = .ok (.iload_n 3, 1) := by decide +kernel
theorem d_AL_add30_11_1 : decode prog_27_method_24_code 1 = .ok (.aload_n 2, 1) := by decide +kernel
theorem d_AL_add30_11_2 : decode prog_27_method_24_code 2 = .ok (.arraylength, 1) := by decide +kernel
theorem d_AL_add30_11_3 : decode prog_27_method_24_code 3 = .ok (.if_icmp .ne 8, 3) := by decide +kernel
theorem d_AL_add30_11_11 : decode prog_27_method_24_code 11 = .ok (.aload_n 2, 1) := by decide +kernel
theorem d_AL_add30_11_12 : decode prog_27_method_24_code 12 = .ok (.iload_n 3, 1) := by decide +kernel
theorem d_AL_add30_11_13 : decode prog_27_method_24_code 13 = .ok (.aload_n 1, 1) := by decide +kernel
theorem d_AL_add30_11_14 : decode prog_27_method_24_code 14 = .ok (.aastore, 1) := by decide +kernel
theorem d_AL_add30_11_15 : decode prog_27_method_24_code 15 = .ok (.aload_n 0, 1) := by decide +kernel
theorem d_AL_add30_11_16 : decode prog_27_method_24_code 16 = .ok (.iload_n 3, 1) := by decide +kernel
theorem d_AL_add30_11_17 : decode prog_27_method_24_code 17 = .ok (.iconst 1, 1) := by decide +kernel
theorem d_AL_add30_11_18 : decode prog_27_method_24_code 18 = .ok (.iadd, 1) := by decide +kernel
theorem d_AL_add30_11_19 : decode prog_27_method_24_code 19 = .ok (.putfield 48, 3) := by decide +kernel
theorem d_AL_add30_11_22 : decode prog_27_method_24_code 22 = .ok (.return_, 1) := by decide +kernel
set_option maxRecDepth 100000 in
set_option maxHeartbeats 4000000 in
theorem cm_AL_add30_11 {l : Launch} {S0 : State} {b : Nat} {D : va_G} {dT : Nat → ClassId} (hE : vEnv S0 b D dT) {dE mO : Nat} (hJ : vJ S0 dE mO) {h0 : vH} {a ea n cap : Nat} {md : Int32} {f : Nat → Option Nat} (hn : n < cap) (hc : cap < 2 ^ 20) {q0 : Nat} {fs : List Value} (ka : h0 a = some (.inr (2, [.ref ea, .int (nI n), .int md]))) (wa : S0.heap.size ≤ a) (ke : h0 ea = some (.inl (dT 4, cap, .inr (.inr (.inr (.inr f)))))) (we : S0.heap.size ≤ ea) (kq : h0 q0 = some (.inr (11, fs))) : vMv l S0 D vcl GT y_ArrayList_add_2 prog_27_method_24_code 4 none 0 0 0 0 [.ref a, .ref q0, .ref ea, .int (nI n)] h0 (fun h' => lAdd dT S0.heap.size h0 h' a ea n f q0) := by
  unfold vMv
  refine vM_ofQ hE.1 (by decide) (Nat.le_of_ble_eq_true rfl) (fun p e s m args below meth c ls Q hQ C hr hlk hnm X hl => ?_)
  have C : vC p s m _ c _ _ "java/util/ArrayList" GT D vcl (vty dT) := C
  have hx := C.1.1
  have hb := C.1.2.1
  obtain ⟨H, eH⟩ : ∃ z, z = s.heap := ⟨_, rfl⟩
  obtain ⟨locs, elocs⟩ : ∃ z : List Loc, z = [] := ⟨_, rfl⟩
  rw [← eH, ← elocs] at X
  rw [← eH, ← elocs]
  clear eH elocs
  have hl : lv_has ls 4 [(0, .ref a), (1, .ref q0), (2, .ref ea), (3, .int (nI n))] := hl
  refine lv_iload_n hx hb d_AL_add30_11_0 rfl (lv_at hl 3 rfl) ?_
  refine lv_aload_n hx hb d_AL_add30_11_1 rfl (lv_at hl 2 rfl) ?_
  refine mv_alen C X ke 4 rfl d_AL_add30_11_2 ?_
  refine lv_icmp_ne (tgt := 11) hx hb d_AL_add30_11_3 (by decide) (fun c1 => ?_) (fun z => absurd (nI_eqI (a := n) (b := cap) (by omega) (by omega) z) (by omega))
  refine lv_aload_n hx hb d_AL_add30_11_11 rfl (lv_at hl 2 rfl) ?_
  refine lv_iload_n hx hb d_AL_add30_11_12 rfl (lv_at hl 3 rfl) ?_
  refine lv_aload_n hx hb d_AL_add30_11_13 rfl (lv_at hl 1 rfl) ?_
  refine mv_aast C X ke we 4 rfl (mv_anyO C X hJ kq rfl (by decide)) n rfl (by omega) (by omega) d_AL_add30_11_14 (fun H locs X => ?_)
  have X : vO S0 D vcl (vup h0 ea (.inl (dT 4, cap, .inr (.inr (.inr (.inr (va_up f n (some q0)))))))) s H locs := X
  refine lv_aload_n hx hb d_AL_add30_11_15 rfl (lv_at hl 0 rfl) ?_
  refine lv_iload_n hx hb d_AL_add30_11_16 rfl (lv_at hl 3 rfl) ?_
  refine lv_iconst (v := 1) hx hb d_AL_add30_11_17 (by decide) ?_
  refine lv_iadd hx hb d_AL_add30_11_18 ?_
  rw [nI_1]
  refine mv_put C X ((vup_n _ _ (vne_oa ka ke)).trans ka) wa 1 p_23_48_2 rfl rfl (Nat.le_of_ble_eq_true rfl) d_AL_add30_11_19 (fun H locs X => ?_)
  have X : vO S0 D vcl (vup (vup h0 ea (.inl (dT 4, cap, .inr (.inr (.inr (.inr (va_up f n (some q0)))))))) a (.inr (2, [.ref ea, .int (nI (n + 1)), .int md]))) s H locs := X
  exact mq_vret hQ C X hr hlk (⟨ea, _, cap, _, (vup_s _ _ _), ((vup_n _ _ (Ne.symm (vne_oa ka ke))).trans (vup_s _ _ _)), we, by omega, fun k hk => va_up_ne _ _ (by omega), va_up_self _ _ _, (vfx.rf.up (Or.inr ⟨rfl, we⟩)).up (Or.inl rfl), Or.inl ⟨rfl, we⟩, fun c0 y w => Or.inl (arr_cap ke w)⟩) (by omega) (by omega) d_AL_add30_11_22
theorem d_AL_add0_11_0 : decode prog_27_method_25_code 0 = .ok (.aload_n 0, 1) := by decide +kernel
theorem d_AL_add0_11_1 : decode prog_27_method_25_code 1 = .ok (.dup, 1) := by decide +kernel
theorem d_AL_add0_11_2 : decode prog_27_method_25_code 2 = .ok (.getfield 63, 3) := by decide +kernel
theorem d_AL_add0_11_5 : decode prog_27_method_25_code 5 = .ok (.iconst 1, 1) := by decide +kernel
theorem d_AL_add0_11_6 : decode prog_27_method_25_code 6 = .ok (.iadd, 1) := by decide +kernel
theorem d_AL_add0_11_7 : decode prog_27_method_25_code 7 = .ok (.putfield 63, 3) := by decide +kernel
theorem d_AL_add0_11_10 : decode prog_27_method_25_code 10 = .ok (.aload_n 0, 1) := by decide +kernel
theorem d_AL_add0_11_11 : decode prog_27_method_25_code 11 = .ok (.aload_n 1, 1) := by decide +kernel
theorem d_AL_add0_11_12 : decode prog_27_method_25_code 12 = .ok (.aload_n 0, 1) := by decide +kernel
theorem d_AL_add0_11_13 : decode prog_27_method_25_code 13 = .ok (.getfield 9, 3) := by decide +kernel
theorem d_AL_add0_11_16 : decode prog_27_method_25_code 16 = .ok (.aload_n 0, 1) := by decide +kernel
theorem d_AL_add0_11_17 : decode prog_27_method_25_code 17 = .ok (.getfield 48, 3) := by decide +kernel
theorem d_AL_add0_11_20 : decode prog_27_method_25_code 20 = .ok (.invokevirtual 131, 3) := by decide +kernel
theorem d_AL_add0_11_23 : decode prog_27_method_25_code 23 = .ok (.iconst 1, 1) := by decide +kernel
theorem d_AL_add0_11_24 : decode prog_27_method_25_code 24 = .ok (.ireturn, 1) := by decide +kernel
set_option maxRecDepth 100000 in
set_option maxHeartbeats 4000000 in
theorem cm_AL_add0_11 {l : Launch} {S0 : State} {b : Nat} {D : va_G} {dT : Nat → ClassId} (hE : vEnv S0 b D dT) {dE mO : Nat} (hJ : vJ S0 dE mO) {h0 : vH} {a ea n cap : Nat} {md : Int32} {f : Nat → Option Nat} (hn : n < cap) (hc : cap < 2 ^ 20) {q0 : Nat} {fs : List Value} (ka : h0 a = some (.inr (2, [.ref ea, .int (nI n), .int md]))) (wa : S0.heap.size ≤ a) (ke : h0 ea = some (.inl (dT 4, cap, .inr (.inr (.inr (.inr f)))))) (we : S0.heap.size ≤ ea) (kq : h0 q0 = some (.inr (11, fs))) : vMi l S0 D vcl GT y_ArrayList_add prog_27_method_25_code 2 (some .boolean) 1 23 0 0 [.ref a, .ref q0] h0 (fun r h' => r = 1 ∧ lAdd dT S0.heap.size h0 h' a ea n f q0) := by
  unfold vMi
  refine vM_ofQ hE.1 (by decide) (Nat.le_of_ble_eq_true rfl) (fun p e s m args below meth c ls Q hQ C hr hlk hnm X hl => ?_)
  have C : vC p s m _ c _ _ "java/util/ArrayList" GT D vcl (vty dT) := C
  have hx := C.1.1
  have hb := C.1.2.1
  obtain ⟨H, eH⟩ : ∃ z, z = s.heap := ⟨_, rfl⟩
  obtain ⟨locs, elocs⟩ : ∃ z : List Loc, z = [] := ⟨_, rfl⟩
  rw [← eH, ← elocs] at X
  rw [← eH, ← elocs]
  clear eH elocs
  have hl : lv_has ls 2 [(0, .ref a), (1, .ref q0)] := hl
  refine lv_aload_n hx hb d_AL_add0_11_0 rfl (lv_at hl 0 rfl) ?_
  refine lv_dup hx hb d_AL_add0_11_1 rfl ?_
  refine mv_get C X ka 2 f_23_63_2 (v := .int md) rfl d_AL_add0_11_2 ?_
  refine lv_iconst (v := 1) hx hb d_AL_add0_11_5 (by decide) ?_
  refine lv_iadd hx hb d_AL_add0_11_6 ?_
  refine mv_put C X ka wa 2 p_23_63_2 rfl rfl (Nat.le_of_ble_eq_true rfl) d_AL_add0_11_7 (fun H locs X => ?_)
  have X : vO S0 D vcl (vup h0 a (.inr (2, [.ref ea, .int (nI n), .int (md + 1)]))) s H locs := X
  refine lv_aload_n hx hb d_AL_add0_11_10 rfl (lv_at hl 0 rfl) ?_
  refine lv_aload_n hx hb d_AL_add0_11_11 rfl (lv_at hl 1 rfl) ?_
  refine lv_aload_n hx hb d_AL_add0_11_12 rfl (lv_at hl 0 rfl) ?_
  refine mv_get C X (vup_s _ _ _) 0 f_23_9_2 (v := .ref ea) rfl d_AL_add0_11_13 ?_
  refine lv_aload_n hx hb d_AL_add0_11_16 rfl (lv_at hl 0 rfl) ?_
  refine mv_get C X (vup_s _ _ _) 1 f_23_48_2 (v := .int (nI n)) rfl d_AL_add0_11_17 ?_
  refine mv_bv X (mv_rV (rest := []) (As := [.ref q0, .ref ea, .int (nI n)]) gt_good C X k_23_131 (cm_AL_add30_11 hE hJ hn hc (vup_s _ _ _) wa ((vup_n _ _ (Ne.symm (vne_oa ka ke))).trans ke) we ((vup_n _ _ (Ne.symm (vne_c ka kq (by decide)))).trans kq)) (vup_s _ _ _) rfl rfl ⟨Nat.le_of_ble_eq_true rfl, Nat.le_of_ble_eq_true rfl⟩ rfl hl.1 rfl (Nat.le_of_ble_eq_true rfl) d_AL_add0_11_20 ⟨Nat.zero_le _, Nat.zero_le _⟩) (fun hN H locs hp X => ?_)
  have hq := lAdd.up ka hp
  refine lv_iconst (v := 1) hx hb d_AL_add0_11_23 (by decide) ?_
  exact mq_iret hQ C X hr rfl hlk (⟨rfl, hq⟩) (by omega) (by omega) d_AL_add0_11_24
theorem d_AL_add3E_11_0 : decode prog_27_method_24_code 0 = .ok (.iload_n 3, 1) := by decide +kernel
theorem d_AL_add3E_11_1 : decode prog_27_method_24_code 1 = .ok (.aload_n 2, 1) := by decide +kernel
theorem d_AL_add3E_11_2 : decode prog_27_method_24_code 2 = .ok (.arraylength, 1) := by decide +kernel
theorem d_AL_add3E_11_3 : decode prog_27_method_24_code 3 = .ok (.if_icmp .ne 8, 3) := by decide +kernel
theorem d_AL_add3E_11_6 : decode prog_27_method_24_code 6 = .ok (.aload_n 0, 1) := by decide +kernel
theorem d_AL_add3E_11_7 : decode prog_27_method_24_code 7 = .ok (.invokevirtual 129, 3) := by decide +kernel
theorem d_AL_add3E_11_10 : decode prog_27_method_24_code 10 = .ok (.astore_n 2, 1) := by decide +kernel
theorem d_AL_add3E_11_11 : decode prog_27_method_24_code 11 = .ok (.aload_n 2, 1) := by decide +kernel
theorem d_AL_add3E_11_12 : decode prog_27_method_24_code 12 = .ok (.iload_n 3, 1) := by decide +kernel
theorem d_AL_add3E_11_13 : decode prog_27_method_24_code 13 = .ok (.aload_n 1, 1) := by decide +kernel
theorem d_AL_add3E_11_14 : decode prog_27_method_24_code 14 = .ok (.aastore, 1) := by decide +kernel
theorem d_AL_add3E_11_15 : decode prog_27_method_24_code 15 = .ok (.aload_n 0, 1) := by decide +kernel
theorem d_AL_add3E_11_16 : decode prog_27_method_24_code 16 = .ok (.iload_n 3, 1) := by decide +kernel
theorem d_AL_add3E_11_17 : decode prog_27_method_24_code 17 = .ok (.iconst 1, 1) := by decide +kernel
theorem d_AL_add3E_11_18 : decode prog_27_method_24_code 18 = .ok (.iadd, 1) := by decide +kernel
theorem d_AL_add3E_11_19 : decode prog_27_method_24_code 19 = .ok (.putfield 48, 3) := by decide +kernel
theorem d_AL_add3E_11_22 : decode prog_27_method_24_code 22 = .ok (.return_, 1) := by decide +kernel
set_option maxRecDepth 100000 in
set_option maxHeartbeats 4000000 in
theorem cm_AL_add3E_11 {l : Launch} {S0 : State} {b : Nat} {D : va_G} {dT : Nat → ClassId} (hE : vEnv S0 b D dT) {dE mO : Nat} (hJ : vJ S0 dE mO) {h0 : vH} {a : Nat} {md : Int32} {fE : Nat → Option Nat} {q0 : Nat} {fs : List Value} (ka : h0 a = some (.inr (2, [.ref dE, .int (nI 0), .int md]))) (wa : S0.heap.size ≤ a) (kE : h0 dE = some (.inl (dT 4, 0, .inr (.inr (.inr (.inr fE)))))) (kq : h0 q0 = some (.inr (11, fs))) : vMv l S0 D vcl GT y_ArrayList_add_2 prog_27_method_24_code 4 none 3 57 1 10 [.ref a, .ref q0, .ref dE, .int (nI 0)] h0 (fun h' => lAdd dT S0.heap.size h0 h' a dE 0 fE q0) := by
  unfold vMv
  refine vM_ofQ hE.1 (by decide) (Nat.le_of_ble_eq_true rfl) (fun p e s m args below meth c ls Q hQ C hr hlk hnm X hl => ?_)
  have C : vC p s m _ c _ _ "java/util/ArrayList" GT D vcl (vty dT) := C
  have hx := C.1.1
  have hb := C.1.2.1
  obtain ⟨H, eH⟩ : ∃ z, z = s.heap := ⟨_, rfl⟩
  obtain ⟨locs, elocs⟩ : ∃ z : List Loc, z = [] := ⟨_, rfl⟩
  rw [← eH, ← elocs] at X
  rw [← eH, ← elocs]
  clear eH elocs
  have hl : lv_has ls 4 [(0, .ref a), (1, .ref q0), (2, .ref dE), (3, .int (nI 0))] := hl
  refine lv_iload_n hx hb d_AL_add3E_11_0 rfl (lv_at hl 3 rfl) ?_
  refine lv_aload_n hx hb d_AL_add3E_11_1 rfl (lv_at hl 2 rfl) ?_
  refine mv_alen C X kE 4 rfl d_AL_add3E_11_2 ?_
  refine lv_icmp_ne (tgt := 11) hx hb d_AL_add3E_11_3 (by decide) (fun z => absurd z (fun q => q rfl)) (fun c1 => ?_)
  refine lv_aload_n hx hb d_AL_add3E_11_6 rfl (lv_at hl 0 rfl) ?_
  refine mv_bq X (mv_rV (rest := []) (As := []) gt_good C X k_23_129 (cm_AL_growE0 hE hJ ka wa kE) ka rfl rfl ⟨Nat.le_of_ble_eq_true rfl, Nat.le_of_ble_eq_true rfl⟩ rfl hl.1 rfl (Nat.le_of_ble_eq_true rfl) d_AL_add3E_11_7 ⟨by show 0 + 1 ≤ 1; omega, by show 0 + 10 ≤ 10; omega⟩) (fun r2 hN H locs hp X => ?_)
  obtain ⟨q, er, zq, wq, eh⟩ := hp
  subst er
  replace eh := eh.symm
  subst eh
  change W _ _ _ _ _ _ _ _ _ _ _ _ _ _ _ (F0 _ _ _ (.ref q :: _))
  have n_a_q : a ≠ q := vnf ka zq
  have n_dE_q : dE ≠ q := vnf kE zq
  have n_q0_q : q0 ≠ q := vnf kq zq
  refine lv_astore_n (lv' := [(2, .ref q), (0, .ref a), (1, .ref q0), (3, .int (nI 0))]) hx hb d_AL_add3E_11_10 rfl hl (by decide) rfl (fun ls hl => ?_)
  refine lv_aload_n hx hb d_AL_add3E_11_11 rfl (lv_at hl 0 rfl) ?_
  refine lv_iload_n hx hb d_AL_add3E_11_12 rfl (lv_at hl 3 rfl) ?_
  refine lv_aload_n hx hb d_AL_add3E_11_13 rfl (lv_at hl 2 rfl) ?_
  refine mv_aast C X ((vup_n _ _ (Ne.symm n_a_q)).trans (vup_s _ _ _)) wq 4 rfl (mv_anyO C X hJ ((vup_n _ _ (Ne.symm (vne_c ka kq (by decide)))).trans ((vup_n _ _ n_q0_q).trans kq)) rfl (by decide)) 0 rfl (by omega) (by omega) d_AL_add3E_11_14 (fun H locs X => ?_)
  have X : vO S0 D vcl (vup (vup (vup h0 q (.inl (dT 4, 10, .inr (.inr (.inr (.inr (fun _ => none))))))) a (.inr (2, [.ref q, .int (nI 0), .int md]))) q (.inl (dT 4, 10, .inr (.inr (.inr (.inr (va_up (fun _ => none) 0 (some q0)))))))) s H locs := X
  refine lv_aload_n hx hb d_AL_add3E_11_15 rfl (lv_at hl 1 rfl) ?_
  refine lv_iload_n hx hb d_AL_add3E_11_16 rfl (lv_at hl 3 rfl) ?_
  refine lv_iconst (v := 1) hx hb d_AL_add3E_11_17 (by decide) ?_
  refine lv_iadd hx hb d_AL_add3E_11_18 ?_
  rw [nI_1]
  refine mv_put C X ((vup_n _ _ n_a_q).trans (vup_s _ _ _)) wa 1 p_23_48_2 rfl rfl (Nat.le_of_ble_eq_true rfl) d_AL_add3E_11_19 (fun H locs X => ?_)
  have X : vO S0 D vcl (vup (vup (vup (vup h0 q (.inl (dT 4, 10, .inr (.inr (.inr (.inr (fun _ => none))))))) a (.inr (2, [.ref q, .int (nI 0), .int md]))) q (.inl (dT 4, 10, .inr (.inr (.inr (.inr (va_up (fun _ => none) 0 (some q0)))))))) a (.inr (2, [.ref q, .int (nI (0 + 1)), .int md]))) s H locs := X
  exact mq_vret hQ C X hr hlk (⟨q, _, 10, _, (vup_s _ _ _), ((vup_n _ _ (Ne.symm n_a_q)).trans (vup_s _ _ _)), wq, by omega, fun k hk => by omega, va_up_self _ _ _, (((vfx.rf.new zq).up (Or.inl rfl)).new zq).up (Or.inl rfl), Or.inr zq, fun c0 y w => Or.inr (by omega)⟩) (by omega) (by omega) d_AL_add3E_11_22
theorem d_AL_addE_11_0 : decode prog_27_method_25_code 0 = .ok (.aload_n 0, 1) := by decide +kernel
theorem d_AL_addE_11_1 : decode prog_27_method_25_code 1 = .ok (.dup, 1) := by decide +kernel
theorem d_AL_addE_11_2 : decode prog_27_method_25_code 2 = .ok (.getfield 63, 3) := by decide +kernel
theorem d_AL_addE_11_5 : decode prog_27_method_25_code 5 = .ok (.iconst 1, 1) := by decide +kernel
theorem d_AL_addE_11_6 : decode prog_27_method_25_code 6 = .ok (.iadd, 1) := by decide +kernel
theorem d_AL_addE_11_7 : decode prog_27_method_25_code 7 = .ok (.putfield 63, 3) := by decide +kernel
theorem d_AL_addE_11_10 : decode prog_27_method_25_code 10 = .ok (.aload_n 0, 1) := by decide +kernel
theorem d_AL_addE_11_11 : decode prog_27_method_25_code 11 = .ok (.aload_n 1, 1) := by decide +kernel
theorem d_AL_addE_11_12 : decode prog_27_method_25_code 12 = .ok (.aload_n 0, 1) := by decide +kernel
theorem d_AL_addE_11_13 : decode prog_27_method_25_code 13 = .ok (.getfield 9, 3) := by decide +kernel
theorem d_AL_addE_11_16 : decode prog_27_method_25_code 16 = .ok (.aload_n 0, 1) := by decide +kernel
theorem d_AL_addE_11_17 : decode prog_27_method_25_code 17 = .ok (.getfield 48, 3) := by decide +kernel
theorem d_AL_addE_11_20 : decode prog_27_method_25_code 20 = .ok (.invokevirtual 131, 3) := by decide +kernel
theorem d_AL_addE_11_23 : decode prog_27_method_25_code 23 = .ok (.iconst 1, 1) := by decide +kernel
theorem d_AL_addE_11_24 : decode prog_27_method_25_code 24 = .ok (.ireturn, 1) := by decide +kernel
set_option maxRecDepth 100000 in
set_option maxHeartbeats 4000000 in
theorem cm_AL_addE_11 {l : Launch} {S0 : State} {b : Nat} {D : va_G} {dT : Nat → ClassId} (hE : vEnv S0 b D dT) {dE mO : Nat} (hJ : vJ S0 dE mO) {h0 : vH} {a : Nat} {md : Int32} {fE : Nat → Option Nat} {q0 : Nat} {fs : List Value} (ka : h0 a = some (.inr (2, [.ref dE, .int (nI 0), .int md]))) (wa : S0.heap.size ≤ a) (kE : h0 dE = some (.inl (dT 4, 0, .inr (.inr (.inr (.inr fE)))))) (kq : h0 q0 = some (.inr (11, fs))) : vMi l S0 D vcl GT y_ArrayList_add prog_27_method_25_code 2 (some .boolean) 4 80 1 10 [.ref a, .ref q0] h0 (fun r h' => r = 1 ∧ lAdd dT S0.heap.size h0 h' a dE 0 fE q0) := by
  unfold vMi
  refine vM_ofQ hE.1 (by decide) (Nat.le_of_ble_eq_true rfl) (fun p e s m args below meth c ls Q hQ C hr hlk hnm X hl => ?_)
  have C : vC p s m _ c _ _ "java/util/ArrayList" GT D vcl (vty dT) := C
  have hx := C.1.1
  have hb := C.1.2.1
  obtain ⟨H, eH⟩ : ∃ z, z = s.heap := ⟨_, rfl⟩
  obtain ⟨locs, elocs⟩ : ∃ z : List Loc, z = [] := ⟨_, rfl⟩
  rw [← eH, ← elocs] at X
  rw [← eH, ← elocs]
  clear eH elocs
  have hl : lv_has ls 2 [(0, .ref a), (1, .ref q0)] := hl
  refine lv_aload_n hx hb d_AL_addE_11_0 rfl (lv_at hl 0 rfl) ?_
  refine lv_dup hx hb d_AL_addE_11_1 rfl ?_
  refine mv_get C X ka 2 f_23_63_2 (v := .int md) rfl d_AL_addE_11_2 ?_
  refine lv_iconst (v := 1) hx hb d_AL_addE_11_5 (by decide) ?_
  refine lv_iadd hx hb d_AL_addE_11_6 ?_
  refine mv_put C X ka wa 2 p_23_63_2 rfl rfl (Nat.le_of_ble_eq_true rfl) d_AL_addE_11_7 (fun H locs X => ?_)
  have X : vO S0 D vcl (vup h0 a (.inr (2, [.ref dE, .int (nI 0), .int (md + 1)]))) s H locs := X
  refine lv_aload_n hx hb d_AL_addE_11_10 rfl (lv_at hl 0 rfl) ?_
  refine lv_aload_n hx hb d_AL_addE_11_11 rfl (lv_at hl 1 rfl) ?_
  refine lv_aload_n hx hb d_AL_addE_11_12 rfl (lv_at hl 0 rfl) ?_
  refine mv_get C X (vup_s _ _ _) 0 f_23_9_2 (v := .ref dE) rfl d_AL_addE_11_13 ?_
  refine lv_aload_n hx hb d_AL_addE_11_16 rfl (lv_at hl 0 rfl) ?_
  refine mv_get C X (vup_s _ _ _) 1 f_23_48_2 (v := .int (nI 0)) rfl d_AL_addE_11_17 ?_
  refine mv_bv X (mv_rV (rest := []) (As := [.ref q0, .ref dE, .int (nI 0)]) gt_good C X k_23_131 (cm_AL_add3E_11 hE hJ  (vup_s _ _ _) wa ((vup_n _ _ (Ne.symm (vne_oa ka kE))).trans kE) ((vup_n _ _ (Ne.symm (vne_c ka kq (by decide)))).trans kq)) (vup_s _ _ _) rfl rfl ⟨Nat.le_of_ble_eq_true rfl, Nat.le_of_ble_eq_true rfl⟩ rfl hl.1 rfl (Nat.le_of_ble_eq_true rfl) d_AL_addE_11_20 ⟨by show 0 + 1 ≤ 1; omega, by show 0 + 10 ≤ 10; omega⟩) (fun hN H locs hp X => ?_)
  have hq := lAdd.up ka hp
  refine lv_iconst (v := 1) hx hb d_AL_addE_11_23 (by decide) ?_
  exact mq_iret hQ C X hr rfl hlk (⟨rfl, hq⟩) (by omega) (by omega) d_AL_addE_11_24
theorem d_AL_add3N_11_0 : decode prog_27_method_24_code 0 = .ok (.iload_n 3, 1) := by decide +kernel
theorem d_AL_add3N_11_1 : decode prog_27_method_24_code 1 = .ok (.aload_n 2, 1) := by decide +kernel
theorem d_AL_add3N_11_2 : decode prog_27_method_24_code 2 = .ok (.arraylength, 1) := by decide +kernel
theorem d_AL_add3N_11_3 : decode prog_27_method_24_code 3 = .ok (.if_icmp .ne 8, 3) := by decide +kernel
theorem d_AL_add3N_11_6 : decode prog_27_method_24_code 6 = .ok (.aload_n 0, 1) := by decide +kernel
theorem d_AL_add3N_11_7 : decode prog_27_method_24_code 7 = .ok (.invokevirtual 129, 3) := by decide +kernel
theorem d_AL_add3N_11_10 : decode prog_27_method_24_code 10 = .ok (.astore_n 2, 1) := by decide +kernel
theorem d_AL_add3N_11_11 : decode prog_27_method_24_code 11 = .ok (.aload_n 2, 1) := by decide +kernel
theorem d_AL_add3N_11_12 : decode prog_27_method_24_code 12 = .ok (.iload_n 3, 1) := by decide +kernel
theorem d_AL_add3N_11_13 : decode prog_27_method_24_code 13 = .ok (.aload_n 1, 1) := by decide +kernel
theorem d_AL_add3N_11_14 : decode prog_27_method_24_code 14 = .ok (.aastore, 1) := by decide +kernel
theorem d_AL_add3N_11_15 : decode prog_27_method_24_code 15 = .ok (.aload_n 0, 1) := by decide +kernel
theorem d_AL_add3N_11_16 : decode prog_27_method_24_code 16 = .ok (.iload_n 3, 1) := by decide +kernel
theorem d_AL_add3N_11_17 : decode prog_27_method_24_code 17 = .ok (.iconst 1, 1) := by decide +kernel
theorem d_AL_add3N_11_18 : decode prog_27_method_24_code 18 = .ok (.iadd, 1) := by decide +kernel
theorem d_AL_add3N_11_19 : decode prog_27_method_24_code 19 = .ok (.putfield 48, 3) := by decide +kernel
theorem d_AL_add3N_11_22 : decode prog_27_method_24_code 22 = .ok (.return_, 1) := by decide +kernel
set_option maxRecDepth 100000 in
set_option maxHeartbeats 4000000 in
theorem cm_AL_add3N_11 {l : Launch} {S0 : State} {b : Nat} {D : va_G} {dT : Nat → ClassId} (hE : vEnv S0 b D dT) {dE mO : Nat} (hJ : vJ S0 dE mO) {h0 : vH} {a ea n : Nat} {md : Int32} {f : Nat → Option Nat} (hn1 : 0 < n) (hn : n < 2 ^ 20) (hel : elO h0 f n) {q0 : Nat} {fs : List Value} (ka : h0 a = some (.inr (2, [.ref ea, .int (nI n), .int md]))) (wa : S0.heap.size ≤ a) (ke : h0 ea = some (.inl (dT 4, n, .inr (.inr (.inr (.inr f)))))) (we : S0.heap.size ≤ ea) (kq : h0 q0 = some (.inr (11, fs))) : vMv l S0 D vcl GT y_ArrayList_add_2 prog_27_method_24_code 4 none 5 117 1 (n + max 1 (n / 2)) [.ref a, .ref q0, .ref ea, .int (nI n)] h0 (fun h' => lAdd dT S0.heap.size h0 h' a ea n f q0) := by
  unfold vMv
  refine vM_ofQ hE.1 (by decide) (Nat.le_of_ble_eq_true rfl) (fun p e s m args below meth c ls Q hQ C hr hlk hnm X hl => ?_)
  have C : vC p s m _ c _ _ "java/util/ArrayList" GT D vcl (vty dT) := C
  have hx := C.1.1
  have hb := C.1.2.1
  obtain ⟨H, eH⟩ : ∃ z, z = s.heap := ⟨_, rfl⟩
  obtain ⟨locs, elocs⟩ : ∃ z : List Loc, z = [] := ⟨_, rfl⟩
  rw [← eH, ← elocs] at X
  rw [← eH, ← elocs]
  clear eH elocs
  have hl : lv_has ls 4 [(0, .ref a), (1, .ref q0), (2, .ref ea), (3, .int (nI n))] := hl
  refine lv_iload_n hx hb d_AL_add3N_11_0 rfl (lv_at hl 3 rfl) ?_
  refine lv_aload_n hx hb d_AL_add3N_11_1 rfl (lv_at hl 2 rfl) ?_
  refine mv_alen C X ke 4 rfl d_AL_add3N_11_2 ?_
  refine lv_icmp_ne (tgt := 11) hx hb d_AL_add3N_11_3 (by decide) (fun z => absurd z (fun q => q rfl)) (fun c1 => ?_)
  refine lv_aload_n hx hb d_AL_add3N_11_6 rfl (lv_at hl 0 rfl) ?_
  refine mv_bq X (mv_rV (rest := []) (As := []) gt_good C X k_23_129 (cm_AL_growN0 hE hJ hn1 hn hel ka wa ke we) ka rfl rfl ⟨Nat.le_of_ble_eq_true rfl, Nat.le_of_ble_eq_true rfl⟩ rfl hl.1 rfl (Nat.le_of_ble_eq_true rfl) d_AL_add3N_11_7 ⟨by show 0 + 1 ≤ 1; omega, by show 0 + (n + max 1 (n / 2)) ≤ (n + max 1 (n / 2)); omega⟩) (fun r2 hN H locs hp X => ?_)
  obtain ⟨q, g, er, zq, wq, eh, eg⟩ := hp
  subst er
  replace eh := eh.symm
  subst eh
  change W _ _ _ _ _ _ _ _ _ _ _ _ _ _ _ (F0 _ _ _ (.ref q :: _))
  have n_a_q : a ≠ q := vnf ka zq
  have n_ea_q : ea ≠ q := vnf ke zq
  have n_q0_q : q0 ≠ q := vnf kq zq
  refine lv_astore_n (lv' := [(2, .ref q), (0, .ref a), (1, .ref q0), (3, .int (nI n))]) hx hb d_AL_add3N_11_10 rfl hl (by decide) rfl (fun ls hl => ?_)
  refine lv_aload_n hx hb d_AL_add3N_11_11 rfl (lv_at hl 0 rfl) ?_
  refine lv_iload_n hx hb d_AL_add3N_11_12 rfl (lv_at hl 3 rfl) ?_
  refine lv_aload_n hx hb d_AL_add3N_11_13 rfl (lv_at hl 2 rfl) ?_
  refine mv_aast C X ((vup_n _ _ (Ne.symm n_a_q)).trans (vup_s _ _ _)) wq 4 rfl (mv_anyO C X hJ ((vup_n _ _ (Ne.symm (vne_c ka kq (by decide)))).trans ((vup_n _ _ n_q0_q).trans kq)) rfl (by decide)) n rfl (by omega) (by omega) d_AL_add3N_11_14 (fun H locs X => ?_)
  have X : vO S0 D vcl (vup (vup (vup h0 q (.inl (dT 4, (n + max 1 (n / 2)), .inr (.inr (.inr (.inr g)))))) a (.inr (2, [.ref q, .int (nI n), .int md]))) q (.inl (dT 4, (n + max 1 (n / 2)), .inr (.inr (.inr (.inr (va_up g n (some q0)))))))) s H locs := X
  refine lv_aload_n hx hb d_AL_add3N_11_15 rfl (lv_at hl 1 rfl) ?_
  refine lv_iload_n hx hb d_AL_add3N_11_16 rfl (lv_at hl 3 rfl) ?_
  refine lv_iconst (v := 1) hx hb d_AL_add3N_11_17 (by decide) ?_
  refine lv_iadd hx hb d_AL_add3N_11_18 ?_
  rw [nI_1]
  refine mv_put C X ((vup_n _ _ n_a_q).trans (vup_s _ _ _)) wa 1 p_23_48_2 rfl rfl (Nat.le_of_ble_eq_true rfl) d_AL_add3N_11_19 (fun H locs X => ?_)
  have X : vO S0 D vcl (vup (vup (vup (vup h0 q (.inl (dT 4, (n + max 1 (n / 2)), .inr (.inr (.inr (.inr g)))))) a (.inr (2, [.ref q, .int (nI n), .int md]))) q (.inl (dT 4, (n + max 1 (n / 2)), .inr (.inr (.inr (.inr (va_up g n (some q0)))))))) a (.inr (2, [.ref q, .int (nI (n + 1)), .int md]))) s H locs := X
  exact mq_vret hQ C X hr hlk (⟨q, _, (n + max 1 (n / 2)), _, (vup_s _ _ _), ((vup_n _ _ (Ne.symm n_a_q)).trans (vup_s _ _ _)), wq, by omega, fun k hk => by rw [va_up_ne _ _ (by omega)]; exact eg k hk, va_up_self _ _ _, (((vfx.rf.new zq).up (Or.inl rfl)).new zq).up (Or.inl rfl), Or.inr zq, fun c0 y w => Or.inr (by omega)⟩) (by omega) (by omega) d_AL_add3N_11_22
theorem d_AL_addN_11_0 : decode prog_27_method_25_code 0 = .ok (.aload_n 0, 1) := by decide +kernel
theorem d_AL_addN_11_1 : decode prog_27_method_25_code 1 = .ok (.dup, 1) := by decide +kernel
theorem d_AL_addN_11_2 : decode prog_27_method_25_code 2 = .ok (.getfield 63, 3) := by decide +kernel
theorem d_AL_addN_11_5 : decode prog_27_method_25_code 5 = .ok (.iconst 1, 1) := by decide +kernel
theorem d_AL_addN_11_6 : decode prog_27_method_25_code 6 = .ok (.iadd, 1) := by decide +kernel
theorem d_AL_addN_11_7 : decode prog_27_method_25_code 7 = .ok (.putfield 63, 3) := by decide +kernel
theorem d_AL_addN_11_10 : decode prog_27_method_25_code 10 = .ok (.aload_n 0, 1) := by decide +kernel
theorem d_AL_addN_11_11 : decode prog_27_method_25_code 11 = .ok (.aload_n 1, 1) := by decide +kernel
theorem d_AL_addN_11_12 : decode prog_27_method_25_code 12 = .ok (.aload_n 0, 1) := by decide +kernel
theorem d_AL_addN_11_13 : decode prog_27_method_25_code 13 = .ok (.getfield 9, 3) := by decide +kernel
theorem d_AL_addN_11_16 : decode prog_27_method_25_code 16 = .ok (.aload_n 0, 1) := by decide +kernel
theorem d_AL_addN_11_17 : decode prog_27_method_25_code 17 = .ok (.getfield 48, 3) := by decide +kernel
theorem d_AL_addN_11_20 : decode prog_27_method_25_code 20 = .ok (.invokevirtual 131, 3) := by decide +kernel
theorem d_AL_addN_11_23 : decode prog_27_method_25_code 23 = .ok (.iconst 1, 1) := by decide +kernel
theorem d_AL_addN_11_24 : decode prog_27_method_25_code 24 = .ok (.ireturn, 1) := by decide +kernel
set_option maxRecDepth 100000 in
set_option maxHeartbeats 4000000 in
theorem cm_AL_addN_11 {l : Launch} {S0 : State} {b : Nat} {D : va_G} {dT : Nat → ClassId} (hE : vEnv S0 b D dT) {dE mO : Nat} (hJ : vJ S0 dE mO) {h0 : vH} {a ea n : Nat} {md : Int32} {f : Nat → Option Nat} (hn1 : 0 < n) (hn : n < 2 ^ 20) (hel : elO h0 f n) {q0 : Nat} {fs : List Value} (ka : h0 a = some (.inr (2, [.ref ea, .int (nI n), .int md]))) (wa : S0.heap.size ≤ a) (ke : h0 ea = some (.inl (dT 4, n, .inr (.inr (.inr (.inr f)))))) (we : S0.heap.size ≤ ea) (kq : h0 q0 = some (.inr (11, fs))) : vMi l S0 D vcl GT y_ArrayList_add prog_27_method_25_code 2 (some .boolean) 6 140 1 (n + max 1 (n / 2)) [.ref a, .ref q0] h0 (fun r h' => r = 1 ∧ lAdd dT S0.heap.size h0 h' a ea n f q0) := by
  unfold vMi
  refine vM_ofQ hE.1 (by decide) (Nat.le_of_ble_eq_true rfl) (fun p e s m args below meth c ls Q hQ C hr hlk hnm X hl => ?_)
  have C : vC p s m _ c _ _ "java/util/ArrayList" GT D vcl (vty dT) := C
  have hx := C.1.1
  have hb := C.1.2.1
  obtain ⟨H, eH⟩ : ∃ z, z = s.heap := ⟨_, rfl⟩
  obtain ⟨locs, elocs⟩ : ∃ z : List Loc, z = [] := ⟨_, rfl⟩
  rw [← eH, ← elocs] at X
  rw [← eH, ← elocs]
  clear eH elocs
  have hl : lv_has ls 2 [(0, .ref a), (1, .ref q0)] := hl
  refine lv_aload_n hx hb d_AL_addN_11_0 rfl (lv_at hl 0 rfl) ?_
  refine lv_dup hx hb d_AL_addN_11_1 rfl ?_
  refine mv_get C X ka 2 f_23_63_2 (v := .int md) rfl d_AL_addN_11_2 ?_
  refine lv_iconst (v := 1) hx hb d_AL_addN_11_5 (by decide) ?_
  refine lv_iadd hx hb d_AL_addN_11_6 ?_
  refine mv_put C X ka wa 2 p_23_63_2 rfl rfl (Nat.le_of_ble_eq_true rfl) d_AL_addN_11_7 (fun H locs X => ?_)
  have X : vO S0 D vcl (vup h0 a (.inr (2, [.ref ea, .int (nI n), .int (md + 1)]))) s H locs := X
  refine lv_aload_n hx hb d_AL_addN_11_10 rfl (lv_at hl 0 rfl) ?_
  refine lv_aload_n hx hb d_AL_addN_11_11 rfl (lv_at hl 1 rfl) ?_
  refine lv_aload_n hx hb d_AL_addN_11_12 rfl (lv_at hl 0 rfl) ?_
  refine mv_get C X (vup_s _ _ _) 0 f_23_9_2 (v := .ref ea) rfl d_AL_addN_11_13 ?_
  refine lv_aload_n hx hb d_AL_addN_11_16 rfl (lv_at hl 0 rfl) ?_
  refine mv_get C X (vup_s _ _ _) 1 f_23_48_2 (v := .int (nI n)) rfl d_AL_addN_11_17 ?_
  refine mv_bv X (mv_rV (rest := []) (As := [.ref q0, .ref ea, .int (nI n)]) gt_good C X k_23_131 (cm_AL_add3N_11 hE hJ hn1 hn (hel.up ka no_c2) (vup_s _ _ _) wa ((vup_n _ _ (Ne.symm (vne_oa ka ke))).trans ke) we ((vup_n _ _ (Ne.symm (vne_c ka kq (by decide)))).trans kq)) (vup_s _ _ _) rfl rfl ⟨Nat.le_of_ble_eq_true rfl, Nat.le_of_ble_eq_true rfl⟩ rfl hl.1 rfl (Nat.le_of_ble_eq_true rfl) d_AL_addN_11_20 ⟨by show 0 + 1 ≤ 1; omega, by show 0 + (n + max 1 (n / 2)) ≤ (n + max 1 (n / 2)); omega⟩) (fun hN H locs hp X => ?_)
  have hq := lAdd.up ka hp
  refine lv_iconst (v := 1) hx hb d_AL_addN_11_23 (by decide) ?_
  exact mq_iret hQ C X hr rfl hlk (⟨rfl, hq⟩) (by omega) (by omega) d_AL_addN_11_24
theorem d_AL_clear0_0 : decode prog_27_method_40_code 0 = .ok (.aload_n 0, 1) := by decide +kernel
theorem d_AL_clear0_1 : decode prog_27_method_40_code 1 = .ok (.dup, 1) := by decide +kernel
theorem d_AL_clear0_2 : decode prog_27_method_40_code 2 = .ok (.getfield 63, 3) := by decide +kernel
theorem d_AL_clear0_5 : decode prog_27_method_40_code 5 = .ok (.iconst 1, 1) := by decide +kernel
theorem d_AL_clear0_6 : decode prog_27_method_40_code 6 = .ok (.iadd, 1) := by decide +kernel
theorem d_AL_clear0_7 : decode prog_27_method_40_code 7 = .ok (.putfield 63, 3) := by decide +kernel
theorem d_AL_clear0_10 : decode prog_27_method_40_code 10 = .ok (.aload_n 0, 1) := by decide +kernel
theorem d_AL_clear0_11 : decode prog_27_method_40_code 11 = .ok (.getfield 9, 3) := by decide +kernel
theorem d_AL_clear0_14 : decode prog_27_method_40_code 14 = .ok (.astore_n 1, 1) := by decide +kernel
theorem d_AL_clear0_15 : decode prog_27_method_40_code 15 = .ok (.aload_n 0, 1) := by decide +kernel
theorem d_AL_clear0_16 : decode prog_27_method_40_code 16 = .ok (.getfield 48, 3) := by decide +kernel
theorem d_AL_clear0_19 : decode prog_27_method_40_code 19 = .ok (.istore_n 2, 1) := by decide +kernel
theorem d_AL_clear0_20 : decode prog_27_method_40_code 20 = .ok (.aload_n 0, 1) := by decide +kernel
theorem d_AL_clear0_21 : decode prog_27_method_40_code 21 = .ok (.iconst 0, 1) := by decide +kernel
theorem d_AL_clear0_22 : decode prog_27_method_40_code 22 = .ok (.dup_x1, 1) := by decide +kernel
theorem d_AL_clear0_23 : decode prog_27_method_40_code 23 = .ok (.putfield 48, 3) := by decide +kernel
theorem d_AL_clear0_26 : decode prog_27_method_40_code 26 = .ok (.istore_n 3, 1) := by decide +kernel
theorem d_AL_clear0_27 : decode prog_27_method_40_code 27 = .ok (.iload_n 3, 1) := by decide +kernel
theorem d_AL_clear0_28 : decode prog_27_method_40_code 28 = .ok (.iload_n 2, 1) := by decide +kernel
theorem d_AL_clear0_29 : decode prog_27_method_40_code 29 = .ok (.if_icmp .ge 13, 3) := by decide +kernel
theorem d_AL_clear0_42 : decode prog_27_method_40_code 42 = .ok (.return_, 1) := by decide +kernel
set_option maxRecDepth 100000 in
set_option maxHeartbeats 4000000 in
theorem cm_AL_clear0 {l : Launch} {S0 : State} {b : Nat} {D : va_G} {dT : Nat → ClassId} (hE : vEnv S0 b D dT) {h0 : vH} {a ea cap : Nat} {md : Int32} {f : Nat → Option Nat} (ka : h0 a = some (.inr (2, [.ref ea, .int (nI 0), .int md]))) (wa : S0.heap.size ≤ a) (ke : h0 ea = some (.inl (dT 4, cap, .inr (.inr (.inr (.inr f)))))) : vMv l S0 D vcl GT y_ArrayList_clear prog_27_method_40_code 4 none 0 0 0 0 [.ref a] h0 (fun h' => ∃ md' f2, h' a = some (.inr (2, [.ref ea, .int 0, .int md'])) ∧ h' ea = some (.inl (dT 4, cap, .inr (.inr (.inr (.inr f2))))) ∧ vfx (fun b => b = a ∨ (b = ea ∧ S0.heap.size ≤ b)) h0 h') := by
  unfold vMv
  refine vM_ofQ hE.1 (by decide) (Nat.le_of_ble_eq_true rfl) (fun p e s m args below meth c ls Q hQ C hr hlk hnm X hl => ?_)
  have C : vC p s m _ c _ _ "java/util/ArrayList" GT D vcl (vty dT) := C
  have hx := C.1.1
  have hb := C.1.2.1
  obtain ⟨H, eH⟩ : ∃ z, z = s.heap := ⟨_, rfl⟩
  obtain ⟨locs, elocs⟩ : ∃ z : List Loc, z = [] := ⟨_, rfl⟩
  rw [← eH, ← elocs] at X
  rw [← eH, ← elocs]
  clear eH elocs
  have hl : lv_has ls 4 [(0, .ref a)] := hl
  refine lv_aload_n hx hb d_AL_clear0_0 rfl (lv_at hl 0 rfl) ?_
  refine lv_dup hx hb d_AL_clear0_1 rfl ?_
  refine mv_get C X ka 2 f_23_63_2 (v := .int md) rfl d_AL_clear0_2 ?_
  refine lv_iconst (v := 1) hx hb d_AL_clear0_5 (by decide) ?_
  refine lv_iadd hx hb d_AL_clear0_6 ?_
  refine mv_put C X ka wa 2 p_23_63_2 rfl rfl (Nat.le_of_ble_eq_true rfl) d_AL_clear0_7 (fun H locs X => ?_)
  have X : vO S0 D vcl (vup h0 a (.inr (2, [.ref ea, .int (nI 0), .int (md + 1)]))) s H locs := X
  refine lv_aload_n hx hb d_AL_clear0_10 rfl (lv_at hl 0 rfl) ?_
  refine mv_get C X (vup_s _ _ _) 0 f_23_9_2 (v := .ref ea) rfl d_AL_clear0_11 ?_
  refine lv_astore_n (lv' := [(1, .ref ea), (0, .ref a)]) hx hb d_AL_clear0_14 rfl hl (by decide) rfl (fun ls hl => ?_)
  refine lv_aload_n hx hb d_AL_clear0_15 rfl (lv_at hl 1 rfl) ?_
  refine mv_get C X (vup_s _ _ _) 1 f_23_48_2 (v := .int (nI 0)) rfl d_AL_clear0_16 ?_
  refine lv_istore_n (lv' := [(2, .int (nI 0)), (1, .ref ea), (0, .ref a)]) hx hb d_AL_clear0_19 rfl hl (by decide) rfl (fun ls hl => ?_)
  refine lv_aload_n hx hb d_AL_clear0_20 rfl (lv_at hl 2 rfl) ?_
  refine lv_iconst (v := 0) hx hb d_AL_clear0_21 (by decide) ?_
  refine lv_dup_x1 hx hb d_AL_clear0_22 rfl rfl ?_
  refine mv_put C X (vup_s _ _ _) wa 1 p_23_48_2 rfl rfl (Nat.le_of_ble_eq_true rfl) d_AL_clear0_23 (fun H locs X => ?_)
  rw [vup_u] at X
  have X : vO S0 D vcl (vup h0 a (.inr (2, [.ref ea, .int 0, .int (md + 1)]))) s H locs := X
  refine lv_istore_n (lv' := [(3, .int 0), (2, .int (nI 0)), (1, .ref ea), (0, .ref a)]) hx hb d_AL_clear0_26 rfl hl (by decide) rfl (fun ls hl => ?_)
  refine lv_iload_n hx hb d_AL_clear0_27 rfl (lv_at hl 0 rfl) ?_
  refine lv_iload_n hx hb d_AL_clear0_28 rfl (lv_at hl 1 rfl) ?_
  refine lv_icmp_ge (tgt := 42) hx hb d_AL_clear0_29 (by decide) (fun c1 => ?_) (fun z => absurd (by decide) z)
  exact mq_vret hQ C X hr hlk (⟨_, _, (vup_s _ _ _), ((vup_n _ _ (Ne.symm (vne_oa ka ke))).trans ke), vfx.rf.up (Or.inl rfl)⟩) (by omega) (by omega) d_AL_clear0_42
theorem d_AL_clearN_0 : decode prog_27_method_40_code 0 = .ok (.aload_n 0, 1) := by decide +kernel
theorem d_AL_clearN_1 : decode prog_27_method_40_code 1 = .ok (.dup, 1) := by decide +kernel
theorem d_AL_clearN_2 : decode prog_27_method_40_code 2 = .ok (.getfield 63, 3) := by decide +kernel
theorem d_AL_clearN_5 : decode prog_27_method_40_code 5 = .ok (.iconst 1, 1) := by decide +kernel
theorem d_AL_clearN_6 : decode prog_27_method_40_code 6 = .ok (.iadd, 1) := by decide +kernel
theorem d_AL_clearN_7 : decode prog_27_method_40_code 7 = .ok (.putfield 63, 3) := by decide +kernel
theorem d_AL_clearN_10 : decode prog_27_method_40_code 10 = .ok (.aload_n 0, 1) := by decide +kernel
theorem d_AL_clearN_11 : decode prog_27_method_40_code 11 = .ok (.getfield 9, 3) := by decide +kernel
theorem d_AL_clearN_14 : decode prog_27_method_40_code 14 = .ok (.astore_n 1, 1) := by decide +kernel
theorem d_AL_clearN_15 : decode prog_27_method_40_code 15 = .ok (.aload_n 0, 1) := by decide +kernel
theorem d_AL_clearN_16 : decode prog_27_method_40_code 16 = .ok (.getfield 48, 3) := by decide +kernel
theorem d_AL_clearN_19 : decode prog_27_method_40_code 19 = .ok (.istore_n 2, 1) := by decide +kernel
theorem d_AL_clearN_20 : decode prog_27_method_40_code 20 = .ok (.aload_n 0, 1) := by decide +kernel
theorem d_AL_clearN_21 : decode prog_27_method_40_code 21 = .ok (.iconst 0, 1) := by decide +kernel
theorem d_AL_clearN_22 : decode prog_27_method_40_code 22 = .ok (.dup_x1, 1) := by decide +kernel
theorem d_AL_clearN_23 : decode prog_27_method_40_code 23 = .ok (.putfield 48, 3) := by decide +kernel
theorem d_AL_clearN_26 : decode prog_27_method_40_code 26 = .ok (.istore_n 3, 1) := by decide +kernel
theorem d_AL_clearN_27 : decode prog_27_method_40_code 27 = .ok (.iload_n 3, 1) := by decide +kernel
theorem d_AL_clearN_28 : decode prog_27_method_40_code 28 = .ok (.iload_n 2, 1) := by decide +kernel
theorem d_AL_clearN_29 : decode prog_27_method_40_code 29 = .ok (.if_icmp .ge 13, 3) := by decide +kernel
theorem d_AL_clearN_32 : decode prog_27_method_40_code 32 = .ok (.aload_n 1, 1) := by decide +kernel
theorem d_AL_clearN_33 : decode prog_27_method_40_code 33 = .ok (.iload_n 3, 1) := by decide +kernel
theorem d_AL_clearN_34 : decode prog_27_method_40_code 34 = .ok (.aconst_null, 1) := by decide +kernel
theorem d_AL_clearN_35 : decode prog_27_method_40_code 35 = .ok (.aastore, 1) := by decide +kernel
theorem d_AL_clearN_36 : decode prog_27_method_40_code 36 = .ok (.iinc 3 1, 3) := by decide +kernel
theorem d_AL_clearN_39 : decode prog_27_method_40_code 39 = .ok (.goto (-12), 3) := by decide +kernel
theorem d_AL_clearN_42 : decode prog_27_method_40_code 42 = .ok (.return_, 1) := by decide +kernel
set_option maxRecDepth 100000 in
set_option maxHeartbeats 4000000 in
theorem cm_AL_clearN {l : Launch} {S0 : State} {b : Nat} {D : va_G} {dT : Nat → ClassId} (hE : vEnv S0 b D dT) {h0 : vH} {a ea n cap : Nat} {md : Int32} {f : Nat → Option Nat} (hn : n ≤ cap) (hc : cap < 2 ^ 20) (ka : h0 a = some (.inr (2, [.ref ea, .int (nI n), .int md]))) (wa : S0.heap.size ≤ a) (ke : h0 ea = some (.inl (dT 4, cap, .inr (.inr (.inr (.inr f)))))) (we : S0.heap.size ≤ ea) : vMv l S0 D vcl GT y_ArrayList_clear prog_27_method_40_code 4 none 0 0 0 0 [.ref a] h0 (fun h' => ∃ md' f2, h' a = some (.inr (2, [.ref ea, .int 0, .int md'])) ∧ h' ea = some (.inl (dT 4, cap, .inr (.inr (.inr (.inr f2))))) ∧ vfx (fun b => b = a ∨ (b = ea ∧ S0.heap.size ≤ b)) h0 h') := by
  unfold vMv
  refine vM_ofQ hE.1 (by decide) (Nat.le_of_ble_eq_true rfl) (fun p e s m args below meth c ls Q hQ C hr hlk hnm X hl => ?_)
  have C : vC p s m _ c _ _ "java/util/ArrayList" GT D vcl (vty dT) := C
  have hx := C.1.1
  have hb := C.1.2.1
  obtain ⟨H, eH⟩ : ∃ z, z = s.heap := ⟨_, rfl⟩
  obtain ⟨locs, elocs⟩ : ∃ z : List Loc, z = [] := ⟨_, rfl⟩
  rw [← eH, ← elocs] at X
  rw [← eH, ← elocs]
  clear eH elocs
  have hl : lv_has ls 4 [(0, .ref a)] := hl
  refine lv_aload_n hx hb d_AL_clearN_0 rfl (lv_at hl 0 rfl) ?_
  refine lv_dup hx hb d_AL_clearN_1 rfl ?_
  refine mv_get C X ka 2 f_23_63_2 (v := .int md) rfl d_AL_clearN_2 ?_
  refine lv_iconst (v := 1) hx hb d_AL_clearN_5 (by decide) ?_
  refine lv_iadd hx hb d_AL_clearN_6 ?_
  refine mv_put C X ka wa 2 p_23_63_2 rfl rfl (Nat.le_of_ble_eq_true rfl) d_AL_clearN_7 (fun H locs X => ?_)
  have X : vO S0 D vcl (vup h0 a (.inr (2, [.ref ea, .int (nI n), .int (md + 1)]))) s H locs := X
  refine lv_aload_n hx hb d_AL_clearN_10 rfl (lv_at hl 0 rfl) ?_
  refine mv_get C X (vup_s _ _ _) 0 f_23_9_2 (v := .ref ea) rfl d_AL_clearN_11 ?_
  refine lv_astore_n (lv' := [(1, .ref ea), (0, .ref a)]) hx hb d_AL_clearN_14 rfl hl (by decide) rfl (fun ls hl => ?_)
  refine lv_aload_n hx hb d_AL_clearN_15 rfl (lv_at hl 1 rfl) ?_
  refine mv_get C X (vup_s _ _ _) 1 f_23_48_2 (v := .int (nI n)) rfl d_AL_clearN_16 ?_
  refine lv_istore_n (lv' := [(2, .int (nI n)), (1, .ref ea), (0, .ref a)]) hx hb d_AL_clearN_19 rfl hl (by decide) rfl (fun ls hl => ?_)
  refine lv_aload_n hx hb d_AL_clearN_20 rfl (lv_at hl 2 rfl) ?_
  refine lv_iconst (v := 0) hx hb d_AL_clearN_21 (by decide) ?_
  refine lv_dup_x1 hx hb d_AL_clearN_22 rfl rfl ?_
  refine mv_put C X (vup_s _ _ _) wa 1 p_23_48_2 rfl rfl (Nat.le_of_ble_eq_true rfl) d_AL_clearN_23 (fun H locs X => ?_)
  rw [vup_u] at X
  have X : vO S0 D vcl (vup h0 a (.inr (2, [.ref ea, .int 0, .int (md + 1)]))) s H locs := X
  refine lv_istore_n (lv' := [(3, .int 0), (2, .int (nI n)), (1, .ref ea), (0, .ref a)]) hx hb d_AL_clearN_26 rfl hl (by decide) rfl (fun ls hl => ?_)
  rw [← vup_idJ ((vup_n _ _ (Ne.symm (vne_oa ka ke))).trans ke)] at X
  have lp : ∀ (n_lp : Nat) (k : Nat) (f2 : Nat → Option Nat) (i : Int32) (ls : Array Slot) (H : Heap) (locs : List Loc), (i = nI k) → (k ≤ n) → (n - k) < n_lp → vO S0 D vcl (vup (vup h0 a (.inr (2, [.ref ea, .int 0, .int (md + 1)]))) ea (.inl (dT 4, cap, .inr (.inr (.inr (.inr f2)))))) s H locs → lv_has ls 4 [(0, .ref a), (1, .ref ea), (2, .int (nI n)), (3, .int i)] → W p l e (vRm 0 0 0 0) s m args below meth c H locs 0 0 Q (F0 m 27 ls []) := by
    intro n_lp
    induction n_lp with
    | zero => intros; exact absurd (by assumption) (Nat.not_lt_zero _)
    | succ n_lp ih_lp =>
      intro k f2 i ls H locs ei hk hmu_lp X hl
      refine lv_iload_n hx hb d_AL_clearN_27 rfl (lv_at hl 3 rfl) ?_
      refine lv_iload_n hx hb d_AL_clearN_28 rfl (lv_at hl 2 rfl) ?_
      refine lv_icmp_ge (tgt := 42) hx hb d_AL_clearN_29 (by decide) (fun c1 => ?_) (fun c1 => ?_)
      · skip
        exact mq_vret hQ C X hr hlk (⟨_, _, ((vup_n _ _ (vne_oa ka ke)).trans (vup_s _ _ _)), (vup_s _ _ _), (vfx.rf.up (Or.inl rfl)).up (Or.inr ⟨rfl, we⟩)⟩) (by omega) (by omega) d_AL_clearN_42
      · skip
        have hkn : k < n := by
          rcases Nat.lt_or_ge k n with q | q
          · exact q
          · exact absurd (by rw [ei]; exact nI_le q (by omega)) c1
        refine lv_aload_n hx hb d_AL_clearN_32 rfl (lv_at hl 1 rfl) ?_
        refine lv_iload_n hx hb d_AL_clearN_33 rfl (lv_at hl 3 rfl) ?_
        refine lv_null hx hb d_AL_clearN_34 ?_
        refine mv_aastN C X (vup_s _ _ _) we 4 rfl k ei (by omega) (by omega) d_AL_clearN_35 (fun H locs X => ?_)
        rw [vup_u] at X
        have X : vO S0 D vcl (vup (vup h0 a (.inr (2, [.ref ea, .int 0, .int (md + 1)]))) ea (.inl (dT 4, cap, .inr (.inr (.inr (.inr (va_up f2 k none))))))) s H locs := X
        refine lv_iinc (v := (i + 1)) (lv' := [(3, .int (i + 1)), (0, .ref a), (1, .ref ea), (2, .int (nI n))]) hx hb d_AL_clearN_36 hl (k := 3) rfl rfl (by decide) rfl (fun ls hl => ?_)
        refine lv_goto (tgt := 27) hx hb d_AL_clearN_39 (by decide) ?_
        exact ih_lp (k + 1) (va_up f2 k none) (i + 1) ls _ _ (by rw [ei]; exact nI_1 k) (by omega) (by omega) X (lv_sub hl [1, 2, 3, 0] rfl)
  exact lp (n - 0 + 1) 0 f 0 ls _ _ rfl (Nat.zero_le _) (Nat.lt_succ_self _) X (lv_sub hl [3, 2, 1, 0] rfl)
