theorem d_ArraysSupport_newLength_0 : decode prog_34_method_27_code 0 = .ok (.iload_n 0, 1) := by decide +kernel
theorem d_ArraysSupport_newLength_1 : decode prog_34_method_27_code 1 = .ok (.iload_n 1, 1) := by decide +kernel
theorem d_ArraysSupport_newLength_2 : decode prog_34_method_27_code 2 = .ok (.iload_n 2, 1) := by decide +kernel
theorem d_ArraysSupport_newLength_3 : decode prog_34_method_27_code 3 = .ok (.invokestatic 194, 3) := by decide +kernel
theorem d_ArraysSupport_newLength_6 : decode prog_34_method_27_code 6 = .ok (.iadd, 1) := by decide +kernel
theorem d_ArraysSupport_newLength_7 : decode prog_34_method_27_code 7 = .ok (.istore_n 3, 1) := by decide +kernel
theorem d_ArraysSupport_newLength_8 : decode prog_34_method_27_code 8 = .ok (.iconst 0, 1) := by decide +kernel
theorem d_ArraysSupport_newLength_9 : decode prog_34_method_27_code 9 = .ok (.iload_n 3, 1) := by decide +kernel
theorem d_ArraysSupport_newLength_10 : decode prog_34_method_27_code 10 = .ok (.if_icmp .ge 11, 3) := by decide +kernel
theorem d_ArraysSupport_newLength_13 : decode prog_34_method_27_code 13 = .ok (.iload_n 3, 1) := by decide +kernel
theorem d_ArraysSupport_newLength_14 : decode prog_34_method_27_code 14 = .ok (.ldc 200, 2) := by decide +kernel
theorem d_ArraysSupport_newLength_16 : decode prog_34_method_27_code 16 = .ok (.if_icmp .gt 5, 3) := by decide +kernel
theorem d_ArraysSupport_newLength_19 : decode prog_34_method_27_code 19 = .ok (.iload_n 3, 1) := by decide +kernel
theorem d_ArraysSupport_newLength_20 : decode prog_34_method_27_code 20 = .ok (.ireturn, 1) := by decide +kernel
set_option maxRecDepth 100000 in
set_option maxHeartbeats 4000000 in
theorem cm_ArraysSupport_newLength {l : Launch} {S0 : State} {b : Nat} {D : va_G} {dT : Nat → ClassId} (hE : vEnv S0 b D dT) {h0 : vH} {o0 g0 p0 : Nat} (ho : o0 < 2 ^ 29) (hg : g0 < 2 ^ 29) (hp0 : p0 < 2 ^ 29) (h1 : 0 < o0 + max g0 p0) : vMi l S0 D vcl GT y_ArraysSupport_newLength prog_34_method_27_code 4 (some .int) 1 14 0 0 [.int (nI o0), .int (nI g0), .int (nI p0)] h0 (fun r h' => h' = h0 ∧ r = nI (o0 + max g0 p0)) := by
  unfold vMi
  refine vM_ofQ hE.1 (by decide) (Nat.le_of_ble_eq_true rfl) (fun p e s m args below meth c ls Q hQ C hr hlk hnm X hl => ?_)
  have C : vC p s m _ c _ _ "jdk/internal/util/ArraysSupport" GT D vcl (vty dT) := C
  have hx := C.1.1
  have hb := C.1.2.1
  obtain ⟨H, eH⟩ : ∃ z, z = s.heap := ⟨_, rfl⟩
  obtain ⟨locs, elocs⟩ : ∃ z : List Loc, z = [] := ⟨_, rfl⟩
  rw [← eH, ← elocs] at X
  rw [← eH, ← elocs]
  clear eH elocs
  have hl : lv_has ls 4 [(0, .int (nI o0)), (1, .int (nI g0)), (2, .int (nI p0))] := hl
  refine lv_iload_n hx hb d_ArraysSupport_newLength_0 rfl (lv_at hl 0 rfl) ?_
  refine lv_iload_n hx hb d_ArraysSupport_newLength_1 rfl (lv_at hl 1 rfl) ?_
  refine lv_iload_n hx hb d_ArraysSupport_newLength_2 rfl (lv_at hl 2 rfl) ?_
  refine va_mmax hx hb (by rw [C.1.2.2.1, hl.1]) C.1.2.2.2.1 (C.1.2.2.2.2 _ (gt_2 13 (by decide +kernel) rfl)) (C.1.2.2.2.2 _ (gt_2 14 (by decide +kernel) rfl)) (C.1.2.2.2.2 _ (gt_1 15 (by decide +kernel) rfl)) (C.1.2.2.2.2 _ (gt_2 15 (rfl) rfl)) (Nat.le_of_ble_eq_true rfl) (Nat.le_of_ble_eq_true rfl) (by show 0 ≤ 0; omega) (by show 0 ≤ 0; omega) d_ArraysSupport_newLength_3 ?_
  rw [show (if (nI g0) < (nI p0) then (nI p0) else (nI g0)) = nI (max g0 p0) by
      by_cases z : g0 < p0
      · rw [if_pos (nI_lt z (by omega)), Nat.max_eq_right (by omega)]
      · rw [if_neg (nI_nlt (by omega) (by omega)), Nat.max_eq_left (by omega)]]
  refine lv_iadd hx hb d_ArraysSupport_newLength_6 ?_
  rw [nI_add]
  refine lv_istore_n (lv' := [(3, .int (nI (o0 + max g0 p0))), (0, .int (nI o0)), (1, .int (nI g0)), (2, .int (nI p0))]) hx hb d_ArraysSupport_newLength_7 rfl hl (by decide) rfl (fun ls hl => ?_)
  refine lv_iconst (v := 0) hx hb d_ArraysSupport_newLength_8 (by decide) ?_
  refine lv_iload_n hx hb d_ArraysSupport_newLength_9 rfl (lv_at hl 0 rfl) ?_
  refine lv_icmp_ge (tgt := 21) hx hb d_ArraysSupport_newLength_10 (by decide) (fun z => absurd z (nI_ge (a := 0) h1 (by omega))) (fun c1 => ?_)
  refine lv_iload_n hx hb d_ArraysSupport_newLength_13 rfl (lv_at hl 0 rfl) ?_
  refine lv_ldc (v := 2147483639) hx hb C.1.2.2.2.1 (C.1.2.2.2.2 _ (gt_2 16 (by decide +kernel) rfl)) d_ArraysSupport_newLength_14 ?_
  refine lv_icmp_gt (tgt := 21) hx hb d_ArraysSupport_newLength_16 (by decide) (fun z => absurd z (nI_nlt (a := 2147483639) (by omega) (by omega))) (fun c2 => ?_)
  refine lv_iload_n hx hb d_ArraysSupport_newLength_19 rfl (lv_at hl 0 rfl) ?_
  exact mq_iret hQ C X hr rfl hlk (⟨rfl, rfl⟩) (by omega) (by omega) d_ArraysSupport_newLength_20
theorem d_Preconditions_checkIndex_N_0 : decode prog_35_method_11_code 0 = .ok (.iload_n 0, 1) := by decide +kernel
theorem d_Preconditions_checkIndex_N_1 : decode prog_35_method_11_code 1 = .ok (.ifCond .lt 8, 3) := by decide +kernel
theorem d_Preconditions_checkIndex_N_4 : decode prog_35_method_11_code 4 = .ok (.iload_n 0, 1) := by decide +kernel
theorem d_Preconditions_checkIndex_N_5 : decode prog_35_method_11_code 5 = .ok (.iload_n 1, 1) := by decide +kernel
theorem d_Preconditions_checkIndex_N_6 : decode prog_35_method_11_code 6 = .ok (.if_icmp .lt 10, 3) := by decide +kernel
theorem d_Preconditions_checkIndex_N_16 : decode prog_35_method_11_code 16 = .ok (.iload_n 0, 1) := by decide +kernel
theorem d_Preconditions_checkIndex_N_17 : decode prog_35_method_11_code 17 = .ok (.ireturn, 1) := by decide +kernel
set_option maxRecDepth 100000 in
set_option maxHeartbeats 4000000 in
theorem cm_Preconditions_checkIndex_N {l : Launch} {S0 : State} {b : Nat} {D : va_G} {dT : Nat → ClassId} (hE : vEnv S0 b D dT) {h0 : vH} {i0 n0 : Nat} (hi : i0 < n0) (hn : n0 < 2 ^ 31) : vMi l S0 D vcl GT y_Preconditions_checkIndex prog_35_method_11_code 3 (some .int) 0 0 0 0 [.int (nI i0), .int (nI n0), .null] h0 (fun r h' => h' = h0 ∧ r = nI i0) := by
  unfold vMi
  refine vM_ofQ hE.1 (by decide) (Nat.le_of_ble_eq_true rfl) (fun p e s m args below meth c ls Q hQ C hr hlk hnm X hl => ?_)
  have C : vC p s m _ c _ _ "jdk/internal/util/Preconditions" GT D vcl (vty dT) := C
  have hx := C.1.1
  have hb := C.1.2.1
  obtain ⟨H, eH⟩ : ∃ z, z = s.heap := ⟨_, rfl⟩
  obtain ⟨locs, elocs⟩ : ∃ z : List Loc, z = [] := ⟨_, rfl⟩
  rw [← eH, ← elocs] at X
  rw [← eH, ← elocs]
  clear eH elocs
  have hl : lv_has ls 3 [(0, .int (nI i0)), (1, .int (nI n0)), (2, .null)] := hl
  refine lv_iload_n hx hb d_Preconditions_checkIndex_N_0 rfl (lv_at hl 0 rfl) ?_
  refine lv_if_lt (tgt := 9) hx hb d_Preconditions_checkIndex_N_1 (by decide) (fun z => absurd z (nI_pos (by omega))) (fun c1 => ?_)
  refine lv_iload_n hx hb d_Preconditions_checkIndex_N_4 rfl (lv_at hl 0 rfl) ?_
  refine lv_iload_n hx hb d_Preconditions_checkIndex_N_5 rfl (lv_at hl 1 rfl) ?_
  refine lv_icmp_lt (tgt := 16) hx hb d_Preconditions_checkIndex_N_6 (by decide) (fun c2 => ?_) (fun z => absurd (nI_lt hi hn) z)
  refine lv_iload_n hx hb d_Preconditions_checkIndex_N_16 rfl (lv_at hl 0 rfl) ?_
  exact mq_iret hQ C X hr rfl hlk (⟨rfl, rfl⟩) (by omega) (by omega) d_Preconditions_checkIndex_N_17
theorem d_Preconditions_checkIndex_R_0 : decode prog_35_method_11_code 0 = .ok (.iload_n 0, 1) := by decide +kernel
theorem d_Preconditions_checkIndex_R_1 : decode prog_35_method_11_code 1 = .ok (.ifCond .lt 8, 3) := by decide +kernel
theorem d_Preconditions_checkIndex_R_4 : decode prog_35_method_11_code 4 = .ok (.iload_n 0, 1) := by decide +kernel
theorem d_Preconditions_checkIndex_R_5 : decode prog_35_method_11_code 5 = .ok (.iload_n 1, 1) := by decide +kernel
theorem d_Preconditions_checkIndex_R_6 : decode prog_35_method_11_code 6 = .ok (.if_icmp .lt 10, 3) := by decide +kernel
theorem d_Preconditions_checkIndex_R_16 : decode prog_35_method_11_code 16 = .ok (.iload_n 0, 1) := by decide +kernel
theorem d_Preconditions_checkIndex_R_17 : decode prog_35_method_11_code 17 = .ok (.ireturn, 1) := by decide +kernel
set_option maxRecDepth 100000 in
set_option maxHeartbeats 4000000 in
theorem cm_Preconditions_checkIndex_R {l : Launch} {S0 : State} {b : Nat} {D : va_G} {dT : Nat → ClassId} (hE : vEnv S0 b D dT) {h0 : vH} {i0 n0 : Nat} (hi : i0 < n0) (hn : n0 < 2 ^ 31) {t : Nat} : vMi l S0 D vcl GT y_Preconditions_checkIndex prog_35_method_11_code 3 (some .int) 0 0 0 0 [.int (nI i0), .int (nI n0), .ref t] h0 (fun r h' => h' = h0 ∧ r = nI i0) := by
  unfold vMi
  refine vM_ofQ hE.1 (by decide) (Nat.le_of_ble_eq_true rfl) (fun p e s m args below meth c ls Q hQ C hr hlk hnm X hl => ?_)
  have C : vC p s m _ c _ _ "jdk/internal/util/Preconditions" GT D vcl (vty dT) := C
  have hx := C.1.1
  have hb := C.1.2.1
  obtain ⟨H, eH⟩ : ∃ z, z = s.heap := ⟨_, rfl⟩
  obtain ⟨locs, elocs⟩ : ∃ z : List Loc, z = [] := ⟨_, rfl⟩
  rw [← eH, ← elocs] at X
  rw [← eH, ← elocs]
  clear eH elocs
  have hl : lv_has ls 3 [(0, .int (nI i0)), (1, .int (nI n0)), (2, .ref t)] := hl
  refine lv_iload_n hx hb d_Preconditions_checkIndex_R_0 rfl (lv_at hl 0 rfl) ?_
  refine lv_if_lt (tgt := 9) hx hb d_Preconditions_checkIndex_R_1 (by decide) (fun z => absurd z (nI_pos (by omega))) (fun c1 => ?_)
  refine lv_iload_n hx hb d_Preconditions_checkIndex_R_4 rfl (lv_at hl 0 rfl) ?_
  refine lv_iload_n hx hb d_Preconditions_checkIndex_R_5 rfl (lv_at hl 1 rfl) ?_
  refine lv_icmp_lt (tgt := 16) hx hb d_Preconditions_checkIndex_R_6 (by decide) (fun c2 => ?_) (fun z => absurd (nI_lt hi hn) z)
  refine lv_iload_n hx hb d_Preconditions_checkIndex_R_16 rfl (lv_at hl 0 rfl) ?_
  exact mq_iret hQ C X hr rfl hlk (⟨rfl, rfl⟩) (by omega) (by omega) d_Preconditions_checkIndex_R_17
theorem cm_Preconditions_checkIndex {l : Launch} {S0 : State} {b : Nat} {D : va_G} {dT : Nat → ClassId} (hE : vEnv S0 b D dT) {h0 : vH} {i0 n0 : Nat} (hi : i0 < n0) (hn : n0 < 2 ^ 31) (fo : Option Nat) : vMi l S0 D vcl GT y_Preconditions_checkIndex prog_35_method_11_code 3 (some .int) 0 0 0 0 [.int (nI i0), .int (nI n0), va_rf fo] h0 (fun r h' => h' = h0 ∧ r = nI i0) := by
  cases fo with
  | none => exact cm_Preconditions_checkIndex_N hE hi hn
  | some t => exact cm_Preconditions_checkIndex_R hE hi hn
theorem d_Preconditions_checkFromToIndex_N_0 : decode prog_35_method_12_code 0 = .ok (.iload_n 0, 1) := by decide +kernel
theorem d_Preconditions_checkFromToIndex_N_1 : decode prog_35_method_12_code 1 = .ok (.ifCond .lt 13, 3) := by decide +kernel
theorem d_Preconditions_checkFromToIndex_N_4 : decode prog_35_method_12_code 4 = .ok (.iload_n 0, 1) := by decide +kernel
theorem d_Preconditions_checkFromToIndex_N_5 : decode prog_35_method_12_code 5 = .ok (.iload_n 1, 1) := by decide +kernel
theorem d_Preconditions_checkFromToIndex_N_6 : decode prog_35_method_12_code 6 = .ok (.if_icmp .gt 8, 3) := by decide +kernel
theorem d_Preconditions_checkFromToIndex_N_9 : decode prog_35_method_12_code 9 = .ok (.iload_n 1, 1) := by decide +kernel
theorem d_Preconditions_checkFromToIndex_N_10 : decode prog_35_method_12_code 10 = .ok (.iload_n 2, 1) := by decide +kernel
theorem d_Preconditions_checkFromToIndex_N_11 : decode prog_35_method_12_code 11 = .ok (.if_icmp .le 11, 3) := by decide +kernel
theorem d_Preconditions_checkFromToIndex_N_22 : decode prog_35_method_12_code 22 = .ok (.iload_n 0, 1) := by decide +kernel
theorem d_Preconditions_checkFromToIndex_N_23 : decode prog_35_method_12_code 23 = .ok (.ireturn, 1) := by decide +kernel
set_option maxRecDepth 100000 in
set_option maxHeartbeats 4000000 in
theorem cm_Preconditions_checkFromToIndex_N {l : Launch} {S0 : State} {b : Nat} {D : va_G} {dT : Nat → ClassId} (hE : vEnv S0 b D dT) {h0 : vH} {i0 j0 n0 : Nat} (hi : i0 ≤ j0) (hj : j0 ≤ n0) (hn : n0 < 2 ^ 31) : vMi l S0 D vcl GT y_Preconditions_checkFromToIndex prog_35_method_12_code 4 (some .int) 0 0 0 0 [.int (nI i0), .int (nI j0), .int (nI n0), .null] h0 (fun r h' => h' = h0 ∧ r = nI i0) := by
  unfold vMi
  refine vM_ofQ hE.1 (by decide) (Nat.le_of_ble_eq_true rfl) (fun p e s m args below meth c ls Q hQ C hr hlk hnm X hl => ?_)
  have C : vC p s m _ c _ _ "jdk/internal/util/Preconditions" GT D vcl (vty dT) := C
  have hx := C.1.1
  have hb := C.1.2.1
  obtain ⟨H, eH⟩ : ∃ z, z = s.heap := ⟨_, rfl⟩
  obtain ⟨locs, elocs⟩ : ∃ z : List Loc, z = [] := ⟨_, rfl⟩
  rw [← eH, ← elocs] at X
  rw [← eH, ← elocs]
  clear eH elocs
  have hl : lv_has ls 4 [(0, .int (nI i0)), (1, .int (nI j0)), (2, .int (nI n0)), (3, .null)] := hl
  refine lv_iload_n hx hb d_Preconditions_checkFromToIndex_N_0 rfl (lv_at hl 0 rfl) ?_
  refine lv_if_lt (tgt := 14) hx hb d_Preconditions_checkFromToIndex_N_1 (by decide) (fun z => absurd z (nI_pos (by omega))) (fun c1 => ?_)
  refine lv_iload_n hx hb d_Preconditions_checkFromToIndex_N_4 rfl (lv_at hl 0 rfl) ?_
  refine lv_iload_n hx hb d_Preconditions_checkFromToIndex_N_5 rfl (lv_at hl 1 rfl) ?_
  refine lv_icmp_gt (tgt := 14) hx hb d_Preconditions_checkFromToIndex_N_6 (by decide) (fun z => absurd z (nI_nlt hi (by omega))) (fun c2 => ?_)
  refine lv_iload_n hx hb d_Preconditions_checkFromToIndex_N_9 rfl (lv_at hl 1 rfl) ?_
  refine lv_iload_n hx hb d_Preconditions_checkFromToIndex_N_10 rfl (lv_at hl 2 rfl) ?_
  refine lv_icmp_le (tgt := 22) hx hb d_Preconditions_checkFromToIndex_N_11 (by decide) (fun c3 => ?_) (fun z => absurd (nI_le hj hn) z)
  refine lv_iload_n hx hb d_Preconditions_checkFromToIndex_N_22 rfl (lv_at hl 0 rfl) ?_
  exact mq_iret hQ C X hr rfl hlk (⟨rfl, rfl⟩) (by omega) (by omega) d_Preconditions_checkFromToIndex_N_23
theorem d_Preconditions_checkFromToIndex_R_0 : decode prog_35_method_12_code 0 = .ok (.iload_n 0, 1) := by decide +kernel
theorem d_Preconditions_checkFromToIndex_R_1 : decode prog_35_method_12_code 1 = .ok (.ifCond .lt 13, 3) := by decide +kernel
theorem d_Preconditions_checkFromToIndex_R_4 : decode prog_35_method_12_code 4 = .ok (.iload_n 0, 1) := by decide +kernel
theorem d_Preconditions_checkFromToIndex_R_5 : decode prog_35_method_12_code 5 = .ok (.iload_n 1, 1) := by decide +kernel
theorem d_Preconditions_checkFromToIndex_R_6 : decode prog_35_method_12_code 6 = .ok (.if_icmp .gt 8, 3) := by decide +kernel
theorem d_Preconditions_checkFromToIndex_R_9 : decode prog_35_method_12_code 9 = .ok (.iload_n 1, 1) := by decide +kernel
theorem d_Preconditions_checkFromToIndex_R_10 : decode prog_35_method_12_code 10 = .ok (.iload_n 2, 1) := by decide +kernel
theorem d_Preconditions_checkFromToIndex_R_11 : decode prog_35_method_12_code 11 = .ok (.if_icmp .le 11, 3) := by decide +kernel
theorem d_Preconditions_checkFromToIndex_R_22 : decode prog_35_method_12_code 22 = .ok (.iload_n 0, 1) := by decide +kernel
theorem d_Preconditions_checkFromToIndex_R_23 : decode prog_35_method_12_code 23 = .ok (.ireturn, 1) := by decide +kernel
set_option maxRecDepth 100000 in
set_option maxHeartbeats 4000000 in
theorem cm_Preconditions_checkFromToIndex_R {l : Launch} {S0 : State} {b : Nat} {D : va_G} {dT : Nat → ClassId} (hE : vEnv S0 b D dT) {h0 : vH} {i0 j0 n0 : Nat} (hi : i0 ≤ j0) (hj : j0 ≤ n0) (hn : n0 < 2 ^ 31) {t : Nat} : vMi l S0 D vcl GT y_Preconditions_checkFromToIndex prog_35_method_12_code 4 (some .int) 0 0 0 0 [.int (nI i0), .int (nI j0), .int (nI n0), .ref t] h0 (fun r h' => h' = h0 ∧ r = nI i0) := by
  unfold vMi
  refine vM_ofQ hE.1 (by decide) (Nat.le_of_ble_eq_true rfl) (fun p e s m args below meth c ls Q hQ C hr hlk hnm X hl => ?_)
  have C : vC p s m _ c _ _ "jdk/internal/util/Preconditions" GT D vcl (vty dT) := C
  have hx := C.1.1
  have hb := C.1.2.1
  obtain ⟨H, eH⟩ : ∃ z, z = s.heap := ⟨_, rfl⟩
  obtain ⟨locs, elocs⟩ : ∃ z : List Loc, z = [] := ⟨_, rfl⟩
  rw [← eH, ← elocs] at X
  rw [← eH, ← elocs]
  clear eH elocs
  have hl : lv_has ls 4 [(0, .int (nI i0)), (1, .int (nI j0)), (2, .int (nI n0)), (3, .ref t)] := hl
  refine lv_iload_n hx hb d_Preconditions_checkFromToIndex_R_0 rfl (lv_at hl 0 rfl) ?_
  refine lv_if_lt (tgt := 14) hx hb d_Preconditions_checkFromToIndex_R_1 (by decide) (fun z => absurd z (nI_pos (by omega))) (fun c1 => ?_)
  refine lv_iload_n hx hb d_Preconditions_checkFromToIndex_R_4 rfl (lv_at hl 0 rfl) ?_
  refine lv_iload_n hx hb d_Preconditions_checkFromToIndex_R_5 rfl (lv_at hl 1 rfl) ?_
  refine lv_icmp_gt (tgt := 14) hx hb d_Preconditions_checkFromToIndex_R_6 (by decide) (fun z => absurd z (nI_nlt hi (by omega))) (fun c2 => ?_)
  refine lv_iload_n hx hb d_Preconditions_checkFromToIndex_R_9 rfl (lv_at hl 1 rfl) ?_
  refine lv_iload_n hx hb d_Preconditions_checkFromToIndex_R_10 rfl (lv_at hl 2 rfl) ?_
  refine lv_icmp_le (tgt := 22) hx hb d_Preconditions_checkFromToIndex_R_11 (by decide) (fun c3 => ?_) (fun z => absurd (nI_le hj hn) z)
  refine lv_iload_n hx hb d_Preconditions_checkFromToIndex_R_22 rfl (lv_at hl 0 rfl) ?_
  exact mq_iret hQ C X hr rfl hlk (⟨rfl, rfl⟩) (by omega) (by omega) d_Preconditions_checkFromToIndex_R_23
theorem cm_Preconditions_checkFromToIndex {l : Launch} {S0 : State} {b : Nat} {D : va_G} {dT : Nat → ClassId} (hE : vEnv S0 b D dT) {h0 : vH} {i0 j0 n0 : Nat} (hi : i0 ≤ j0) (hj : j0 ≤ n0) (hn : n0 < 2 ^ 31) (fo : Option Nat) : vMi l S0 D vcl GT y_Preconditions_checkFromToIndex prog_35_method_12_code 4 (some .int) 0 0 0 0 [.int (nI i0), .int (nI j0), .int (nI n0), va_rf fo] h0 (fun r h' => h' = h0 ∧ r = nI i0) := by
  cases fo with
  | none => exact cm_Preconditions_checkFromToIndex_N hE hi hj hn
  | some t => exact cm_Preconditions_checkFromToIndex_R hE hi hj hn
theorem d_Objects_checkIndex_0 : decode prog_31_method_17_code 0 = .ok (.iload_n 0, 1) := by decide +kernel
theorem d_Objects_checkIndex_1 : decode prog_31_method_17_code 1 = .ok (.iload_n 1, 1) := by decide +kernel
theorem d_Objects_checkIndex_2 : decode prog_31_method_17_code 2 = .ok (.aconst_null, 1) := by decide +kernel
theorem d_Objects_checkIndex_3 : decode prog_31_method_17_code 3 = .ok (.invokestatic 105, 3) := by decide +kernel
theorem d_Objects_checkIndex_6 : decode prog_31_method_17_code 6 = .ok (.ireturn, 1) := by decide +kernel
set_option maxRecDepth 100000 in
set_option maxHeartbeats 4000000 in
theorem cm_Objects_checkIndex {l : Launch} {S0 : State} {b : Nat} {D : va_G} {dT : Nat → ClassId} (hE : vEnv S0 b D dT) {h0 : vH} {i0 n0 : Nat} (hi : i0 < n0) (hn : n0 < 2 ^ 31) : vMi l S0 D vcl GT y_Objects_checkIndex prog_31_method_17_code 2 (some .int) 1 22 0 0 [.int (nI i0), .int (nI n0)] h0 (fun r h' => h' = h0 ∧ r = nI i0) := by
  unfold vMi
  refine vM_ofQ hE.1 (by decide) (Nat.le_of_ble_eq_true rfl) (fun p e s m args below meth c ls Q hQ C hr hlk hnm X hl => ?_)
  have C : vC p s m _ c _ _ "java/util/Objects" GT D vcl (vty dT) := C
  have hx := C.1.1
  have hb := C.1.2.1
  obtain ⟨H, eH⟩ : ∃ z, z = s.heap := ⟨_, rfl⟩
  obtain ⟨locs, elocs⟩ : ∃ z : List Loc, z = [] := ⟨_, rfl⟩
  rw [← eH, ← elocs] at X
  rw [← eH, ← elocs]
  clear eH elocs
  have hl : lv_has ls 2 [(0, .int (nI i0)), (1, .int (nI n0))] := hl
  refine lv_iload_n hx hb d_Objects_checkIndex_0 rfl (lv_at hl 0 rfl) ?_
  refine lv_iload_n hx hb d_Objects_checkIndex_1 rfl (lv_at hl 1 rfl) ?_
  refine lv_null hx hb d_Objects_checkIndex_2 ?_
  refine mv_bi X (mv_rS (rest := []) (As := [.int (nI i0), .int (nI n0), .null]) gt_good C X k_25_105 (cm_Preconditions_checkIndex hE hi hn none) ⟨Nat.le_of_ble_eq_true rfl, Nat.le_of_ble_eq_true rfl⟩ rfl hl.1 rfl (Nat.le_of_ble_eq_true rfl) d_Objects_checkIndex_3 ⟨Nat.zero_le _, Nat.zero_le _⟩) (fun r1 hN H locs hp X => ?_)
  obtain ⟨eh, er⟩ := hp
  replace eh := eh.symm
  replace er := er.symm
  subst eh er
  exact mq_iret hQ C X hr rfl hlk (⟨rfl, rfl⟩) (by omega) (by omega) d_Objects_checkIndex_6
theorem d_String_checkIndex_0 : decode prog_20_method_155_code 0 = .ok (.iload_n 0, 1) := by decide +kernel
theorem d_String_checkIndex_1 : decode prog_20_method_155_code 1 = .ok (.iload_n 1, 1) := by decide +kernel
theorem d_String_checkIndex_2 : decode prog_20_method_155_code 2 = .ok (.getstatic 1053, 3) := by decide +kernel
theorem d_String_checkIndex_5 : decode prog_20_method_155_code 5 = .ok (.invokestatic 1059, 3) := by decide +kernel
theorem d_String_checkIndex_8 : decode prog_20_method_155_code 8 = .ok (.pop, 1) := by decide +kernel
theorem d_String_checkIndex_9 : decode prog_20_method_155_code 9 = .ok (.return_, 1) := by decide +kernel
set_option maxRecDepth 100000 in
set_option maxHeartbeats 4000000 in
theorem cm_String_checkIndex {l : Launch} {S0 : State} {b : Nat} {D : va_G} {dT : Nat → ClassId} (hE : vEnv S0 b D dT) {dE mO : Nat} (hJ : vJ S0 dE mO) {h0 : vH} {i0 n0 : Nat} (hi : i0 < n0) (hn : n0 < 2 ^ 31) : vMv l S0 D vcl GT y_String_checkIndex prog_20_method_155_code 2 none 1 22 0 0 [.int (nI i0), .int (nI n0)] h0 (fun h' => h' = h0) := by
  unfold vMv
  refine vM_ofQ hE.1 (by decide) (Nat.le_of_ble_eq_true rfl) (fun p e s m args below meth c ls Q hQ C hr hlk hnm X hl => ?_)
  have C : vC p s m _ c _ _ "java/lang/String" GT D vcl (vty dT) := C
  have hx := C.1.1
  have hb := C.1.2.1
  obtain ⟨H, eH⟩ : ∃ z, z = s.heap := ⟨_, rfl⟩
  obtain ⟨locs, elocs⟩ : ∃ z : List Loc, z = [] := ⟨_, rfl⟩
  rw [← eH, ← elocs] at X
  rw [← eH, ← elocs]
  clear eH elocs
  have hl : lv_has ls 2 [(0, .int (nI i0)), (1, .int (nI n0))] := hl
  refine lv_iload_n hx hb d_String_checkIndex_0 rfl (lv_at hl 0 rfl) ?_
  refine lv_iload_n hx hb d_String_checkIndex_1 rfl (lv_at hl 1 rfl) ?_
  obtain ⟨fo, zfo⟩ := hJ.2.2.1
  refine mv_gets C X (v := va_rf fo) zfo (gt_2 64 (by decide +kernel) rfl) rfl d_String_checkIndex_2 ?_
  refine mv_bi X (mv_rS (rest := []) (As := [.int (nI i0), .int (nI n0), va_rf fo]) gt_good C X k_17_1059 (cm_Preconditions_checkIndex hE hi hn fo) ⟨Nat.le_of_ble_eq_true rfl, Nat.le_of_ble_eq_true rfl⟩ rfl hl.1 rfl (Nat.le_of_ble_eq_true rfl) d_String_checkIndex_5 ⟨Nat.zero_le _, Nat.zero_le _⟩) (fun r1 hN H locs hp X => ?_)
  obtain ⟨eh, er⟩ := hp
  replace eh := eh.symm
  replace er := er.symm
  subst eh er
  refine lv_pop hx hb d_String_checkIndex_8 rfl ?_
  exact mq_vret hQ C X hr hlk rfl (by omega) (by omega) d_String_checkIndex_9
theorem d_String_checkBoundsBeginEnd_0 : decode prog_20_method_158_code 0 = .ok (.iload_n 0, 1) := by decide +kernel
theorem d_String_checkBoundsBeginEnd_1 : decode prog_20_method_158_code 1 = .ok (.iload_n 1, 1) := by decide +kernel
theorem d_String_checkBoundsBeginEnd_2 : decode prog_20_method_158_code 2 = .ok (.iload_n 2, 1) := by decide +kernel
theorem d_String_checkBoundsBeginEnd_3 : decode prog_20_method_158_code 3 = .ok (.getstatic 1053, 3) := by decide +kernel
theorem d_String_checkBoundsBeginEnd_6 : decode prog_20_method_158_code 6 = .ok (.invokestatic 1062, 3) := by decide +kernel
theorem d_String_checkBoundsBeginEnd_9 : decode prog_20_method_158_code 9 = .ok (.pop, 1) := by decide +kernel
theorem d_String_checkBoundsBeginEnd_10 : decode prog_20_method_158_code 10 = .ok (.return_, 1) := by decide +kernel
set_option maxRecDepth 100000 in
set_option maxHeartbeats 4000000 in
theorem cm_String_checkBoundsBeginEnd {l : Launch} {S0 : State} {b : Nat} {D : va_G} {dT : Nat → ClassId} (hE : vEnv S0 b D dT) {dE mO : Nat} (hJ : vJ S0 dE mO) {h0 : vH} {i0 j0 n0 : Nat} (hi : i0 ≤ j0) (hj : j0 ≤ n0) (hn : n0 < 2 ^ 31) : vMv l S0 D vcl GT y_String_checkBoundsBeginEnd prog_20_method_158_code 3 none 1 23 0 0 [.int (nI i0), .int (nI j0), .int (nI n0)] h0 (fun h' => h' = h0) := by
  unfold vMv
  refine vM_ofQ hE.1 (by decide) (Nat.le_of_ble_eq_true rfl) (fun p e s m args below meth c ls Q hQ C hr hlk hnm X hl => ?_)
  have C : vC p s m _ c _ _ "java/lang/String" GT D vcl (vty dT) := C
  have hx := C.1.1
  have hb := C.1.2.1
  obtain ⟨H, eH⟩ : ∃ z, z = s.heap := ⟨_, rfl⟩
  obtain ⟨locs, elocs⟩ : ∃ z : List Loc, z = [] := ⟨_, rfl⟩
  rw [← eH, ← elocs] at X
  rw [← eH, ← elocs]
  clear eH elocs
  have hl : lv_has ls 3 [(0, .int (nI i0)), (1, .int (nI j0)), (2, .int (nI n0))] := hl
  refine lv_iload_n hx hb d_String_checkBoundsBeginEnd_0 rfl (lv_at hl 0 rfl) ?_
  refine lv_iload_n hx hb d_String_checkBoundsBeginEnd_1 rfl (lv_at hl 1 rfl) ?_
  refine lv_iload_n hx hb d_String_checkBoundsBeginEnd_2 rfl (lv_at hl 2 rfl) ?_
  obtain ⟨fo, zfo⟩ := hJ.2.2.1
  refine mv_gets C X (v := va_rf fo) zfo (gt_2 64 (by decide +kernel) rfl) rfl d_String_checkBoundsBeginEnd_3 ?_
  refine mv_bi X (mv_rS (rest := []) (As := [.int (nI i0), .int (nI j0), .int (nI n0), va_rf fo]) gt_good C X k_17_1062 (cm_Preconditions_checkFromToIndex hE hi hj hn fo) ⟨Nat.le_of_ble_eq_true rfl, Nat.le_of_ble_eq_true rfl⟩ rfl hl.1 rfl (Nat.le_of_ble_eq_true rfl) d_String_checkBoundsBeginEnd_6 ⟨Nat.zero_le _, Nat.zero_le _⟩) (fun r1 hN H locs hp X => ?_)
  obtain ⟨eh, er⟩ := hp
  replace eh := eh.symm
  replace er := er.symm
  subst eh er
  refine lv_pop hx hb d_String_checkBoundsBeginEnd_9 rfl ?_
  exact mq_vret hQ C X hr hlk rfl (by omega) (by omega) d_String_checkBoundsBeginEnd_10
theorem d_Arrays_checkLength_0 : decode prog_28_method_131_code 0 = .ok (.iload_n 1, 1) := by decide +kernel
theorem d_Arrays_checkLength_1 : decode prog_28_method_131_code 1 = .ok (.iload_n 0, 1) := by decide +kernel
theorem d_Arrays_checkLength_2 : decode prog_28_method_131_code 2 = .ok (.if_icmp .ge 35, 3) := by decide +kernel
theorem d_Arrays_checkLength_37 : decode prog_28_method_131_code 37 = .ok (.return_, 1) := by decide +kernel
set_option maxRecDepth 100000 in
set_option maxHeartbeats 4000000 in
theorem cm_Arrays_checkLength {l : Launch} {S0 : State} {b : Nat} {D : va_G} {dT : Nat → ClassId} (hE : vEnv S0 b D dT) {h0 : vH} {i0 j0 : Nat} (hi : i0 ≤ j0) (hj : j0 < 2 ^ 31) : vMv l S0 D vcl GT y_Arrays_checkLength prog_28_method_131_code 2 none 0 0 0 0 [.int (nI i0), .int (nI j0)] h0 (fun h' => h' = h0) := by
  unfold vMv
  refine vM_ofQ hE.1 (by decide) (Nat.le_of_ble_eq_true rfl) (fun p e s m args below meth c ls Q hQ C hr hlk hnm X hl => ?_)
  have C : vC p s m _ c _ _ "java/util/Arrays" GT D vcl (vty dT) := C
  have hx := C.1.1
  have hb := C.1.2.1
  obtain ⟨H, eH⟩ : ∃ z, z = s.heap := ⟨_, rfl⟩
  obtain ⟨locs, elocs⟩ : ∃ z : List Loc, z = [] := ⟨_, rfl⟩
  rw [← eH, ← elocs] at X
  rw [← eH, ← elocs]
  clear eH elocs
  have hl : lv_has ls 2 [(0, .int (nI i0)), (1, .int (nI j0))] := hl
  refine lv_iload_n hx hb d_Arrays_checkLength_0 rfl (lv_at hl 1 rfl) ?_
  refine lv_iload_n hx hb d_Arrays_checkLength_1 rfl (lv_at hl 0 rfl) ?_
  refine lv_icmp_ge (tgt := 37) hx hb d_Arrays_checkLength_2 (by decide) (fun c1 => ?_) (fun z => absurd (nI_le hi hj) z)
  exact mq_vret hQ C X hr hlk rfl (by omega) (by omega) d_Arrays_checkLength_37
