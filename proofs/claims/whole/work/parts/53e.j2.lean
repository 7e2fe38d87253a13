theorem d_String_coder_0 : decode prog_20_method_152_code 0 = .ok (.getstatic 38, 3) := by decide +kernel
theorem d_String_coder_3 : decode prog_20_method_152_code 3 = .ok (.ifCond .eq 10, 3) := by decide +kernel
theorem d_String_coder_6 : decode prog_20_method_152_code 6 = .ok (.aload_n 0, 1) := by decide +kernel
theorem d_String_coder_7 : decode prog_20_method_152_code 7 = .ok (.getfield 15, 3) := by decide +kernel
theorem d_String_coder_10 : decode prog_20_method_152_code 10 = .ok (.goto 4, 3) := by decide +kernel
theorem d_String_coder_14 : decode prog_20_method_152_code 14 = .ok (.ireturn, 1) := by decide +kernel
set_option maxRecDepth 100000 in
set_option maxHeartbeats 4000000 in
theorem cm_String_coder {l : Launch} {S0 : State} {b : Nat} {D : va_G} {dT : Nat → ClassId} (hE : vEnv S0 b D dT) {dE mO : Nat} (hJ : vJ S0 dE mO) {h0 : vH} {a av : Nat} {v2 v3 : Value} (ka : h0 a = some (.inr (0, [.ref av, .int 0, v2, v3]))) : vMi l S0 D vcl GT y_String_coder prog_20_method_152_code 1 (some .byte) 0 0 0 0 [.ref a] h0 (fun r h' => h' = h0 ∧ r = 0) := by
  unfold vMi
  refine vM_ofQ hE.1 (by decide) (Nat.le_of_ble_eq_true rfl) (fun p e s m args below meth c ls Q hQ C hr hlk hnm X hl => ?_)
  have C : vC p s m _ c _ _ "java/lang/String" GT D vcl (vty dT) := C
  have hx := C.1.1
  have hb := C.1.2.1
  obtain ⟨H, eH⟩ : ∃ z, z = s.heap := ⟨_, rfl⟩
  obtain ⟨locs, elocs⟩ : ∃ z : List Loc, z = [] := ⟨_, rfl⟩
  rw [← eH, ← elocs] at X
  rw [← eH, ← elocs]
  clear eH elocs
  have hl : lv_has ls 1 [(0, .ref a)] := hl
  refine mv_gets C X hJ.1 (gt_2 123 (by decide +kernel) rfl) rfl d_String_coder_0 ?_
  refine lv_if_eq (tgt := 13) hx hb d_String_coder_3 (by decide) (fun z => absurd z (by decide)) (fun c1 => ?_)
  refine lv_aload_n hx hb d_String_coder_6 rfl (lv_at hl 0 rfl) ?_
  refine mv_get C X ka 1 f_17_15_0 (v := .int 0) rfl d_String_coder_7 ?_
  refine lv_goto (tgt := 14) hx hb d_String_coder_10 (by decide) ?_
  exact mq_iret hQ C X hr rfl hlk (⟨rfl, rfl⟩) (by omega) (by omega) d_String_coder_14
theorem d_String_isLatin1_0 : decode prog_20_method_154_code 0 = .ok (.getstatic 38, 3) := by decide +kernel
theorem d_String_isLatin1_3 : decode prog_20_method_154_code 3 = .ok (.ifCond .eq 14, 3) := by decide +kernel
theorem d_String_isLatin1_6 : decode prog_20_method_154_code 6 = .ok (.aload_n 0, 1) := by decide +kernel
theorem d_String_isLatin1_7 : decode prog_20_method_154_code 7 = .ok (.getfield 15, 3) := by decide +kernel
theorem d_String_isLatin1_10 : decode prog_20_method_154_code 10 = .ok (.ifCond .ne 7, 3) := by decide +kernel
theorem d_String_isLatin1_13 : decode prog_20_method_154_code 13 = .ok (.iconst 1, 1) := by decide +kernel
theorem d_String_isLatin1_14 : decode prog_20_method_154_code 14 = .ok (.goto 4, 3) := by decide +kernel
theorem d_String_isLatin1_18 : decode prog_20_method_154_code 18 = .ok (.ireturn, 1) := by decide +kernel
set_option maxRecDepth 100000 in
set_option maxHeartbeats 4000000 in
theorem cm_String_isLatin1 {l : Launch} {S0 : State} {b : Nat} {D : va_G} {dT : Nat → ClassId} (hE : vEnv S0 b D dT) {dE mO : Nat} (hJ : vJ S0 dE mO) {h0 : vH} {a av : Nat} {v2 v3 : Value} (ka : h0 a = some (.inr (0, [.ref av, .int 0, v2, v3]))) : vMi l S0 D vcl GT y_String_isLatin1 prog_20_method_154_code 1 (some .boolean) 0 0 0 0 [.ref a] h0 (fun r h' => h' = h0 ∧ r = 1) := by
  unfold vMi
  refine vM_ofQ hE.1 (by decide) (Nat.le_of_ble_eq_true rfl) (fun p e s m args below meth c ls Q hQ C hr hlk hnm X hl => ?_)
  have C : vC p s m _ c _ _ "java/lang/String" GT D vcl (vty dT) := C
  have hx := C.1.1
  have hb := C.1.2.1
  obtain ⟨H, eH⟩ : ∃ z, z = s.heap := ⟨_, rfl⟩
  obtain ⟨locs, elocs⟩ : ∃ z : List Loc, z = [] := ⟨_, rfl⟩
  rw [← eH, ← elocs] at X
  rw [← eH, ← elocs]
  clear eH elocs
  have hl : lv_has ls 1 [(0, .ref a)] := hl
  refine mv_gets C X hJ.1 (gt_2 123 (by decide +kernel) rfl) rfl d_String_isLatin1_0 ?_
  refine lv_if_eq (tgt := 17) hx hb d_String_isLatin1_3 (by decide) (fun z => absurd z (by decide)) (fun c1 => ?_)
  refine lv_aload_n hx hb d_String_isLatin1_6 rfl (lv_at hl 0 rfl) ?_
  refine mv_get C X ka 1 f_17_15_0 (v := .int 0) rfl d_String_isLatin1_7 ?_
  refine lv_if_ne (tgt := 17) hx hb d_String_isLatin1_10 (by decide) (fun z => absurd z (fun q => q rfl)) (fun c2 => ?_)
  refine lv_iconst (v := 1) hx hb d_String_isLatin1_13 (by decide) ?_
  refine lv_goto (tgt := 18) hx hb d_String_isLatin1_14 (by decide) ?_
  exact mq_iret hQ C X hr rfl hlk (⟨rfl, rfl⟩) (by omega) (by omega) d_String_isLatin1_18
theorem d_String_length_0 : decode prog_20_method_54_code 0 = .ok (.aload_n 0, 1) := by decide +kernel
theorem d_String_length_1 : decode prog_20_method_54_code 1 = .ok (.getfield 9, 3) := by decide +kernel
theorem d_String_length_4 : decode prog_20_method_54_code 4 = .ok (.arraylength, 1) := by decide +kernel
theorem d_String_length_5 : decode prog_20_method_54_code 5 = .ok (.aload_n 0, 1) := by decide +kernel
theorem d_String_length_6 : decode prog_20_method_54_code 6 = .ok (.invokevirtual 335, 3) := by decide +kernel
theorem d_String_length_9 : decode prog_20_method_54_code 9 = .ok (.ishr, 1) := by decide +kernel
theorem d_String_length_10 : decode prog_20_method_54_code 10 = .ok (.ireturn, 1) := by decide +kernel
set_option maxRecDepth 100000 in
set_option maxHeartbeats 4000000 in
theorem cm_String_length {l : Launch} {S0 : State} {b : Nat} {D : va_G} {dT : Nat → ClassId} (hE : vEnv S0 b D dT) {dE mO : Nat} (hJ : vJ S0 dE mO) {h0 : vH} {a av n : Nat} {v2 v3 : Value} {f : Nat → Int32} (hn : n < 2 ^ 31) (ka : h0 a = some (.inr (0, [.ref av, .int 0, v2, v3]))) (kv : h0 av = some (.inl (dT 2, n, .inl f))) : vMi l S0 D vcl GT y_String_length prog_20_method_54_code 1 (some .int) 1 20 0 0 [.ref a] h0 (fun r h' => h' = h0 ∧ r = nI n) := by
  unfold vMi
  refine vM_ofQ hE.1 (by decide) (Nat.le_of_ble_eq_true rfl) (fun p e s m args below meth c ls Q hQ C hr hlk hnm X hl => ?_)
  have C : vC p s m _ c _ _ "java/lang/String" GT D vcl (vty dT) := C
  have hx := C.1.1
  have hb := C.1.2.1
  obtain ⟨H, eH⟩ : ∃ z, z = s.heap := ⟨_, rfl⟩
  obtain ⟨locs, elocs⟩ : ∃ z : List Loc, z = [] := ⟨_, rfl⟩
  rw [← eH, ← elocs] at X
  rw [← eH, ← elocs]
  clear eH elocs
  have hl : lv_has ls 1 [(0, .ref a)] := hl
  refine lv_aload_n hx hb d_String_length_0 rfl (lv_at hl 0 rfl) ?_
  refine mv_get C X ka 0 f_17_9_0 (v := .ref av) rfl d_String_length_1 ?_
  refine mv_alen C X kv 2 rfl d_String_length_4 ?_
  refine lv_aload_n hx hb d_String_length_5 rfl (lv_at hl 0 rfl) ?_
  refine mv_bi X (mv_rV (rest := [.int (nI n)]) (As := []) gt_good C X k_17_335 (cm_String_coder hE hJ ka) ka rfl rfl ⟨Nat.le_of_ble_eq_true rfl, Nat.le_of_ble_eq_true rfl⟩ rfl hl.1 rfl (Nat.le_of_ble_eq_true rfl) d_String_length_6 ⟨Nat.zero_le _, Nat.zero_le _⟩) (fun r1 hN H locs hp X => ?_)
  obtain ⟨eh, er⟩ := hp
  replace eh := eh.symm
  replace er := er.symm
  subst eh er
  refine lv_ishr hx hb d_String_length_9 ?_
  exact mq_iret hQ C X hr rfl hlk (⟨rfl, sb_shr0 _⟩) (by omega) (by omega) d_String_length_10
theorem d_StringLatin1_charAt_0 : decode prog_22_method_2_code 0 = .ok (.iload_n 1, 1) := by decide +kernel
theorem d_StringLatin1_charAt_1 : decode prog_22_method_2_code 1 = .ok (.aload_n 0, 1) := by decide +kernel
theorem d_StringLatin1_charAt_2 : decode prog_22_method_2_code 2 = .ok (.arraylength, 1) := by decide +kernel
theorem d_StringLatin1_charAt_3 : decode prog_22_method_2_code 3 = .ok (.invokestatic 9, 3) := by decide +kernel
theorem d_StringLatin1_charAt_6 : decode prog_22_method_2_code 6 = .ok (.aload_n 0, 1) := by decide +kernel
theorem d_StringLatin1_charAt_7 : decode prog_22_method_2_code 7 = .ok (.iload_n 1, 1) := by decide +kernel
theorem d_StringLatin1_charAt_8 : decode prog_22_method_2_code 8 = .ok (.baload, 1) := by decide +kernel
theorem d_StringLatin1_charAt_9 : decode prog_22_method_2_code 9 = .ok (.sipush 255, 3) := by decide +kernel
theorem d_StringLatin1_charAt_12 : decode prog_22_method_2_code 12 = .ok (.iand, 1) := by decide +kernel
theorem d_StringLatin1_charAt_13 : decode prog_22_method_2_code 13 = .ok (.i2c, 1) := by decide +kernel
theorem d_StringLatin1_charAt_14 : decode prog_22_method_2_code 14 = .ok (.ireturn, 1) := by decide +kernel
set_option maxRecDepth 100000 in
set_option maxHeartbeats 4000000 in
theorem cm_StringLatin1_charAt {l : Launch} {S0 : State} {b : Nat} {D : va_G} {dT : Nat → ClassId} (hE : vEnv S0 b D dT) {dE mO : Nat} (hJ : vJ S0 dE mO) {h0 : vH} {av n j c0 : Nat} {f : Nat → Int32} (hn : n < 2 ^ 31) (hj : j < n) (hf : f j = nI c0) (hc : c0 < 128) (kv : h0 av = some (.inl (dT 2, n, .inl f))) : vMi l S0 D vcl GT y_StringLatin1_charAt prog_22_method_2_code 2 (some .char) 2 43 0 0 [.ref av, .int (nI j)] h0 (fun r h' => h' = h0 ∧ r = nI c0) := by
  unfold vMi
  refine vM_ofQ hE.1 (by decide) (Nat.le_of_ble_eq_true rfl) (fun p e s m args below meth c ls Q hQ C hr hlk hnm X hl => ?_)
  have C : vC p s m _ c _ _ "java/lang/StringLatin1" GT D vcl (vty dT) := C
  have hx := C.1.1
  have hb := C.1.2.1
  obtain ⟨H, eH⟩ : ∃ z, z = s.heap := ⟨_, rfl⟩
  obtain ⟨locs, elocs⟩ : ∃ z : List Loc, z = [] := ⟨_, rfl⟩
  rw [← eH, ← elocs] at X
  rw [← eH, ← elocs]
  clear eH elocs
  have hl : lv_has ls 2 [(0, .ref av), (1, .int (nI j))] := hl
  refine lv_iload_n hx hb d_StringLatin1_charAt_0 rfl (lv_at hl 1 rfl) ?_
  refine lv_aload_n hx hb d_StringLatin1_charAt_1 rfl (lv_at hl 0 rfl) ?_
  refine mv_alen C X kv 2 rfl d_StringLatin1_charAt_2 ?_
  refine mv_bv X (mv_rS (rest := []) (As := [.int (nI j), .int (nI n)]) gt_good C X k_19_9 (cm_String_checkIndex hE hJ hj hn) ⟨Nat.le_of_ble_eq_true rfl, Nat.le_of_ble_eq_true rfl⟩ rfl hl.1 rfl (Nat.le_of_ble_eq_true rfl) d_StringLatin1_charAt_3 ⟨Nat.zero_le _, Nat.zero_le _⟩) (fun hN H locs hp X => ?_)
  replace hp := hp.symm
  subst hp
  refine lv_aload_n hx hb d_StringLatin1_charAt_6 rfl (lv_at hl 0 rfl) ?_
  refine lv_iload_n hx hb d_StringLatin1_charAt_7 rfl (lv_at hl 1 rfl) ?_
  refine mv_bald C X kv 2 rfl j rfl hj hn d_StringLatin1_charAt_8 ?_
  refine lv_sipush (v := 255) hx hb d_StringLatin1_charAt_9 (by decide) ?_
  refine lv_iand hx hb d_StringLatin1_charAt_12 ?_
  refine lv_i2c (v := ((((f j) &&& 255) : Int32).toUInt32 % 65536).toInt32) hx hb d_StringLatin1_charAt_13 rfl ?_
  exact mq_iret hQ C X hr (pk_nc _) hlk (⟨rfl, by rw [hf]; exact ch_n hc⟩) (by omega) (by omega) d_StringLatin1_charAt_14
theorem d_String_charAt_0 : decode prog_20_method_56_code 0 = .ok (.aload_n 0, 1) := by decide +kernel
theorem d_String_charAt_1 : decode prog_20_method_56_code 1 = .ok (.invokevirtual 492, 3) := by decide +kernel
theorem d_String_charAt_4 : decode prog_20_method_56_code 4 = .ok (.ifCond .eq 12, 3) := by decide +kernel
theorem d_String_charAt_7 : decode prog_20_method_56_code 7 = .ok (.aload_n 0, 1) := by decide +kernel
theorem d_String_charAt_8 : decode prog_20_method_56_code 8 = .ok (.getfield 9, 3) := by decide +kernel
theorem d_String_charAt_11 : decode prog_20_method_56_code 11 = .ok (.iload_n 1, 1) := by decide +kernel
theorem d_String_charAt_12 : decode prog_20_method_56_code 12 = .ok (.invokestatic 495, 3) := by decide +kernel
theorem d_String_charAt_15 : decode prog_20_method_56_code 15 = .ok (.ireturn, 1) := by decide +kernel
set_option maxRecDepth 100000 in
set_option maxHeartbeats 4000000 in
theorem cm_String_charAt {l : Launch} {S0 : State} {b : Nat} {D : va_G} {dT : Nat → ClassId} (hE : vEnv S0 b D dT) {dE mO : Nat} (hJ : vJ S0 dE mO) {h0 : vH} {a av n : Nat} {v2 v3 : Value} {f : Nat → Int32} (hn : n < 2 ^ 31) {j c0 : Nat} (hj : j < n) (hf : f j = nI c0) (hc : c0 < 128) (ka : h0 a = some (.inr (0, [.ref av, .int 0, v2, v3]))) (kv : h0 av = some (.inl (dT 2, n, .inl f))) : vMi l S0 D vcl GT y_String_charAt prog_20_method_56_code 2 (some .char) 3 64 0 0 [.ref a, .int (nI j)] h0 (fun r h' => h' = h0 ∧ r = nI c0) := by
  unfold vMi
  refine vM_ofQ hE.1 (by decide) (Nat.le_of_ble_eq_true rfl) (fun p e s m args below meth c ls Q hQ C hr hlk hnm X hl => ?_)
  have C : vC p s m _ c _ _ "java/lang/String" GT D vcl (vty dT) := C
  have hx := C.1.1
  have hb := C.1.2.1
  obtain ⟨H, eH⟩ : ∃ z, z = s.heap := ⟨_, rfl⟩
  obtain ⟨locs, elocs⟩ : ∃ z : List Loc, z = [] := ⟨_, rfl⟩
  rw [← eH, ← elocs] at X
  rw [← eH, ← elocs]
  clear eH elocs
  have hl : lv_has ls 2 [(0, .ref a), (1, .int (nI j))] := hl
  refine lv_aload_n hx hb d_String_charAt_0 rfl (lv_at hl 0 rfl) ?_
  refine mv_bi X (mv_rV (rest := []) (As := []) gt_good C X k_17_492 (cm_String_isLatin1 hE hJ ka) ka rfl rfl ⟨Nat.le_of_ble_eq_true rfl, Nat.le_of_ble_eq_true rfl⟩ rfl hl.1 rfl (Nat.le_of_ble_eq_true rfl) d_String_charAt_1 ⟨Nat.zero_le _, Nat.zero_le _⟩) (fun r1 hN H locs hp X => ?_)
  obtain ⟨eh, er⟩ := hp
  replace eh := eh.symm
  replace er := er.symm
  subst eh er
  refine lv_if_eq (tgt := 16) hx hb d_String_charAt_4 (by decide) (fun z => absurd z (by decide)) (fun c2 => ?_)
  refine lv_aload_n hx hb d_String_charAt_7 rfl (lv_at hl 0 rfl) ?_
  refine mv_get C X ka 0 f_17_9_0 (v := .ref av) rfl d_String_charAt_8 ?_
  refine lv_iload_n hx hb d_String_charAt_11 rfl (lv_at hl 1 rfl) ?_
  refine mv_bi X (mv_rS (rest := []) (As := [.ref av, .int (nI j)]) gt_good C X k_17_495 (cm_StringLatin1_charAt hE hJ hn hj hf hc kv) ⟨Nat.le_of_ble_eq_true rfl, Nat.le_of_ble_eq_true rfl⟩ rfl hl.1 rfl (Nat.le_of_ble_eq_true rfl) d_String_charAt_12 ⟨Nat.zero_le _, Nat.zero_le _⟩) (fun r3 hN H locs hp X => ?_)
  obtain ⟨eh, er⟩ := hp
  replace eh := eh.symm
  replace er := er.symm
  subst eh er
  exact mq_iret hQ C X hr (pk_charN (by omega)).1 hlk (⟨rfl, rfl⟩) (by omega) (by omega) d_String_charAt_15
theorem d_Arrays_copyOfRangeByte_0 : decode prog_28_method_133_code 0 = .ok (.iload_n 1, 1) := by decide +kernel
theorem d_Arrays_copyOfRangeByte_1 : decode prog_28_method_133_code 1 = .ok (.iload_n 2, 1) := by decide +kernel
theorem d_Arrays_copyOfRangeByte_2 : decode prog_28_method_133_code 2 = .ok (.invokestatic 343, 3) := by decide +kernel
theorem d_Arrays_copyOfRangeByte_5 : decode prog_28_method_133_code 5 = .ok (.iload_n 2, 1) := by decide +kernel
theorem d_Arrays_copyOfRangeByte_6 : decode prog_28_method_133_code 6 = .ok (.iload_n 1, 1) := by decide +kernel
theorem d_Arrays_copyOfRangeByte_7 : decode prog_28_method_133_code 7 = .ok (.isub, 1) := by decide +kernel
theorem d_Arrays_copyOfRangeByte_8 : decode prog_28_method_133_code 8 = .ok (.istore_n 3, 1) := by decide +kernel
theorem d_Arrays_copyOfRangeByte_9 : decode prog_28_method_133_code 9 = .ok (.iload_n 3, 1) := by decide +kernel
theorem d_Arrays_copyOfRangeByte_10 : decode prog_28_method_133_code 10 = .ok (.newarray .byte, 2) := by decide +kernel
theorem d_Arrays_copyOfRangeByte_12 : decode prog_28_method_133_code 12 = .ok (.astore 4, 2) := by decide +kernel
theorem d_Arrays_copyOfRangeByte_14 : decode prog_28_method_133_code 14 = .ok (.aload_n 0, 1) := by decide +kernel
theorem d_Arrays_copyOfRangeByte_15 : decode prog_28_method_133_code 15 = .ok (.iload_n 1, 1) := by decide +kernel
theorem d_Arrays_copyOfRangeByte_16 : decode prog_28_method_133_code 16 = .ok (.aload 4, 2) := by decide +kernel
theorem d_Arrays_copyOfRangeByte_18 : decode prog_28_method_133_code 18 = .ok (.iconst 0, 1) := by decide +kernel
theorem d_Arrays_copyOfRangeByte_19 : decode prog_28_method_133_code 19 = .ok (.aload_n 0, 1) := by decide +kernel
theorem d_Arrays_copyOfRangeByte_20 : decode prog_28_method_133_code 20 = .ok (.arraylength, 1) := by decide +kernel
theorem d_Arrays_copyOfRangeByte_21 : decode prog_28_method_133_code 21 = .ok (.iload_n 1, 1) := by decide +kernel
theorem d_Arrays_copyOfRangeByte_22 : decode prog_28_method_133_code 22 = .ok (.isub, 1) := by decide +kernel
theorem d_Arrays_copyOfRangeByte_23 : decode prog_28_method_133_code 23 = .ok (.iload_n 3, 1) := by decide +kernel
theorem d_Arrays_copyOfRangeByte_24 : decode prog_28_method_133_code 24 = .ok (.invokestatic 304, 3) := by decide +kernel
theorem d_Arrays_copyOfRangeByte_27 : decode prog_28_method_133_code 27 = .ok (.invokestatic 150, 3) := by decide +kernel
theorem d_Arrays_copyOfRangeByte_30 : decode prog_28_method_133_code 30 = .ok (.aload 4, 2) := by decide +kernel
theorem d_Arrays_copyOfRangeByte_32 : decode prog_28_method_133_code 32 = .ok (.areturn, 1) := by decide +kernel
set_option maxRecDepth 100000 in
set_option maxHeartbeats 4000000 in
theorem cm_Arrays_copyOfRangeByte {l : Launch} {S0 : State} {b : Nat} {D : va_G} {dT : Nat → ClassId} (hE : vEnv S0 b D dT) {h0 : vH} {av n i0 j0 : Nat} {f : Nat → Int32} (hij : i0 ≤ j0) (hj : j0 ≤ n) (hn : n < 2 ^ 20) (hf : fitB f n) (kv : h0 av = some (.inl (dT 2, n, .inl f))) (wv : S0.heap.size ≤ av) : vMq l S0 D vcl GT y_Arrays_copyOfRangeByte prog_28_method_133_code 5 (some (.array .byte)) 1 30 1 (j0 - i0) [.ref av, .int (nI i0), .int (nI j0)] h0 (fun r h' => ∃ q g, r = some q ∧ h0 q = none ∧ S0.heap.size ≤ q ∧ h' = vup h0 q (.inl (dT 2, (j0 - i0), .inl g)) ∧ fitB g (j0 - i0) ∧ ∀ k, k < j0 - i0 → g k = f (i0 + k)) := by
  unfold vMq
  refine vM_ofQ hE.1 (by decide) (Nat.le_of_ble_eq_true rfl) (fun p e s m args below meth c ls Q hQ C hr hlk hnm X hl => ?_)
  have C : vC p s m _ c _ _ "java/util/Arrays" GT D vcl (vty dT) := C
  have hx := C.1.1
  have hb := C.1.2.1
  obtain ⟨H, eH⟩ : ∃ z, z = s.heap := ⟨_, rfl⟩
  obtain ⟨locs, elocs⟩ : ∃ z : List Loc, z = [] := ⟨_, rfl⟩
  rw [← eH, ← elocs] at X
  rw [← eH, ← elocs]
  clear eH elocs
  have hl : lv_has ls 5 [(0, .ref av), (1, .int (nI i0)), (2, .int (nI j0))] := hl
  refine lv_iload_n hx hb d_Arrays_copyOfRangeByte_0 rfl (lv_at hl 1 rfl) ?_
  refine lv_iload_n hx hb d_Arrays_copyOfRangeByte_1 rfl (lv_at hl 2 rfl) ?_
  refine mv_bv X (mv_rS (rest := []) (As := [.int (nI i0), .int (nI j0)]) gt_good C X k_24_343 (cm_Arrays_checkLength hE hij (by omega)) ⟨Nat.le_of_ble_eq_true rfl, Nat.le_of_ble_eq_true rfl⟩ rfl hl.1 rfl (Nat.le_of_ble_eq_true rfl) d_Arrays_copyOfRangeByte_2 ⟨Nat.zero_le _, Nat.zero_le _⟩) (fun hN H locs hp X => ?_)
  replace hp := hp.symm
  subst hp
  refine lv_iload_n hx hb d_Arrays_copyOfRangeByte_5 rfl (lv_at hl 2 rfl) ?_
  refine lv_iload_n hx hb d_Arrays_copyOfRangeByte_6 rfl (lv_at hl 1 rfl) ?_
  refine lv_isub hx hb d_Arrays_copyOfRangeByte_7 ?_
  rw [nI_sub hij]
  refine lv_istore_n (lv' := [(3, .int (nI (j0 - i0))), (0, .ref av), (1, .int (nI i0)), (2, .int (nI j0))]) hx hb d_Arrays_copyOfRangeByte_8 rfl hl (by decide) rfl (fun ls hl => ?_)
  refine lv_iload_n hx hb d_Arrays_copyOfRangeByte_9 rfl (lv_at hl 0 rfl) ?_
  refine mv_newa C X (gt_1 68 (by decide +kernel) rfl) (ty := .byte) rfl 2 rfl (j0 - i0) (a0 := ((j0 - i0), .inl (fun _ => 0))) (fun _ => rfl) rfl (by omega) (by show (j0 - i0) * 1 ≤ _; omega) (by show 0 + 1 ≤ 1; omega) (by show 0 + (j0 - i0) ≤ (j0 - i0); omega) d_Arrays_copyOfRangeByte_10 (fun q2 H z_q2 w_q2 X => ?_)
  have n_av_q2 : av ≠ q2 := vnf kv z_q2
  have X : vO S0 D vcl (vup h0 q2 (.inl (dT 2, (j0 - i0), .inl (fun _ => 0)))) s H locs := X
  refine lv_astore (lv' := [(4, .ref q2), (3, .int (nI (j0 - i0))), (0, .ref av), (1, .int (nI i0)), (2, .int (nI j0))]) hx hb d_Arrays_copyOfRangeByte_12 hl (by decide) rfl (fun ls hl => ?_)
  refine lv_aload_n hx hb d_Arrays_copyOfRangeByte_14 rfl (lv_at hl 2 rfl) ?_
  refine lv_iload_n hx hb d_Arrays_copyOfRangeByte_15 rfl (lv_at hl 3 rfl) ?_
  refine lv_aload hx hb d_Arrays_copyOfRangeByte_16 (lv_at hl 0 rfl) ?_
  refine lv_iconst (v := 0) hx hb d_Arrays_copyOfRangeByte_18 (by decide) ?_
  refine lv_aload_n hx hb d_Arrays_copyOfRangeByte_19 rfl (lv_at hl 2 rfl) ?_
  refine mv_alen C X ((vup_n _ _ n_av_q2).trans kv) 2 rfl d_Arrays_copyOfRangeByte_20 ?_
  refine lv_iload_n hx hb d_Arrays_copyOfRangeByte_21 rfl (lv_at hl 3 rfl) ?_
  refine lv_isub hx hb d_Arrays_copyOfRangeByte_22 ?_
  refine lv_iload_n hx hb d_Arrays_copyOfRangeByte_23 rfl (lv_at hl 1 rfl) ?_
  refine va_mmin hx hb (by rw [C.1.2.2.1, hl.1]) C.1.2.2.2.1 (C.1.2.2.2.2 _ (gt_2 31 (by decide +kernel) rfl)) (C.1.2.2.2.2 _ (gt_2 32 (by decide +kernel) rfl)) (C.1.2.2.2.2 _ (gt_1 15 (by decide +kernel) rfl)) (C.1.2.2.2.2 _ (gt_2 33 (rfl) rfl)) (Nat.le_of_ble_eq_true rfl) (Nat.le_of_ble_eq_true rfl) (by show (0 + 1) ≤ 1; omega) (by show (0 + (j0 - i0)) ≤ (j0 - i0); omega) d_Arrays_copyOfRangeByte_24 ?_
  rw [nI_sub (a := n) (b := i0) (by omega), show (if nI (j0 - i0) < nI (n - i0) then nI (j0 - i0) else nI (n - i0)) = nI (j0 - i0) by
      by_cases z : j0 - i0 < n - i0
      · rw [if_pos (nI_lt z (by omega))]
      · rw [if_neg (nI_nlt (by omega) (by omega)), show n - i0 = j0 - i0 by omega]]
  refine mv_copyi C X hl.1 ⟨gt_2 34 (by decide +kernel) rfl, gt_2 36 (by decide +kernel) rfl, gt_2 35 (by decide +kernel) rfl, gt_1 17 (by decide +kernel) rfl⟩ ((vup_n _ _ n_av_q2).trans kv) wv (vup_s _ _ _) w_q2 2 rfl rfl i0 0 (j0 - i0) rfl rfl rfl (by omega) (by omega) (by omega) (by omega) (fun i hi => hf _ (by omega)) (Nat.le_of_ble_eq_true rfl) (Nat.le_of_ble_eq_true rfl) d_Arrays_copyOfRangeByte_27 (fun H locs X => ?_)
  rw [vup_u] at X
  have X : vO S0 D vcl (vup h0 q2 (.inl (dT 2, (j0 - i0), .inl (va_cpy f (fun _ => 0) i0 0 (j0 - i0))))) s H locs := X
  refine lv_aload hx hb d_Arrays_copyOfRangeByte_30 (lv_at hl 0 rfl) ?_
  exact mq_aret (r := some q2) hQ C X hr (Or.inr ⟨_, rfl⟩) hlk (⟨q2, _, rfl, z_q2, w_q2, rfl, fun k hk => by rw [pk_cpy_in (Nat.zero_le _) (by omega), Nat.sub_zero]; exact hf _ (by omega), fun k hk => by rw [pk_cpy_in (Nat.zero_le _) (by omega), Nat.sub_zero]⟩) (by omega) (by omega) d_Arrays_copyOfRangeByte_32
theorem d_Arrays_copyOfRange_0 : decode prog_28_method_132_code 0 = .ok (.iload_n 1, 1) := by decide +kernel
theorem d_Arrays_copyOfRange_1 : decode prog_28_method_132_code 1 = .ok (.ifCond .ne 9, 3) := by decide +kernel
theorem d_Arrays_copyOfRange_4 : decode prog_28_method_132_code 4 = .ok (.iload_n 2, 1) := by decide +kernel
theorem d_Arrays_copyOfRange_5 : decode prog_28_method_132_code 5 = .ok (.aload_n 0, 1) := by decide +kernel
theorem d_Arrays_copyOfRange_6 : decode prog_28_method_132_code 6 = .ok (.arraylength, 1) := by decide +kernel
theorem d_Arrays_copyOfRange_7 : decode prog_28_method_132_code 7 = .ok (.if_icmp .eq 10, 3) := by decide +kernel
theorem d_Arrays_copyOfRange_10 : decode prog_28_method_132_code 10 = .ok (.aload_n 0, 1) := by decide +kernel
theorem d_Arrays_copyOfRange_11 : decode prog_28_method_132_code 11 = .ok (.iload_n 1, 1) := by decide +kernel
theorem d_Arrays_copyOfRange_12 : decode prog_28_method_132_code 12 = .ok (.iload_n 2, 1) := by decide +kernel
theorem d_Arrays_copyOfRange_13 : decode prog_28_method_132_code 13 = .ok (.invokestatic 339, 3) := by decide +kernel
theorem d_Arrays_copyOfRange_16 : decode prog_28_method_132_code 16 = .ok (.areturn, 1) := by decide +kernel
theorem d_Arrays_copyOfRange_17 : decode prog_28_method_132_code 17 = .ok (.aload_n 0, 1) := by decide +kernel
theorem d_Arrays_copyOfRange_18 : decode prog_28_method_132_code 18 = .ok (.invokevirtual 310, 3) := by decide +kernel
theorem d_Arrays_copyOfRange_21 : decode prog_28_method_132_code 21 = .ok (.checkcast 311, 3) := by decide +kernel
theorem d_Arrays_copyOfRange_24 : decode prog_28_method_132_code 24 = .ok (.areturn, 1) := by decide +kernel
set_option maxRecDepth 100000 in
set_option maxHeartbeats 4000000 in
theorem cm_Arrays_copyOfRange {l : Launch} {S0 : State} {b : Nat} {D : va_G} {dT : Nat → ClassId} (hE : vEnv S0 b D dT) {dE mO : Nat} (hJ : vJ S0 dE mO) {h0 : vH} {av n i0 j0 : Nat} {f : Nat → Int32} (hij : i0 ≤ j0) (hj : j0 ≤ n) (hn : n < 2 ^ 20) (hf : fitB f n) (kv : h0 av = some (.inl (dT 2, n, .inl f))) (wv : S0.heap.size ≤ av) : vMq l S0 D vcl GT y_Arrays_copyOfRange prog_28_method_132_code 3 (some (.array .byte)) 2 54 1 (j0 - i0) [.ref av, .int (nI i0), .int (nI j0)] h0 (fun r h' => ∃ q g, r = some q ∧ h0 q = none ∧ S0.heap.size ≤ q ∧ h' = vup h0 q (.inl (dT 2, (j0 - i0), .inl g)) ∧ fitB g (j0 - i0) ∧ ∀ k, k < j0 - i0 → g k = f (i0 + k)) := by
  unfold vMq
  refine vM_ofQ hE.1 (by decide) (Nat.le_of_ble_eq_true rfl) (fun p e s m args below meth c ls Q hQ C hr hlk hnm X hl => ?_)
  have C : vC p s m _ c _ _ "java/util/Arrays" GT D vcl (vty dT) := C
  have hx := C.1.1
  have hb := C.1.2.1
  obtain ⟨H, eH⟩ : ∃ z, z = s.heap := ⟨_, rfl⟩
  obtain ⟨locs, elocs⟩ : ∃ z : List Loc, z = [] := ⟨_, rfl⟩
  rw [← eH, ← elocs] at X
  rw [← eH, ← elocs]
  clear eH elocs
  have hl : lv_has ls 3 [(0, .ref av), (1, .int (nI i0)), (2, .int (nI j0))] := hl
  refine lv_iload_n hx hb d_Arrays_copyOfRange_0 rfl (lv_at hl 1 rfl) ?_
  refine lv_if_ne (tgt := 10) hx hb d_Arrays_copyOfRange_1 (by decide) (fun c1 => ?_) (fun c1 => ?_)
  · skip
    refine lv_aload_n hx hb d_Arrays_copyOfRange_10 rfl (lv_at hl 0 rfl) ?_
    refine lv_iload_n hx hb d_Arrays_copyOfRange_11 rfl (lv_at hl 1 rfl) ?_
    refine lv_iload_n hx hb d_Arrays_copyOfRange_12 rfl (lv_at hl 2 rfl) ?_
    refine mv_bq X (mv_rS (rest := []) (As := [.ref av, .int (nI i0), .int (nI j0)]) gt_good C X k_24_339 (cm_Arrays_copyOfRangeByte hE hij hj hn hf kv wv) ⟨Nat.le_of_ble_eq_true rfl, Nat.le_of_ble_eq_true rfl⟩ rfl hl.1 rfl (Nat.le_of_ble_eq_true rfl) d_Arrays_copyOfRange_13 ⟨by show 0 + 1 ≤ 1; omega, by show 0 + (j0 - i0) ≤ (j0 - i0); omega⟩) (fun r2 hN H locs hp X => ?_)
    obtain ⟨q, g, er, zq, wq, eh, fg, eg⟩ := hp
    subst er
    have hq : ∃ q2 g, some q = some q2 ∧ h0 q2 = none ∧ S0.heap.size ≤ q2 ∧ hN = vup h0 q2 (.inl (dT 2, (j0 - i0), .inl g)) ∧ fitB g (j0 - i0) ∧ ∀ k, k < j0 - i0 → g k = f (i0 + k) := ⟨q, g, rfl, zq, wq, eh, fg, eg⟩
    change W _ _ _ _ _ _ _ _ _ _ _ _ _ _ _ (F0 _ _ _ (.ref q :: _))
    exact mq_aret (r := some q) hQ C X hr (Or.inr ⟨_, rfl⟩) hlk hq (by omega) (by omega) d_Arrays_copyOfRange_16
  · skip
    refine lv_iload_n hx hb d_Arrays_copyOfRange_4 rfl (lv_at hl 2 rfl) ?_
    refine lv_aload_n hx hb d_Arrays_copyOfRange_5 rfl (lv_at hl 0 rfl) ?_
    refine mv_alen C X kv 2 rfl d_Arrays_copyOfRange_6 ?_
    refine lv_icmp_eq (tgt := 17) hx hb d_Arrays_copyOfRange_7 (by decide) (fun c3 => ?_) (fun c3 => ?_)
    · skip
      have i00 : i0 = 0 := nI_eqI (by omega) (by decide) c1
      have jn : j0 = n := nI_eqI (by omega) (by omega) c3
      refine lv_aload_n hx hb d_Arrays_copyOfRange_17 rfl (lv_at hl 0 rfl) ?_
      refine mv_cloneB C X hl.1 ⟨gt_2 24 (by decide +kernel) rfl, gt_2 25 (by decide +kernel) rfl, gt_2 26 (by decide +kernel) rfl, gt_2 27 (by decide +kernel) rfl, gt_2 28 (by decide +kernel) rfl⟩ hJ.2.2.2.1 kv wv 2 rfl hf (Nat.le_of_ble_eq_true rfl) (Nat.le_of_ble_eq_true rfl) (by show 0 + 1 ≤ 1; omega) (by show 0 + n ≤ (j0 - i0); omega) d_Arrays_copyOfRange_18 (fun q4 H z_q4 w_q4 X => ?_)
      have n_av_q4 : av ≠ q4 := vnf kv z_q4
      have X : vO S0 D vcl (vup h0 q4 (.inl (dT 2, n, .inl f))) s H locs := X
      refine mv_castB C X (vup_s _ _ _) w_q4 2 rfl (gt_2 30 (by decide +kernel) rfl) d_Arrays_copyOfRange_21 ?_
      exact mq_aret (r := some q4) hQ C X hr (Or.inr ⟨_, rfl⟩) hlk (⟨q4, f, rfl, z_q4, w_q4, by rw [show j0 - i0 = n by omega], fun k hk => hf k (by omega), fun k hk => by rw [show i0 = 0 by omega, Nat.zero_add]⟩) (by omega) (by omega) d_Arrays_copyOfRange_24
    · skip
      refine lv_aload_n hx hb d_Arrays_copyOfRange_10 rfl (lv_at hl 0 rfl) ?_
      refine lv_iload_n hx hb d_Arrays_copyOfRange_11 rfl (lv_at hl 1 rfl) ?_
      refine lv_iload_n hx hb d_Arrays_copyOfRange_12 rfl (lv_at hl 2 rfl) ?_
      refine mv_bq X (mv_rS (rest := []) (As := [.ref av, .int (nI i0), .int (nI j0)]) gt_good C X k_24_339 (cm_Arrays_copyOfRangeByte hE hij hj hn hf kv wv) ⟨Nat.le_of_ble_eq_true rfl, Nat.le_of_ble_eq_true rfl⟩ rfl hl.1 rfl (Nat.le_of_ble_eq_true rfl) d_Arrays_copyOfRange_13 ⟨by show 0 + 1 ≤ 1; omega, by show 0 + (j0 - i0) ≤ (j0 - i0); omega⟩) (fun r5 hN H locs hp X => ?_)
      obtain ⟨q, g, er, zq, wq, eh, fg, eg⟩ := hp
      subst er
      have hq : ∃ q2 g, some q = some q2 ∧ h0 q2 = none ∧ S0.heap.size ≤ q2 ∧ hN = vup h0 q2 (.inl (dT 2, (j0 - i0), .inl g)) ∧ fitB g (j0 - i0) ∧ ∀ k, k < j0 - i0 → g k = f (i0 + k) := ⟨q, g, rfl, zq, wq, eh, fg, eg⟩
      change W _ _ _ _ _ _ _ _ _ _ _ _ _ _ _ (F0 _ _ _ (.ref q :: _))
      exact mq_aret (r := some q) hQ C X hr (Or.inr ⟨_, rfl⟩) hlk hq (by omega) (by omega) d_Arrays_copyOfRange_16
theorem d_String_init_3_0 : decode prog_20_method_151_code 0 = .ok (.aload_n 0, 1) := by decide +kernel
theorem d_String_init_3_1 : decode prog_20_method_151_code 1 = .ok (.invokespecial 1, 3) := by decide +kernel
theorem d_String_init_3_4 : decode prog_20_method_151_code 4 = .ok (.aload_n 0, 1) := by decide +kernel
theorem d_String_init_3_5 : decode prog_20_method_151_code 5 = .ok (.aload_n 1, 1) := by decide +kernel
theorem d_String_init_3_6 : decode prog_20_method_151_code 6 = .ok (.putfield 9, 3) := by decide +kernel
theorem d_String_init_3_9 : decode prog_20_method_151_code 9 = .ok (.aload_n 0, 1) := by decide +kernel
theorem d_String_init_3_10 : decode prog_20_method_151_code 10 = .ok (.iload_n 2, 1) := by decide +kernel
theorem d_String_init_3_11 : decode prog_20_method_151_code 11 = .ok (.putfield 15, 3) := by decide +kernel
theorem d_String_init_3_14 : decode prog_20_method_151_code 14 = .ok (.return_, 1) := by decide +kernel
set_option maxRecDepth 100000 in
set_option maxHeartbeats 4000000 in
theorem cm_String_init_3 {l : Launch} {S0 : State} {b : Nat} {D : va_G} {dT : Nat → ClassId} (hE : vEnv S0 b D dT) {h0 : vH} {a bv : Nat} (ka : h0 a = some (.inr (0, [.null, .int 0, .int 0, .int 0]))) (wa : S0.heap.size ≤ a) : vMv l S0 D vcl GT y_String_init_3 prog_20_method_151_code 3 none 1 12 0 0 [.ref a, .ref bv, .int 0] h0 (fun h' => h' = vup h0 a (.inr (0, [.ref bv, .int 0, .int 0, .int 0]))) := by
  unfold vMv
  refine vM_ofQ hE.1 (by decide) (Nat.le_of_ble_eq_true rfl) (fun p e s m args below meth c ls Q hQ C hr hlk hnm X hl => ?_)
  have C : vC p s m _ c _ _ "java/lang/String" GT D vcl (vty dT) := C
  have hx := C.1.1
  have hb := C.1.2.1
  obtain ⟨H, eH⟩ : ∃ z, z = s.heap := ⟨_, rfl⟩
  obtain ⟨locs, elocs⟩ : ∃ z : List Loc, z = [] := ⟨_, rfl⟩
  rw [← eH, ← elocs] at X
  rw [← eH, ← elocs]
  clear eH elocs
  have hl : lv_has ls 3 [(0, .ref a), (1, .ref bv), (2, .int 0)] := hl
  refine lv_aload_n hx hb d_String_init_3_0 rfl (lv_at hl 0 rfl) ?_
  refine mv_obj C hl.1 ⟨gt_2 106 (by decide +kernel) rfl, gt_1 34 (by decide +kernel) rfl, gt_1 35 (rfl) rfl⟩ (Nat.le_of_ble_eq_true rfl) (Nat.le_of_ble_eq_true rfl) d_String_init_3_1 ?_
  refine lv_aload_n hx hb d_String_init_3_4 rfl (lv_at hl 0 rfl) ?_
  refine lv_aload_n hx hb d_String_init_3_5 rfl (lv_at hl 1 rfl) ?_
  refine mv_putF C X ka wa 0 hnm p_17_9_0 rfl rfl (Nat.le_of_ble_eq_true rfl) d_String_init_3_6 (fun H locs X => ?_)
  have X : vO S0 D vcl (vup h0 a (.inr (0, [.ref bv, .int 0, .int 0, .int 0]))) s H locs := X
  refine lv_aload_n hx hb d_String_init_3_9 rfl (lv_at hl 0 rfl) ?_
  refine lv_iload_n hx hb d_String_init_3_10 rfl (lv_at hl 2 rfl) ?_
  refine mv_putF C X (vup_s _ _ _) wa 1 hnm p_17_15_0 rfl rfl (Nat.le_of_ble_eq_true rfl) d_String_init_3_11 (fun H locs X => ?_)
  rw [vup_u] at X
  have X : vO S0 D vcl (vup h0 a (.inr (0, [.ref bv, .int 0, .int 0, .int 0]))) s H locs := X
  exact mq_vret hQ C X hr hlk rfl (by omega) (by omega) d_String_init_3_14
theorem d_StringLatin1_newString_0 : decode prog_22_method_47_code 0 = .ok (.iload_n 2, 1) := by decide +kernel
theorem d_StringLatin1_newString_1 : decode prog_22_method_47_code 1 = .ok (.ifCond .ne 6, 3) := by decide +kernel
theorem d_StringLatin1_newString_7 : decode prog_22_method_47_code 7 = .ok (.new 1, 3) := by decide +kernel
theorem d_StringLatin1_newString_10 : decode prog_22_method_47_code 10 = .ok (.dup, 1) := by decide +kernel
theorem d_StringLatin1_newString_11 : decode prog_22_method_47_code 11 = .ok (.aload_n 0, 1) := by decide +kernel
theorem d_StringLatin1_newString_12 : decode prog_22_method_47_code 12 = .ok (.iload_n 1, 1) := by decide +kernel
theorem d_StringLatin1_newString_13 : decode prog_22_method_47_code 13 = .ok (.iload_n 1, 1) := by decide +kernel
theorem d_StringLatin1_newString_14 : decode prog_22_method_47_code 14 = .ok (.iload_n 2, 1) := by decide +kernel
theorem d_StringLatin1_newString_15 : decode prog_22_method_47_code 15 = .ok (.iadd, 1) := by decide +kernel
theorem d_StringLatin1_newString_16 : decode prog_22_method_47_code 16 = .ok (.invokestatic 232, 3) := by decide +kernel
theorem d_StringLatin1_newString_19 : decode prog_22_method_47_code 19 = .ok (.iconst 0, 1) := by decide +kernel
theorem d_StringLatin1_newString_20 : decode prog_22_method_47_code 20 = .ok (.invokespecial 112, 3) := by decide +kernel
theorem d_StringLatin1_newString_23 : decode prog_22_method_47_code 23 = .ok (.areturn, 1) := by decide +kernel
set_option maxRecDepth 100000 in
set_option maxHeartbeats 4000000 in
theorem cm_StringLatin1_newString {l : Launch} {S0 : State} {b : Nat} {D : va_G} {dT : Nat → ClassId} (hE : vEnv S0 b D dT) {dE mO : Nat} (hJ : vJ S0 dE mO) {h0 : vH} {av n i0 j0 : Nat} {f : Nat → Int32} (hij : i0 < j0) (hj : j0 ≤ n) (hn : n < 2 ^ 20) (hf : fitB f n) (kv : h0 av = some (.inl (dT 2, n, .inl f))) (wv : S0.heap.size ≤ av) : vMq l S0 D vcl GT y_StringLatin1_newString prog_22_method_47_code 3 (some (.object "java/lang/String")) 3 76 2 (4 + (j0 - i0)) [.ref av, .int (nI i0), .int (nI (j0 - i0))] h0 (fun r h' => ∃ q qa u2 u3 g, r = some q ∧ vfx (fun _ => False) h0 h' ∧ (h' q = some (.inr (0, [.ref qa, .int 0, u2, u3])) ∧ h' qa = some (.inl (dT 2, j0 - i0, .inl g))) ∧ (0 < i0 → h0 q = none ∧ h0 qa = none) ∧ ∀ k, k < j0 - i0 → g k = f (i0 + k)) := by
  unfold vMq
  refine vM_ofQ hE.1 (by decide) (Nat.le_of_ble_eq_true rfl) (fun p e s m args below meth c ls Q hQ C hr hlk hnm X hl => ?_)
  have C : vC p s m _ c _ _ "java/lang/StringLatin1" GT D vcl (vty dT) := C
  have hx := C.1.1
  have hb := C.1.2.1
  obtain ⟨H, eH⟩ : ∃ z, z = s.heap := ⟨_, rfl⟩
  obtain ⟨locs, elocs⟩ : ∃ z : List Loc, z = [] := ⟨_, rfl⟩
  rw [← eH, ← elocs] at X
  rw [← eH, ← elocs]
  clear eH elocs
  have hl : lv_has ls 3 [(0, .ref av), (1, .int (nI i0)), (2, .int (nI (j0 - i0)))] := hl
  refine lv_iload_n hx hb d_StringLatin1_newString_0 rfl (lv_at hl 2 rfl) ?_
  refine lv_if_ne (tgt := 7) hx hb d_StringLatin1_newString_1 (by decide) (fun c1 => ?_) (fun z => absurd z (nI_ne0 (by omega) (by omega)))
  refine mv_new C X n_19_1 (by show 0 + 1 ≤ 2; omega) (by show 0 + 4 ≤ (4 + (j0 - i0)); omega) d_StringLatin1_newString_7 (fun q2 H z_q2 w_q2 X => ?_)
  have n_av_q2 : av ≠ q2 := vnf kv z_q2
  have X : vO S0 D vcl (vup h0 q2 (.inr (0, [.null, .int 0, .int 0, .int 0]))) s H locs := X
  change W _ _ _ _ _ _ _ _ _ _ _ _ (0 + 1) (0 + 4) _ _
  refine lv_dup hx hb d_StringLatin1_newString_10 rfl ?_
  refine lv_aload_n hx hb d_StringLatin1_newString_11 rfl (lv_at hl 0 rfl) ?_
  refine lv_iload_n hx hb d_StringLatin1_newString_12 rfl (lv_at hl 1 rfl) ?_
  refine lv_iload_n hx hb d_StringLatin1_newString_13 rfl (lv_at hl 1 rfl) ?_
  refine lv_iload_n hx hb d_StringLatin1_newString_14 rfl (lv_at hl 2 rfl) ?_
  refine lv_iadd hx hb d_StringLatin1_newString_15 ?_
  rw [nI_add, show i0 + (j0 - i0) = j0 by omega]
  refine mv_bq X (mv_rS (rest := [.ref q2, .ref q2]) (As := [.ref av, .int (nI i0), .int (nI j0)]) gt_good C X k_19_232 (cm_Arrays_copyOfRange hE hJ (Nat.le_of_lt hij) hj hn hf ((vup_n _ _ n_av_q2).trans kv) wv) ⟨Nat.le_of_ble_eq_true rfl, Nat.le_of_ble_eq_true rfl⟩ rfl hl.1 rfl (Nat.le_of_ble_eq_true rfl) d_StringLatin1_newString_16 ⟨by show (0 + 1) + 1 ≤ 2; omega, by show (0 + 4) + (j0 - i0) ≤ (4 + (j0 - i0)); omega⟩) (fun r3 hN H locs hp X => ?_)
  obtain ⟨qa, g, er, zq, wq, eh, fg, eg⟩ := hp
  subst er
  replace eh := eh.symm
  subst eh
  change W _ _ _ _ _ _ _ _ _ _ _ _ _ _ _ (F0 _ _ _ (.ref qa :: _))
  have n_av_qa : av ≠ qa := vnf ((vup_n _ _ n_av_q2).trans kv) zq
  have n_q2_qa : q2 ≠ qa := vnf (vup_s _ _ _) zq
  refine lv_iconst (v := 0) hx hb d_StringLatin1_newString_19 (by decide) ?_
  refine mv_bv X (mv_rI (rest := [.ref q2]) (As := [.ref qa, .int 0]) gt_good C X k_19_112 (cm_String_init_3 hE ((vup_n _ _ n_q2_qa).trans (vup_s _ _ _)) w_q2) ⟨Nat.le_of_ble_eq_true rfl, Nat.le_of_ble_eq_true rfl⟩ rfl hl.1 rfl (Nat.le_of_ble_eq_true rfl) d_StringLatin1_newString_20 ⟨by show ((0 + 1) + 1) + 0 ≤ 2; omega, by show ((0 + 4) + (j0 - i0)) + 0 ≤ (4 + (j0 - i0)); omega⟩) (fun hN H locs hp X => ?_)
  replace hp := hp.symm
  subst hp
  exact mq_aret (r := some q2) hQ C X hr (Or.inl ⟨_, rfl⟩) hlk (⟨q2, qa, _, _, g, rfl, ((vfx.rf.new1 z_q2).new1 zq).new z_q2, ⟨vup_s _ _ _, ((vup_n _ _ (Ne.symm n_q2_qa)).trans (vup_s _ _ _))⟩, fun _ => ⟨z_q2, (vfx.rf.new1 z_q2).non zq⟩, eg⟩) (by omega) (by omega) d_StringLatin1_newString_23
theorem d_String_substring_0 : decode prog_20_method_92_code 0 = .ok (.aload_n 0, 1) := by decide +kernel
theorem d_String_substring_1 : decode prog_20_method_92_code 1 = .ok (.invokevirtual 505, 3) := by decide +kernel
theorem d_String_substring_4 : decode prog_20_method_92_code 4 = .ok (.istore_n 3, 1) := by decide +kernel
theorem d_String_substring_5 : decode prog_20_method_92_code 5 = .ok (.iload_n 1, 1) := by decide +kernel
theorem d_String_substring_6 : decode prog_20_method_92_code 6 = .ok (.iload_n 2, 1) := by decide +kernel
theorem d_String_substring_7 : decode prog_20_method_92_code 7 = .ok (.iload_n 3, 1) := by decide +kernel
theorem d_String_substring_8 : decode prog_20_method_92_code 8 = .ok (.invokestatic 521, 3) := by decide +kernel
theorem d_String_substring_11 : decode prog_20_method_92_code 11 = .ok (.iload_n 1, 1) := by decide +kernel
theorem d_String_substring_12 : decode prog_20_method_92_code 12 = .ok (.ifCond .ne 10, 3) := by decide +kernel
theorem d_String_substring_15 : decode prog_20_method_92_code 15 = .ok (.iload_n 2, 1) := by decide +kernel
theorem d_String_substring_16 : decode prog_20_method_92_code 16 = .ok (.iload_n 3, 1) := by decide +kernel
theorem d_String_substring_17 : decode prog_20_method_92_code 17 = .ok (.if_icmp .ne 5, 3) := by decide +kernel
theorem d_String_substring_20 : decode prog_20_method_92_code 20 = .ok (.aload_n 0, 1) := by decide +kernel
theorem d_String_substring_21 : decode prog_20_method_92_code 21 = .ok (.areturn, 1) := by decide +kernel
theorem d_String_substring_22 : decode prog_20_method_92_code 22 = .ok (.iload_n 2, 1) := by decide +kernel
theorem d_String_substring_23 : decode prog_20_method_92_code 23 = .ok (.iload_n 1, 1) := by decide +kernel
theorem d_String_substring_24 : decode prog_20_method_92_code 24 = .ok (.isub, 1) := by decide +kernel
theorem d_String_substring_25 : decode prog_20_method_92_code 25 = .ok (.istore 4, 2) := by decide +kernel
theorem d_String_substring_27 : decode prog_20_method_92_code 27 = .ok (.aload_n 0, 1) := by decide +kernel
theorem d_String_substring_28 : decode prog_20_method_92_code 28 = .ok (.invokevirtual 492, 3) := by decide +kernel
theorem d_String_substring_31 : decode prog_20_method_92_code 31 = .ok (.ifCond .eq 16, 3) := by decide +kernel
theorem d_String_substring_34 : decode prog_20_method_92_code 34 = .ok (.aload_n 0, 1) := by decide +kernel
theorem d_String_substring_35 : decode prog_20_method_92_code 35 = .ok (.getfield 9, 3) := by decide +kernel
theorem d_String_substring_38 : decode prog_20_method_92_code 38 = .ok (.iload_n 1, 1) := by decide +kernel
theorem d_String_substring_39 : decode prog_20_method_92_code 39 = .ok (.iload 4, 2) := by decide +kernel
theorem d_String_substring_41 : decode prog_20_method_92_code 41 = .ok (.invokestatic 685, 3) := by decide +kernel
theorem d_String_substring_44 : decode prog_20_method_92_code 44 = .ok (.goto 13, 3) := by decide +kernel
theorem d_String_substring_57 : decode prog_20_method_92_code 57 = .ok (.areturn, 1) := by decide +kernel
set_option maxRecDepth 100000 in
set_option maxHeartbeats 4000000 in
theorem cm_String_substring {l : Launch} {S0 : State} {b : Nat} {D : va_G} {dT : Nat → ClassId} (hE : vEnv S0 b D dT) {dE mO : Nat} (hJ : vJ S0 dE mO) {h0 : vH} {a av n i0 j0 : Nat} {v2 v3 : Value} {f : Nat → Int32} (hij : i0 < j0) (hj : j0 ≤ n) (hn : n < 2 ^ 20) (hf : fitB f n) (ka : h0 a = some (.inr (0, [.ref av, .int 0, v2, v3]))) (kv : h0 av = some (.inl (dT 2, n, .inl f))) (wv : S0.heap.size ≤ av) : vMq l S0 D vcl GT y_String_substring prog_20_method_92_code 5 (some (.object "java/lang/String")) 4 98 2 (4 + (j0 - i0)) [.ref a, .int (nI i0), .int (nI j0)] h0 (fun r h' => ∃ q qa u2 u3 g, r = some q ∧ vfx (fun _ => False) h0 h' ∧ (h' q = some (.inr (0, [.ref qa, .int 0, u2, u3])) ∧ h' qa = some (.inl (dT 2, j0 - i0, .inl g))) ∧ (0 < i0 → h0 q = none ∧ h0 qa = none) ∧ ∀ k, k < j0 - i0 → g k = f (i0 + k)) := by
  unfold vMq
  refine vM_ofQ hE.1 (by decide) (Nat.le_of_ble_eq_true rfl) (fun p e s m args below meth c ls Q hQ C hr hlk hnm X hl => ?_)
  have C : vC p s m _ c _ _ "java/lang/String" GT D vcl (vty dT) := C
  have hx := C.1.1
  have hb := C.1.2.1
  obtain ⟨H, eH⟩ : ∃ z, z = s.heap := ⟨_, rfl⟩
  obtain ⟨locs, elocs⟩ : ∃ z : List Loc, z = [] := ⟨_, rfl⟩
  rw [← eH, ← elocs] at X
  rw [← eH, ← elocs]
  clear eH elocs
  have hl : lv_has ls 5 [(0, .ref a), (1, .int (nI i0)), (2, .int (nI j0))] := hl
  refine lv_aload_n hx hb d_String_substring_0 rfl (lv_at hl 0 rfl) ?_
  refine mv_bi X (mv_rV (rest := []) (As := []) gt_good C X k_17_505 (cm_String_length hE hJ (by omega) ka kv) ka rfl rfl ⟨Nat.le_of_ble_eq_true rfl, Nat.le_of_ble_eq_true rfl⟩ rfl hl.1 rfl (Nat.le_of_ble_eq_true rfl) d_String_substring_1 ⟨Nat.zero_le _, Nat.zero_le _⟩) (fun r1 hN H locs hp X => ?_)
  obtain ⟨eh, er⟩ := hp
  replace eh := eh.symm
  replace er := er.symm
  subst eh er
  refine lv_istore_n (lv' := [(3, .int (nI n)), (0, .ref a), (1, .int (nI i0)), (2, .int (nI j0))]) hx hb d_String_substring_4 rfl hl (by decide) rfl (fun ls hl => ?_)
  refine lv_iload_n hx hb d_String_substring_5 rfl (lv_at hl 2 rfl) ?_
  refine lv_iload_n hx hb d_String_substring_6 rfl (lv_at hl 3 rfl) ?_
  refine lv_iload_n hx hb d_String_substring_7 rfl (lv_at hl 0 rfl) ?_
  refine mv_bv X (mv_rS (rest := []) (As := [.int (nI i0), .int (nI j0), .int (nI n)]) gt_good C X k_17_521 (cm_String_checkBoundsBeginEnd hE hJ (Nat.le_of_lt hij) hj (by omega)) ⟨Nat.le_of_ble_eq_true rfl, Nat.le_of_ble_eq_true rfl⟩ rfl hl.1 rfl (Nat.le_of_ble_eq_true rfl) d_String_substring_8 ⟨Nat.zero_le _, Nat.zero_le _⟩) (fun hN H locs hp X => ?_)
  replace hp := hp.symm
  subst hp
  refine lv_iload_n hx hb d_String_substring_11 rfl (lv_at hl 2 rfl) ?_
  refine lv_if_ne (tgt := 22) hx hb d_String_substring_12 (by decide) (fun c3 => ?_) (fun c3 => ?_)
  · skip
    refine lv_iload_n hx hb d_String_substring_22 rfl (lv_at hl 3 rfl) ?_
    refine lv_iload_n hx hb d_String_substring_23 rfl (lv_at hl 2 rfl) ?_
    refine lv_isub hx hb d_String_substring_24 ?_
    rw [nI_sub (by omega)]
    refine lv_istore (lv' := [(4, .int (nI (j0 - i0))), (3, .int (nI n)), (0, .ref a), (1, .int (nI i0)), (2, .int (nI j0))]) hx hb d_String_substring_25 hl (by decide) rfl (fun ls hl => ?_)
    refine lv_aload_n hx hb d_String_substring_27 rfl (lv_at hl 2 rfl) ?_
    refine mv_bi X (mv_rV (rest := []) (As := []) gt_good C X k_17_492 (cm_String_isLatin1 hE hJ ka) ka rfl rfl ⟨Nat.le_of_ble_eq_true rfl, Nat.le_of_ble_eq_true rfl⟩ rfl hl.1 rfl (Nat.le_of_ble_eq_true rfl) d_String_substring_28 ⟨Nat.zero_le _, Nat.zero_le _⟩) (fun r4 hN H locs hp X => ?_)
    obtain ⟨eh, er⟩ := hp
    replace eh := eh.symm
    replace er := er.symm
    subst eh er
    refine lv_if_eq (tgt := 47) hx hb d_String_substring_31 (by decide) (fun z => absurd z (by decide)) (fun c5 => ?_)
    refine lv_aload_n hx hb d_String_substring_34 rfl (lv_at hl 2 rfl) ?_
    refine mv_get C X ka 0 f_17_9_0 (v := .ref av) rfl d_String_substring_35 ?_
    refine lv_iload_n hx hb d_String_substring_38 rfl (lv_at hl 3 rfl) ?_
    refine lv_iload hx hb d_String_substring_39 (lv_at hl 0 rfl) ?_
    refine mv_bq X (mv_rS (rest := []) (As := [.ref av, .int (nI i0), .int (nI (j0 - i0))]) gt_good C X k_17_685 (cm_StringLatin1_newString hE hJ hij hj hn hf kv wv) ⟨Nat.le_of_ble_eq_true rfl, Nat.le_of_ble_eq_true rfl⟩ rfl hl.1 rfl (Nat.le_of_ble_eq_true rfl) d_String_substring_41 ⟨by show 0 + 2 ≤ 2; omega, by show 0 + (4 + (j0 - i0)) ≤ (4 + (j0 - i0)); omega⟩) (fun r6 hN H locs hp X => ?_)
    obtain ⟨q, qa, u2, u3, g, er, fr, hs, hz, eg⟩ := hp
    subst er
    change W _ _ _ _ _ _ _ _ _ _ _ _ _ _ _ (F0 _ _ _ (.ref q :: _))
    refine lv_goto (tgt := 57) hx hb d_String_substring_44 (by decide) ?_
    exact mq_aret (r := some q) hQ C X hr (Or.inl ⟨_, rfl⟩) hlk (⟨q, qa, u2, u3, g, rfl, fr, hs, hz, eg⟩) (by omega) (by omega) d_String_substring_57
  · skip
    refine lv_iload_n hx hb d_String_substring_15 rfl (lv_at hl 3 rfl) ?_
    refine lv_iload_n hx hb d_String_substring_16 rfl (lv_at hl 0 rfl) ?_
    refine lv_icmp_ne (tgt := 22) hx hb d_String_substring_17 (by decide) (fun c7 => ?_) (fun c7 => ?_)
    · skip
      refine lv_iload_n hx hb d_String_substring_22 rfl (lv_at hl 3 rfl) ?_
      refine lv_iload_n hx hb d_String_substring_23 rfl (lv_at hl 2 rfl) ?_
      refine lv_isub hx hb d_String_substring_24 ?_
      rw [nI_sub (by omega)]
      refine lv_istore (lv' := [(4, .int (nI (j0 - i0))), (3, .int (nI n)), (0, .ref a), (1, .int (nI i0)), (2, .int (nI j0))]) hx hb d_String_substring_25 hl (by decide) rfl (fun ls hl => ?_)
      refine lv_aload_n hx hb d_String_substring_27 rfl (lv_at hl 2 rfl) ?_
      refine mv_bi X (mv_rV (rest := []) (As := []) gt_good C X k_17_492 (cm_String_isLatin1 hE hJ ka) ka rfl rfl ⟨Nat.le_of_ble_eq_true rfl, Nat.le_of_ble_eq_true rfl⟩ rfl hl.1 rfl (Nat.le_of_ble_eq_true rfl) d_String_substring_28 ⟨Nat.zero_le _, Nat.zero_le _⟩) (fun r8 hN H locs hp X => ?_)
      obtain ⟨eh, er⟩ := hp
      replace eh := eh.symm
      replace er := er.symm
      subst eh er
      refine lv_if_eq (tgt := 47) hx hb d_String_substring_31 (by decide) (fun z => absurd z (by decide)) (fun c9 => ?_)
      refine lv_aload_n hx hb d_String_substring_34 rfl (lv_at hl 2 rfl) ?_
      refine mv_get C X ka 0 f_17_9_0 (v := .ref av) rfl d_String_substring_35 ?_
      refine lv_iload_n hx hb d_String_substring_38 rfl (lv_at hl 3 rfl) ?_
      refine lv_iload hx hb d_String_substring_39 (lv_at hl 0 rfl) ?_
      refine mv_bq X (mv_rS (rest := []) (As := [.ref av, .int (nI i0), .int (nI (j0 - i0))]) gt_good C X k_17_685 (cm_StringLatin1_newString hE hJ hij hj hn hf kv wv) ⟨Nat.le_of_ble_eq_true rfl, Nat.le_of_ble_eq_true rfl⟩ rfl hl.1 rfl (Nat.le_of_ble_eq_true rfl) d_String_substring_41 ⟨by show 0 + 2 ≤ 2; omega, by show 0 + (4 + (j0 - i0)) ≤ (4 + (j0 - i0)); omega⟩) (fun r10 hN H locs hp X => ?_)
      obtain ⟨q, qa, u2, u3, g, er, fr, hs, hz, eg⟩ := hp
      subst er
      change W _ _ _ _ _ _ _ _ _ _ _ _ _ _ _ (F0 _ _ _ (.ref q :: _))
      refine lv_goto (tgt := 57) hx hb d_String_substring_44 (by decide) ?_
      exact mq_aret (r := some q) hQ C X hr (Or.inl ⟨_, rfl⟩) hlk (⟨q, qa, u2, u3, g, rfl, fr, hs, hz, eg⟩) (by omega) (by omega) d_String_substring_57
    · skip
      have i00 : i0 = 0 := nI_eqI (by omega) (by decide) c3
      have jn : j0 = n := nI_eqI (by omega) (by omega) c7
      refine lv_aload_n hx hb d_String_substring_20 rfl (lv_at hl 1 rfl) ?_
      exact mq_aret (r := some a) hQ C X hr (Or.inl ⟨_, rfl⟩) hlk (⟨a, av, v2, v3, f, rfl, vfx.rf, ⟨ka, by rw [show j0 - i0 = n by omega]; exact kv⟩, fun z => absurd i00 (by omega), fun k hk => by rw [show i0 = 0 by omega, Nat.zero_add]⟩) (by omega) (by omega) d_String_substring_21
theorem d_StringLatin1_equals_0 : decode prog_22_method_13_code 0 = .ok (.aload_n 0, 1) := by decide +kernel
theorem d_StringLatin1_equals_1 : decode prog_22_method_13_code 1 = .ok (.arraylength, 1) := by decide +kernel
theorem d_StringLatin1_equals_2 : decode prog_22_method_13_code 2 = .ok (.aload_n 1, 1) := by decide +kernel
theorem d_StringLatin1_equals_3 : decode prog_22_method_13_code 3 = .ok (.arraylength, 1) := by decide +kernel
theorem d_StringLatin1_equals_4 : decode prog_22_method_13_code 4 = .ok (.if_icmp .ne 30, 3) := by decide +kernel
theorem d_StringLatin1_equals_7 : decode prog_22_method_13_code 7 = .ok (.iconst 0, 1) := by decide +kernel
theorem d_StringLatin1_equals_8 : decode prog_22_method_13_code 8 = .ok (.istore_n 2, 1) := by decide +kernel
theorem d_StringLatin1_equals_9 : decode prog_22_method_13_code 9 = .ok (.iload_n 2, 1) := by decide +kernel
theorem d_StringLatin1_equals_10 : decode prog_22_method_13_code 10 = .ok (.aload_n 0, 1) := by decide +kernel
theorem d_StringLatin1_equals_11 : decode prog_22_method_13_code 11 = .ok (.arraylength, 1) := by decide +kernel
theorem d_StringLatin1_equals_12 : decode prog_22_method_13_code 12 = .ok (.if_icmp .ge 20, 3) := by decide +kernel
theorem d_StringLatin1_equals_15 : decode prog_22_method_13_code 15 = .ok (.aload_n 0, 1) := by decide +kernel
theorem d_StringLatin1_equals_16 : decode prog_22_method_13_code 16 = .ok (.iload_n 2, 1) := by decide +kernel
theorem d_StringLatin1_equals_17 : decode prog_22_method_13_code 17 = .ok (.baload, 1) := by decide +kernel
theorem d_StringLatin1_equals_18 : decode prog_22_method_13_code 18 = .ok (.aload_n 1, 1) := by decide +kernel
theorem d_StringLatin1_equals_19 : decode prog_22_method_13_code 19 = .ok (.iload_n 2, 1) := by decide +kernel
theorem d_StringLatin1_equals_20 : decode prog_22_method_13_code 20 = .ok (.baload, 1) := by decide +kernel
theorem d_StringLatin1_equals_21 : decode prog_22_method_13_code 21 = .ok (.if_icmp .eq 5, 3) := by decide +kernel
theorem d_StringLatin1_equals_24 : decode prog_22_method_13_code 24 = .ok (.iconst 0, 1) := by decide +kernel
theorem d_StringLatin1_equals_25 : decode prog_22_method_13_code 25 = .ok (.ireturn, 1) := by decide +kernel
theorem d_StringLatin1_equals_26 : decode prog_22_method_13_code 26 = .ok (.iinc 2 1, 3) := by decide +kernel
theorem d_StringLatin1_equals_29 : decode prog_22_method_13_code 29 = .ok (.goto (-20), 3) := by decide +kernel
theorem d_StringLatin1_equals_32 : decode prog_22_method_13_code 32 = .ok (.iconst 1, 1) := by decide +kernel
theorem d_StringLatin1_equals_33 : decode prog_22_method_13_code 33 = .ok (.ireturn, 1) := by decide +kernel
theorem d_StringLatin1_equals_34 : decode prog_22_method_13_code 34 = .ok (.iconst 0, 1) := by decide +kernel
theorem d_StringLatin1_equals_35 : decode prog_22_method_13_code 35 = .ok (.ireturn, 1) := by decide +kernel
set_option maxRecDepth 100000 in
set_option maxHeartbeats 4000000 in
theorem cm_StringLatin1_equals {l : Launch} {S0 : State} {b : Nat} {D : va_G} {dT : Nat → ClassId} (hE : vEnv S0 b D dT) {h0 : vH} {av aw n n2 : Nat} {f g : Nat → Int32} (hn : n < 2 ^ 30) (hn2 : n2 < 2 ^ 30) (kv : h0 av = some (.inl (dT 2, n, .inl f))) (kw : h0 aw = some (.inl (dT 2, n2, .inl g))) : vMi l S0 D vcl GT y_StringLatin1_equals prog_22_method_13_code 3 (some .boolean) 0 0 0 0 [.ref av, .ref aw] h0 (fun r h' => h' = h0 ∧ r = bI (eqB f n g n2)) := by
  unfold vMi
  refine vM_ofQ hE.1 (by decide) (Nat.le_of_ble_eq_true rfl) (fun p e s m args below meth c ls Q hQ C hr hlk hnm X hl => ?_)
  have C : vC p s m _ c _ _ "java/lang/StringLatin1" GT D vcl (vty dT) := C
  have hx := C.1.1
  have hb := C.1.2.1
  obtain ⟨H, eH⟩ : ∃ z, z = s.heap := ⟨_, rfl⟩
  obtain ⟨locs, elocs⟩ : ∃ z : List Loc, z = [] := ⟨_, rfl⟩
  rw [← eH, ← elocs] at X
  rw [← eH, ← elocs]
  clear eH elocs
  have hl : lv_has ls 3 [(0, .ref av), (1, .ref aw)] := hl
  refine lv_aload_n hx hb d_StringLatin1_equals_0 rfl (lv_at hl 0 rfl) ?_
  refine mv_alen C X kv 2 rfl d_StringLatin1_equals_1 ?_
  refine lv_aload_n hx hb d_StringLatin1_equals_2 rfl (lv_at hl 1 rfl) ?_
  refine mv_alen C X kw 2 rfl d_StringLatin1_equals_3 ?_
  refine lv_icmp_ne (tgt := 34) hx hb d_StringLatin1_equals_4 (by decide) (fun c1 => ?_) (fun c1 => ?_)
  · skip
    refine lv_iconst (v := 0) hx hb d_StringLatin1_equals_34 (by decide) ?_
    exact mq_iret hQ C X hr rfl hlk (⟨rfl, by unfold eqB; rw [decide_eq_false (fun z => c1 (by rw [z]))]; rfl⟩) (by omega) (by omega) d_StringLatin1_equals_35
  · skip
    refine lv_iconst (v := 0) hx hb d_StringLatin1_equals_7 (by decide) ?_
    refine lv_istore_n (lv' := [(2, .int 0), (0, .ref av), (1, .ref aw)]) hx hb d_StringLatin1_equals_8 rfl hl (by decide) rfl (fun ls hl => ?_)
    have lp : ∀ (n_lp : Nat) (k : Nat) (i : Int32) (ls : Array Slot), (i = nI k) → (k ≤ n) → (allB (fun k => decide (f k = g k)) k = true) → (n - k) < n_lp → lv_has ls 3 [(0, .ref av), (1, .ref aw), (2, .int i)] → W p l e (vRm 0 0 0 0) s m args below meth c H locs 0 0 Q (F0 m 9 ls []) := by
      intro n_lp
      induction n_lp with
      | zero => intros; exact absurd (by assumption) (Nat.not_lt_zero _)
      | succ n_lp ih_lp =>
        intro k i ls ei hk ha hmu_lp hl
        refine lv_iload_n hx hb d_StringLatin1_equals_9 rfl (lv_at hl 2 rfl) ?_
        refine lv_aload_n hx hb d_StringLatin1_equals_10 rfl (lv_at hl 0 rfl) ?_
        refine mv_alen C X kv 2 rfl d_StringLatin1_equals_11 ?_
        refine lv_icmp_ge (tgt := 32) hx hb d_StringLatin1_equals_12 (by decide) (fun c2 => ?_) (fun c2 => ?_)
        · skip
          refine lv_iconst (v := 1) hx hb d_StringLatin1_equals_32 (by decide) ?_
          exact mq_iret hQ C X hr rfl hlk (⟨rfl, by
              have nn : n = n2 := nI_eqI (by omega) (by omega) c1
              have : k = n := by
                have := (nI_leI (a := n) (b := k) (by omega) (by omega)).mp (by rw [← ei]; exact c2)
                omega
              unfold eqB; rw [decide_eq_true nn, ← this, ha]; rfl⟩) (by omega) (by omega) d_StringLatin1_equals_33
        · skip
          have hlt : k < n := by
            rcases Nat.lt_or_ge k n with q | q
            · exact q
            · exact absurd (by rw [ei]; exact nI_le q (by omega)) c2
          refine lv_aload_n hx hb d_StringLatin1_equals_15 rfl (lv_at hl 0 rfl) ?_
          refine lv_iload_n hx hb d_StringLatin1_equals_16 rfl (lv_at hl 2 rfl) ?_
          refine mv_bald C X kv 2 rfl k ei hlt (by omega) d_StringLatin1_equals_17 ?_
          refine lv_aload_n hx hb d_StringLatin1_equals_18 rfl (lv_at hl 1 rfl) ?_
          refine lv_iload_n hx hb d_StringLatin1_equals_19 rfl (lv_at hl 2 rfl) ?_
          refine mv_bald C X kw 2 rfl k ei (by have := nI_eqI (a := n) (b := n2) (by omega) (by omega) c1; omega) (by omega) d_StringLatin1_equals_20 ?_
          refine lv_icmp_eq (tgt := 26) hx hb d_StringLatin1_equals_21 (by decide) (fun c3 => ?_) (fun c3 => ?_)
          · skip
            refine lv_iinc (v := (i + 1)) (lv' := [(2, .int (i + 1)), (0, .ref av), (1, .ref aw)]) hx hb d_StringLatin1_equals_26 hl (k := 2) rfl rfl (by decide) rfl (fun ls hl => ?_)
            refine lv_goto (tgt := 9) hx hb d_StringLatin1_equals_29 (by decide) ?_
            exact ih_lp (k + 1) (i + 1) ls  (by rw [ei]; exact nI_1 k) (by omega) (by rw [allB, ha, decide_eq_true c3]; rfl) (by omega) (lv_sub hl [1, 2, 0] rfl)
          · skip
            refine lv_iconst (v := 0) hx hb d_StringLatin1_equals_24 (by decide) ?_
            exact mq_iret hQ C X hr rfl hlk (⟨rfl, by unfold eqB; rw [allB_f (k := k) n hlt (decide_eq_false c3), Bool.and_false]; rfl⟩) (by omega) (by omega) d_StringLatin1_equals_25
    exact lp (n - 0 + 1) 0 0 ls  rfl (by omega) rfl (Nat.lt_succ_self _) (lv_sub hl [1, 2, 0] rfl)
theorem d_String_equals_0 : decode prog_20_method_66_code 0 = .ok (.aload_n 0, 1) := by decide +kernel
theorem d_String_equals_1 : decode prog_20_method_66_code 1 = .ok (.aload_n 1, 1) := by decide +kernel
theorem d_String_equals_2 : decode prog_20_method_66_code 2 = .ok (.if_acmp .ne 5, 3) := by decide +kernel
theorem d_String_equals_5 : decode prog_20_method_66_code 5 = .ok (.iconst 1, 1) := by decide +kernel
theorem d_String_equals_6 : decode prog_20_method_66_code 6 = .ok (.ireturn, 1) := by decide +kernel
theorem d_String_equals_7 : decode prog_20_method_66_code 7 = .ok (.aload_n 1, 1) := by decide +kernel
theorem d_String_equals_8 : decode prog_20_method_66_code 8 = .ok (.instanceof 10, 3) := by decide +kernel
theorem d_String_equals_11 : decode prog_20_method_66_code 11 = .ok (.ifCond .eq 43, 3) := by decide +kernel
theorem d_String_equals_14 : decode prog_20_method_66_code 14 = .ok (.aload_n 1, 1) := by decide +kernel
theorem d_String_equals_15 : decode prog_20_method_66_code 15 = .ok (.checkcast 10, 3) := by decide +kernel
theorem d_String_equals_18 : decode prog_20_method_66_code 18 = .ok (.astore_n 2, 1) := by decide +kernel
theorem d_String_equals_19 : decode prog_20_method_66_code 19 = .ok (.getstatic 38, 3) := by decide +kernel
theorem d_String_equals_22 : decode prog_20_method_66_code 22 = .ok (.ifCond .eq 14, 3) := by decide +kernel
theorem d_String_equals_25 : decode prog_20_method_66_code 25 = .ok (.aload_n 0, 1) := by decide +kernel
theorem d_String_equals_26 : decode prog_20_method_66_code 26 = .ok (.getfield 15, 3) := by decide +kernel
theorem d_String_equals_29 : decode prog_20_method_66_code 29 = .ok (.aload_n 2, 1) := by decide +kernel
theorem d_String_equals_30 : decode prog_20_method_66_code 30 = .ok (.getfield 15, 3) := by decide +kernel
theorem d_String_equals_33 : decode prog_20_method_66_code 33 = .ok (.if_icmp .ne 21, 3) := by decide +kernel
theorem d_String_equals_36 : decode prog_20_method_66_code 36 = .ok (.aload_n 0, 1) := by decide +kernel
theorem d_String_equals_37 : decode prog_20_method_66_code 37 = .ok (.getfield 9, 3) := by decide +kernel
theorem d_String_equals_40 : decode prog_20_method_66_code 40 = .ok (.aload_n 2, 1) := by decide +kernel
theorem d_String_equals_41 : decode prog_20_method_66_code 41 = .ok (.getfield 9, 3) := by decide +kernel
theorem d_String_equals_44 : decode prog_20_method_66_code 44 = .ok (.invokestatic 541, 3) := by decide +kernel
theorem d_String_equals_47 : decode prog_20_method_66_code 47 = .ok (.ifCond .eq 7, 3) := by decide +kernel
theorem d_String_equals_50 : decode prog_20_method_66_code 50 = .ok (.iconst 1, 1) := by decide +kernel
theorem d_String_equals_51 : decode prog_20_method_66_code 51 = .ok (.goto 4, 3) := by decide +kernel
theorem d_String_equals_54 : decode prog_20_method_66_code 54 = .ok (.iconst 0, 1) := by decide +kernel
theorem d_String_equals_55 : decode prog_20_method_66_code 55 = .ok (.ireturn, 1) := by decide +kernel
set_option maxRecDepth 100000 in
set_option maxHeartbeats 4000000 in
theorem cm_String_equals {l : Launch} {S0 : State} {b : Nat} {D : va_G} {dT : Nat → ClassId} (hE : vEnv S0 b D dT) {dE mO : Nat} (hJ : vJ S0 dE mO) {h0 : vH} {a av a2 aw n n2 : Nat} {v2 v3 u2 u3 : Value} {f g : Nat → Int32} (hn : n < 2 ^ 30) (hn2 : n2 < 2 ^ 30) (ka : h0 a = some (.inr (0, [.ref av, .int 0, v2, v3]))) (kv : h0 av = some (.inl (dT 2, n, .inl f))) (ka2 : h0 a2 = some (.inr (0, [.ref aw, .int 0, u2, u3]))) (kw : h0 aw = some (.inl (dT 2, n2, .inl g))) : vMi l S0 D vcl GT y_String_equals prog_20_method_66_code 3 (some .boolean) 1 22 0 0 [.ref a, .ref a2] h0 (fun r h' => h' = h0 ∧ r = bI (eqB f n g n2)) := by
  unfold vMi
  refine vM_ofQ hE.1 (by decide) (Nat.le_of_ble_eq_true rfl) (fun p e s m args below meth c ls Q hQ C hr hlk hnm X hl => ?_)
  have C : vC p s m _ c _ _ "java/lang/String" GT D vcl (vty dT) := C
  have hx := C.1.1
  have hb := C.1.2.1
  obtain ⟨H, eH⟩ : ∃ z, z = s.heap := ⟨_, rfl⟩
  obtain ⟨locs, elocs⟩ : ∃ z : List Loc, z = [] := ⟨_, rfl⟩
  rw [← eH, ← elocs] at X
  rw [← eH, ← elocs]
  clear eH elocs
  have hl : lv_has ls 3 [(0, .ref a), (1, .ref a2)] := hl
  refine lv_aload_n hx hb d_String_equals_0 rfl (lv_at hl 0 rfl) ?_
  refine lv_aload_n hx hb d_String_equals_1 rfl (lv_at hl 1 rfl) ?_
  refine lv_acmp_ne (rx := (some a)) (ry := (some a2)) (tgt := 7) hx hb d_String_equals_2 (by decide) (fun c1 => ?_) (fun c1 => ?_)
  · skip
    refine lv_aload_n hx hb d_String_equals_7 rfl (lv_at hl 1 rfl) ?_
    refine mv_instE C X ka2 rfl rfl (gt_3 23 (by decide +kernel) rfl) d_String_equals_8 ?_
    refine lv_if_eq (tgt := 54) hx hb d_String_equals_11 (by decide) (fun z => absurd z (by decide)) (fun c2 => ?_)
    refine lv_aload_n hx hb d_String_equals_14 rfl (lv_at hl 1 rfl) ?_
    refine mv_castE C X ka2 rfl rfl (gt_3 23 (by decide +kernel) rfl) d_String_equals_15 ?_
    refine lv_astore_n (lv' := [(2, .ref a2), (0, .ref a), (1, .ref a2)]) hx hb d_String_equals_18 rfl hl (by decide) rfl (fun ls hl => ?_)
    refine mv_gets C X hJ.1 (gt_2 123 (by decide +kernel) rfl) rfl d_String_equals_19 ?_
    refine lv_if_eq (tgt := 36) hx hb d_String_equals_22 (by decide) (fun z => absurd z (by decide)) (fun c3 => ?_)
    refine lv_aload_n hx hb d_String_equals_25 rfl (lv_at hl 1 rfl) ?_
    refine mv_get C X ka 1 f_17_15_0 (v := .int 0) rfl d_String_equals_26 ?_
    refine lv_aload_n hx hb d_String_equals_29 rfl (lv_at hl 0 rfl) ?_
    refine mv_get C X ka2 1 f_17_15_0 (v := .int 0) rfl d_String_equals_30 ?_
    refine lv_icmp_ne (tgt := 54) hx hb d_String_equals_33 (by decide) (fun z => absurd z (fun q => q rfl)) (fun c4 => ?_)
    refine lv_aload_n hx hb d_String_equals_36 rfl (lv_at hl 1 rfl) ?_
    refine mv_get C X ka 0 f_17_9_0 (v := .ref av) rfl d_String_equals_37 ?_
    refine lv_aload_n hx hb d_String_equals_40 rfl (lv_at hl 0 rfl) ?_
    refine mv_get C X ka2 0 f_17_9_0 (v := .ref aw) rfl d_String_equals_41 ?_
    refine mv_bi X (mv_rS (rest := []) (As := [.ref av, .ref aw]) gt_good C X k_17_541 (cm_StringLatin1_equals hE hn hn2 kv kw) ⟨Nat.le_of_ble_eq_true rfl, Nat.le_of_ble_eq_true rfl⟩ rfl hl.1 rfl (Nat.le_of_ble_eq_true rfl) d_String_equals_44 ⟨Nat.zero_le _, Nat.zero_le _⟩) (fun r5 hN H locs hp X => ?_)
    obtain ⟨eh, er_eq⟩ := hp
    replace eh := eh.symm
    subst eh
    refine lv_if_eq (tgt := 54) hx hb d_String_equals_47 (by decide) (fun c6 => ?_) (fun c6 => ?_)
    · skip
      refine lv_iconst (v := 0) hx hb d_String_equals_54 (by decide) ?_
      exact mq_iret hQ C X hr rfl hlk (⟨rfl, by rw [er_eq] at c6; rw [bI_0 c6]; rfl⟩) (by omega) (by omega) d_String_equals_55
    · skip
      refine lv_iconst (v := 1) hx hb d_String_equals_50 (by decide) ?_
      refine lv_goto (tgt := 55) hx hb d_String_equals_51 (by decide) ?_
      exact mq_iret hQ C X hr rfl hlk (⟨rfl, by rw [er_eq] at c6; rw [bI_n c6]; rfl⟩) (by omega) (by omega) d_String_equals_55
  · skip
    refine lv_iconst (v := 1) hx hb d_String_equals_5 (by decide) ?_
    exact mq_iret hQ C X hr rfl hlk (⟨rfl, by
        have z : a = a2 := Option.some.inj (c1)
        subst z
        have h1 := Option.some.inj (ka.symm.trans ka2)
        injection h1 with h1
        injection h1 with _ h1
        injection h1 with h1
        injection h1 with h1
        subst h1
        have h2 := Option.some.inj (kv.symm.trans kw)
        injection h2 with h2
        injection h2 with _ h2
        injection h2 with h2 h3
        injection h3 with h3
        subst h2 h3
        rw [eqB_rf]; rfl⟩) (by omega) (by omega) d_String_equals_6
