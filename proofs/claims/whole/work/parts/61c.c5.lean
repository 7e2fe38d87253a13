theorem d_Plan_valueNumbered_0 : decode prog_5_method_4_code 0 = .ok (.iload_n 1, 1) := by decide +kernel
theorem d_Plan_valueNumbered_1 : decode prog_5_method_4_code 1 = .ok (.iconst 1, 1) := by decide +kernel
theorem d_Plan_valueNumbered_2 : decode prog_5_method_4_code 2 = .ok (.if_icmp .lt 30, 3) := by decide +kernel
theorem d_Plan_valueNumbered_5 : decode prog_5_method_4_code 5 = .ok (.iload_n 1, 1) := by decide +kernel
theorem d_Plan_valueNumbered_6 : decode prog_5_method_4_code 6 = .ok (.aload_n 0, 1) := by decide +kernel
theorem d_Plan_valueNumbered_7 : decode prog_5_method_4_code 7 = .ok (.getfield 12, 3) := by decide +kernel
theorem d_Plan_valueNumbered_10 : decode prog_5_method_4_code 10 = .ok (.invokevirtual 35, 3) := by decide +kernel
theorem d_Plan_valueNumbered_13 : decode prog_5_method_4_code 13 = .ok (.if_icmp .gt 19, 3) := by decide +kernel
theorem d_Plan_valueNumbered_16 : decode prog_5_method_4_code 16 = .ok (.aload_n 0, 1) := by decide +kernel
theorem d_Plan_valueNumbered_17 : decode prog_5_method_4_code 17 = .ok (.getfield 12, 3) := by decide +kernel
theorem d_Plan_valueNumbered_20 : decode prog_5_method_4_code 20 = .ok (.iload_n 1, 1) := by decide +kernel
theorem d_Plan_valueNumbered_21 : decode prog_5_method_4_code 21 = .ok (.iconst 1, 1) := by decide +kernel
theorem d_Plan_valueNumbered_22 : decode prog_5_method_4_code 22 = .ok (.isub, 1) := by decide +kernel
theorem d_Plan_valueNumbered_23 : decode prog_5_method_4_code 23 = .ok (.invokevirtual 39, 3) := by decide +kernel
theorem d_Plan_valueNumbered_26 : decode prog_5_method_4_code 26 = .ok (.checkcast 43, 3) := by decide +kernel
theorem d_Plan_valueNumbered_29 : decode prog_5_method_4_code 29 = .ok (.goto 4, 3) := by decide +kernel
theorem d_Plan_valueNumbered_32 : decode prog_5_method_4_code 32 = .ok (.aconst_null, 1) := by decide +kernel
theorem d_Plan_valueNumbered_33 : decode prog_5_method_4_code 33 = .ok (.areturn, 1) := by decide +kernel
set_option maxRecDepth 100000 in
set_option maxHeartbeats 4000000 in
theorem cm_Plan_valueNumbered {l : Launch} {S0 : State} {b : Nat} {D : va_G} {dT : Nat → ClassId} (hE : vEnv S0 b D dT) {h0 : vH} {a vl ea n cap : Nat} {md : Int32} {f : Nat → Option Nat} {g : Nat → Nat} {u2 u3 u4 : Value} {fs : Nat → List Value} (hn : n ≤ cap) (hc : cap < 2 ^ 20) (hf : ∀ k, k < n → f k = some (g k)) {p1 : Int32} (hv : ∀ k, k < n → h0 (g k) = some (.inr (8, fs k))) (ka : h0 a = some (.inr (4, [.ref vl, u2, u3, u4]))) (kl : h0 vl = some (.inr (2, [.ref ea, .int (nI n), .int md]))) (ke : h0 ea = some (.inl (dT 4, cap, .inr (.inr (.inr (.inr f)))))) : vMq l S0 D vcl GT y_Plan_valueNumbered prog_5_method_4_code 2 (some (.object "MenuScreens$Value")) 3 64 0 0 [.ref a, .int p1] h0 (fun r h' => h' = h0 ∧ ((p1 < 1 ∨ nI n < p1) ∧ r = none ∨ ∃ k, k < n ∧ p1 = nI (k + 1) ∧ r = some (g k))) := by
  unfold vMq
  refine vM_ofQ hE.1 (by decide) (Nat.le_of_ble_eq_true rfl) (fun p e s m args below meth c ls Q hQ C hr hlk hnm X hl => ?_)
  have C : vC p s m _ c _ _ "MenuScreens$Plan" GT D vcl (vty dT) := C
  have hx := C.1.1
  have hb := C.1.2.1
  obtain ⟨H, eH⟩ : ∃ z, z = s.heap := ⟨_, rfl⟩
  obtain ⟨locs, elocs⟩ : ∃ z : List Loc, z = [] := ⟨_, rfl⟩
  rw [← eH, ← elocs] at X
  rw [← eH, ← elocs]
  clear eH elocs
  have hl : lv_has ls 2 [(0, .ref a), (1, .int p1)] := hl
  refine lv_iload_n hx hb d_Plan_valueNumbered_0 rfl (lv_at hl 1 rfl) ?_
  refine lv_iconst (v := 1) hx hb d_Plan_valueNumbered_1 (by decide) ?_
  refine lv_icmp_lt (tgt := 32) hx hb d_Plan_valueNumbered_2 (by decide) (fun c1 => ?_) (fun c1 => ?_)
  · skip
    refine lv_null hx hb d_Plan_valueNumbered_32 ?_
    exact mq_aret (r := none) hQ C X hr (Or.inl ⟨_, rfl⟩) hlk (⟨rfl, Or.inl ⟨Or.inl c1, rfl⟩⟩) (by omega) (by omega) d_Plan_valueNumbered_33
  · skip
    refine lv_iload_n hx hb d_Plan_valueNumbered_5 rfl (lv_at hl 1 rfl) ?_
    refine lv_aload_n hx hb d_Plan_valueNumbered_6 rfl (lv_at hl 0 rfl) ?_
    refine mv_get C X ka 0 f_4_12_4 (v := .ref vl) rfl d_Plan_valueNumbered_7 ?_
    refine mv_bi X (mv_rV (rest := [.int p1]) (As := []) gt_good C X k_4_35 (cm_ArrayList_size hE kl) kl rfl rfl ⟨Nat.le_of_ble_eq_true rfl, Nat.le_of_ble_eq_true rfl⟩ rfl hl.1 rfl (Nat.le_of_ble_eq_true rfl) d_Plan_valueNumbered_10 ⟨Nat.zero_le _, Nat.zero_le _⟩) (fun r2 hN H locs hp X => ?_)
    obtain ⟨eh, er⟩ := hp
    replace eh := eh.symm
    replace er := er.symm
    subst eh er
    refine lv_icmp_gt (tgt := 32) hx hb d_Plan_valueNumbered_13 (by decide) (fun c3 => ?_) (fun c3 => ?_)
    · skip
      refine lv_null hx hb d_Plan_valueNumbered_32 ?_
      exact mq_aret (r := none) hQ C X hr (Or.inl ⟨_, rfl⟩) hlk (⟨rfl, Or.inl ⟨Or.inr c3, rfl⟩⟩) (by omega) (by omega) d_Plan_valueNumbered_33
    · skip
      obtain ⟨k1, hk1, hk2, ek0⟩ := ix_le1 c1 (Int32.not_lt.mp c3) (by omega)
      obtain ⟨k, ekk⟩ : ∃ k, k1 = k + 1 := ⟨k1 - 1, by omega⟩
      subst ekk
      have hk : k < n := by omega
      have ek : p1 = nI (k + 1) := ek0
      have ek1 : p1 - 1 = nI k := by rw [ek]; exact nI_sub (b := 1) (by omega)
      refine lv_aload_n hx hb d_Plan_valueNumbered_16 rfl (lv_at hl 0 rfl) ?_
      refine mv_get C X ka 0 f_4_12_4 (v := .ref vl) rfl d_Plan_valueNumbered_17 ?_
      refine lv_iload_n hx hb d_Plan_valueNumbered_20 rfl (lv_at hl 1 rfl) ?_
      refine lv_iconst (v := 1) hx hb d_Plan_valueNumbered_21 (by decide) ?_
      refine lv_isub hx hb d_Plan_valueNumbered_22 ?_
      rw [ek1]
      refine mv_bq X (mv_rV (rest := []) (As := [.int (nI k)]) gt_good C X k_4_39 (cm_ArrayList_get hE hk hn (by omega) kl ke) kl rfl rfl ⟨Nat.le_of_ble_eq_true rfl, Nat.le_of_ble_eq_true rfl⟩ rfl hl.1 rfl (Nat.le_of_ble_eq_true rfl) d_Plan_valueNumbered_23 ⟨Nat.zero_le _, Nat.zero_le _⟩) (fun r4 hN H locs hp X => ?_)
      obtain ⟨eh, er⟩ := hp
      replace eh := eh.symm
      subst eh
      rw [hf k hk] at er
      subst er
      change W _ _ _ _ _ _ _ _ _ _ _ _ _ _ _ (F0 _ _ _ (.ref (g k) :: _))
      refine mv_castE C X (hv k hk) rfl rfl (gt_3 61 (by decide +kernel) rfl) d_Plan_valueNumbered_26 ?_
      refine lv_goto (tgt := 33) hx hb d_Plan_valueNumbered_29 (by decide) ?_
      exact mq_aret (r := some (g k)) hQ C X hr (Or.inl ⟨_, rfl⟩) hlk (⟨rfl, Or.inr ⟨k, hk, ek, rfl⟩⟩) (by omega) (by omega) d_Plan_valueNumbered_33
theorem d_Plan_screenNumbered_0 : decode prog_5_method_6_code 0 = .ok (.iload_n 1, 1) := by decide +kernel
theorem d_Plan_screenNumbered_1 : decode prog_5_method_6_code 1 = .ok (.iconst 1, 1) := by decide +kernel
theorem d_Plan_screenNumbered_2 : decode prog_5_method_6_code 2 = .ok (.if_icmp .lt 30, 3) := by decide +kernel
theorem d_Plan_screenNumbered_5 : decode prog_5_method_6_code 5 = .ok (.iload_n 1, 1) := by decide +kernel
theorem d_Plan_screenNumbered_6 : decode prog_5_method_6_code 6 = .ok (.aload_n 0, 1) := by decide +kernel
theorem d_Plan_screenNumbered_7 : decode prog_5_method_6_code 7 = .ok (.getfield 18, 3) := by decide +kernel
theorem d_Plan_screenNumbered_10 : decode prog_5_method_6_code 10 = .ok (.invokevirtual 35, 3) := by decide +kernel
theorem d_Plan_screenNumbered_13 : decode prog_5_method_6_code 13 = .ok (.if_icmp .gt 19, 3) := by decide +kernel
theorem d_Plan_screenNumbered_16 : decode prog_5_method_6_code 16 = .ok (.aload_n 0, 1) := by decide +kernel
theorem d_Plan_screenNumbered_17 : decode prog_5_method_6_code 17 = .ok (.getfield 18, 3) := by decide +kernel
theorem d_Plan_screenNumbered_20 : decode prog_5_method_6_code 20 = .ok (.iload_n 1, 1) := by decide +kernel
theorem d_Plan_screenNumbered_21 : decode prog_5_method_6_code 21 = .ok (.iconst 1, 1) := by decide +kernel
theorem d_Plan_screenNumbered_22 : decode prog_5_method_6_code 22 = .ok (.isub, 1) := by decide +kernel
theorem d_Plan_screenNumbered_23 : decode prog_5_method_6_code 23 = .ok (.invokevirtual 39, 3) := by decide +kernel
theorem d_Plan_screenNumbered_26 : decode prog_5_method_6_code 26 = .ok (.checkcast 49, 3) := by decide +kernel
theorem d_Plan_screenNumbered_29 : decode prog_5_method_6_code 29 = .ok (.goto 4, 3) := by decide +kernel
theorem d_Plan_screenNumbered_32 : decode prog_5_method_6_code 32 = .ok (.aconst_null, 1) := by decide +kernel
theorem d_Plan_screenNumbered_33 : decode prog_5_method_6_code 33 = .ok (.areturn, 1) := by decide +kernel
set_option maxRecDepth 100000 in
set_option maxHeartbeats 4000000 in
theorem cm_Plan_screenNumbered {l : Launch} {S0 : State} {b : Nat} {D : va_G} {dT : Nat → ClassId} (hE : vEnv S0 b D dT) {h0 : vH} {a sl ea n cap : Nat} {md : Int32} {f : Nat → Option Nat} {g : Nat → Nat} {u1 u3 u4 : Value} {fs : Nat → List Value} (hn : n ≤ cap) (hc : cap < 2 ^ 20) (hf : ∀ k, k < n → f k = some (g k)) {p1 : Int32} (hv : ∀ k, k < n → h0 (g k) = some (.inr (9, fs k))) (ka : h0 a = some (.inr (4, [u1, .ref sl, u3, u4]))) (kl : h0 sl = some (.inr (2, [.ref ea, .int (nI n), .int md]))) (ke : h0 ea = some (.inl (dT 4, cap, .inr (.inr (.inr (.inr f)))))) : vMq l S0 D vcl GT y_Plan_screenNumbered prog_5_method_6_code 2 (some (.object "MenuScreens$Screen")) 3 64 0 0 [.ref a, .int p1] h0 (fun r h' => h' = h0 ∧ ((p1 < 1 ∨ nI n < p1) ∧ r = none ∨ ∃ k, k < n ∧ p1 = nI (k + 1) ∧ r = some (g k))) := by
  unfold vMq
  refine vM_ofQ hE.1 (by decide) (Nat.le_of_ble_eq_true rfl) (fun p e s m args below meth c ls Q hQ C hr hlk hnm X hl => ?_)
  have C : vC p s m _ c _ _ "MenuScreens$Plan" GT D vcl (vty dT) := C
  have hx := C.1.1
  have hb := C.1.2.1
  obtain ⟨H, eH⟩ : ∃ z, z = s.heap := ⟨_, rfl⟩
  obtain ⟨locs, elocs⟩ : ∃ z : List Loc, z = [] := ⟨_, rfl⟩
  rw [← eH, ← elocs] at X
  rw [← eH, ← elocs]
  clear eH elocs
  have hl : lv_has ls 2 [(0, .ref a), (1, .int p1)] := hl
  refine lv_iload_n hx hb d_Plan_screenNumbered_0 rfl (lv_at hl 1 rfl) ?_
  refine lv_iconst (v := 1) hx hb d_Plan_screenNumbered_1 (by decide) ?_
  refine lv_icmp_lt (tgt := 32) hx hb d_Plan_screenNumbered_2 (by decide) (fun c1 => ?_) (fun c1 => ?_)
  · skip
    refine lv_null hx hb d_Plan_screenNumbered_32 ?_
    exact mq_aret (r := none) hQ C X hr (Or.inl ⟨_, rfl⟩) hlk (⟨rfl, Or.inl ⟨Or.inl c1, rfl⟩⟩) (by omega) (by omega) d_Plan_screenNumbered_33
  · skip
    refine lv_iload_n hx hb d_Plan_screenNumbered_5 rfl (lv_at hl 1 rfl) ?_
    refine lv_aload_n hx hb d_Plan_screenNumbered_6 rfl (lv_at hl 0 rfl) ?_
    refine mv_get C X ka 1 f_4_18_4 (v := .ref sl) rfl d_Plan_screenNumbered_7 ?_
    refine mv_bi X (mv_rV (rest := [.int p1]) (As := []) gt_good C X k_4_35 (cm_ArrayList_size hE kl) kl rfl rfl ⟨Nat.le_of_ble_eq_true rfl, Nat.le_of_ble_eq_true rfl⟩ rfl hl.1 rfl (Nat.le_of_ble_eq_true rfl) d_Plan_screenNumbered_10 ⟨Nat.zero_le _, Nat.zero_le _⟩) (fun r2 hN H locs hp X => ?_)
    obtain ⟨eh, er⟩ := hp
    replace eh := eh.symm
    replace er := er.symm
    subst eh er
    refine lv_icmp_gt (tgt := 32) hx hb d_Plan_screenNumbered_13 (by decide) (fun c3 => ?_) (fun c3 => ?_)
    · skip
      refine lv_null hx hb d_Plan_screenNumbered_32 ?_
      exact mq_aret (r := none) hQ C X hr (Or.inl ⟨_, rfl⟩) hlk (⟨rfl, Or.inl ⟨Or.inr c3, rfl⟩⟩) (by omega) (by omega) d_Plan_screenNumbered_33
    · skip
      obtain ⟨k1, hk1, hk2, ek0⟩ := ix_le1 c1 (Int32.not_lt.mp c3) (by omega)
      obtain ⟨k, ekk⟩ : ∃ k, k1 = k + 1 := ⟨k1 - 1, by omega⟩
      subst ekk
      have hk : k < n := by omega
      have ek : p1 = nI (k + 1) := ek0
      have ek1 : p1 - 1 = nI k := by rw [ek]; exact nI_sub (b := 1) (by omega)
      refine lv_aload_n hx hb d_Plan_screenNumbered_16 rfl (lv_at hl 0 rfl) ?_
      refine mv_get C X ka 1 f_4_18_4 (v := .ref sl) rfl d_Plan_screenNumbered_17 ?_
      refine lv_iload_n hx hb d_Plan_screenNumbered_20 rfl (lv_at hl 1 rfl) ?_
      refine lv_iconst (v := 1) hx hb d_Plan_screenNumbered_21 (by decide) ?_
      refine lv_isub hx hb d_Plan_screenNumbered_22 ?_
      rw [ek1]
      refine mv_bq X (mv_rV (rest := []) (As := [.int (nI k)]) gt_good C X k_4_39 (cm_ArrayList_get hE hk hn (by omega) kl ke) kl rfl rfl ⟨Nat.le_of_ble_eq_true rfl, Nat.le_of_ble_eq_true rfl⟩ rfl hl.1 rfl (Nat.le_of_ble_eq_true rfl) d_Plan_screenNumbered_23 ⟨Nat.zero_le _, Nat.zero_le _⟩) (fun r4 hN H locs hp X => ?_)
      obtain ⟨eh, er⟩ := hp
      replace eh := eh.symm
      subst eh
      rw [hf k hk] at er
      subst er
      change W _ _ _ _ _ _ _ _ _ _ _ _ _ _ _ (F0 _ _ _ (.ref (g k) :: _))
      refine mv_castE C X (hv k hk) rfl rfl (gt_3 168 (by decide +kernel) rfl) d_Plan_screenNumbered_26 ?_
      refine lv_goto (tgt := 33) hx hb d_Plan_screenNumbered_29 (by decide) ?_
      exact mq_aret (r := some (g k)) hQ C X hr (Or.inl ⟨_, rfl⟩) hlk (⟨rfl, Or.inr ⟨k, hk, ek, rfl⟩⟩) (by omega) (by omega) d_Plan_screenNumbered_33
theorem d_Plan_valueNamed_0 : decode prog_5_method_5_code 0 = .ok (.iconst 0, 1) := by decide +kernel
theorem d_Plan_valueNamed_1 : decode prog_5_method_5_code 1 = .ok (.istore_n 3, 1) := by decide +kernel
theorem d_Plan_valueNamed_2 : decode prog_5_method_5_code 2 = .ok (.iload_n 3, 1) := by decide +kernel
theorem d_Plan_valueNamed_3 : decode prog_5_method_5_code 3 = .ok (.aload_n 0, 1) := by decide +kernel
theorem d_Plan_valueNamed_4 : decode prog_5_method_5_code 4 = .ok (.getfield 12, 3) := by decide +kernel
theorem d_Plan_valueNamed_7 : decode prog_5_method_5_code 7 = .ok (.invokevirtual 35, 3) := by decide +kernel
theorem d_Plan_valueNamed_10 : decode prog_5_method_5_code 10 = .ok (.if_icmp .ge 35, 3) := by decide +kernel
theorem d_Plan_valueNamed_13 : decode prog_5_method_5_code 13 = .ok (.aload_n 0, 1) := by decide +kernel
theorem d_Plan_valueNamed_14 : decode prog_5_method_5_code 14 = .ok (.getfield 12, 3) := by decide +kernel
theorem d_Plan_valueNamed_17 : decode prog_5_method_5_code 17 = .ok (.iload_n 3, 1) := by decide +kernel
theorem d_Plan_valueNamed_18 : decode prog_5_method_5_code 18 = .ok (.invokevirtual 39, 3) := by decide +kernel
theorem d_Plan_valueNamed_21 : decode prog_5_method_5_code 21 = .ok (.checkcast 43, 3) := by decide +kernel
theorem d_Plan_valueNamed_24 : decode prog_5_method_5_code 24 = .ok (.astore 4, 2) := by decide +kernel
theorem d_Plan_valueNamed_26 : decode prog_5_method_5_code 26 = .ok (.aload 4, 2) := by decide +kernel
theorem d_Plan_valueNamed_28 : decode prog_5_method_5_code 28 = .ok (.getfield 45, 3) := by decide +kernel
theorem d_Plan_valueNamed_31 : decode prog_5_method_5_code 31 = .ok (.lload_n 1, 1) := by decide +kernel
theorem d_Plan_valueNamed_32 : decode prog_5_method_5_code 32 = .ok (.lcmp, 1) := by decide +kernel
theorem d_Plan_valueNamed_33 : decode prog_5_method_5_code 33 = .ok (.ifCond .ne 6, 3) := by decide +kernel
theorem d_Plan_valueNamed_36 : decode prog_5_method_5_code 36 = .ok (.aload 4, 2) := by decide +kernel
theorem d_Plan_valueNamed_38 : decode prog_5_method_5_code 38 = .ok (.areturn, 1) := by decide +kernel
theorem d_Plan_valueNamed_39 : decode prog_5_method_5_code 39 = .ok (.iinc 3 1, 3) := by decide +kernel
theorem d_Plan_valueNamed_42 : decode prog_5_method_5_code 42 = .ok (.goto (-40), 3) := by decide +kernel
theorem d_Plan_valueNamed_45 : decode prog_5_method_5_code 45 = .ok (.aconst_null, 1) := by decide +kernel
theorem d_Plan_valueNamed_46 : decode prog_5_method_5_code 46 = .ok (.areturn, 1) := by decide +kernel
set_option maxRecDepth 100000 in
set_option maxHeartbeats 4000000 in
theorem cm_Plan_valueNamed {l : Launch} {S0 : State} {b : Nat} {D : va_G} {dT : Nat → ClassId} (hE : vEnv S0 b D dT) {h0 : vH} {a vl ea n cap : Nat} {md : Int32} {f : Nat → Option Nat} {g : Nat → Nat} {u2 u3 u4 : Value} (hn : n ≤ cap) (hc : cap < 2 ^ 20) (hf : ∀ k, k < n → f k = some (g k)) {nm : Int64} {nf : Nat → Int64} {v2 v3 v4 v5 v6 : Nat → Value} (hv : ∀ k, k < n → h0 (g k) = some (.inr (8, [.long (nf (k + 1)), (v2 k), (v3 k), (v4 k), (v5 k), (v6 k)]))) (ka : h0 a = some (.inr (4, [.ref vl, u2, u3, u4]))) (kl : h0 vl = some (.inr (2, [.ref ea, .int (nI n), .int md]))) (ke : h0 ea = some (.inl (dT 4, cap, .inr (.inr (.inr (.inr f)))))) : vMq l S0 D vcl GT y_Plan_valueNamed prog_5_method_5_code 5 (some (.object "MenuScreens$Value")) 3 64 0 0 [.ref a, .long nm] h0 (fun r h' => h' = h0 ∧ r = if vfd nf n nm = 0 then none else some (g (vfd nf n nm - 1))) := by
  unfold vMq
  refine vM_ofQ hE.1 (by decide) (Nat.le_of_ble_eq_true rfl) (fun p e s m args below meth c ls Q hQ C hr hlk hnm X hl => ?_)
  have C : vC p s m _ c _ _ "MenuScreens$Plan" GT D vcl (vty dT) := C
  have hx := C.1.1
  have hb := C.1.2.1
  obtain ⟨H, eH⟩ : ∃ z, z = s.heap := ⟨_, rfl⟩
  obtain ⟨locs, elocs⟩ : ∃ z : List Loc, z = [] := ⟨_, rfl⟩
  rw [← eH, ← elocs] at X
  rw [← eH, ← elocs]
  clear eH elocs
  have hl : lv_has ls 5 [(0, .ref a), (1, .long nm)] := hl
  refine lv_iconst (v := 0) hx hb d_Plan_valueNamed_0 (by decide) ?_
  refine lv_istore_n (lv' := [(3, .int 0), (0, .ref a), (1, .long nm)]) hx hb d_Plan_valueNamed_1 rfl hl (by decide) rfl (fun ls hl => ?_)
  have lp : ∀ (n_lp : Nat) (k : Nat) (i : Int32) (ls : Array Slot) (H : Heap) (locs : List Loc), (i = nI k) → (k ≤ n) → (fnd (fun v => decide (nf v = nm)) n 1 = fnd (fun v => decide (nf v = nm)) (n - k) (k + 1)) → (n - k) < n_lp → vO S0 D vcl h0 s H locs → lv_has ls 5 [(0, .ref a), (1, .long nm), (3, .int i)] → W p l e (vRm 3 64 0 0) s m args below meth c H locs 0 0 Q (F0 m 2 ls []) := by
    intro n_lp
    induction n_lp with
    | zero => intros; exact absurd (by assumption) (Nat.not_lt_zero _)
    | succ n_lp ih_lp =>
      intro k i ls H locs ei hk ha hmu_lp X hl
      refine lv_iload_n hx hb d_Plan_valueNamed_2 rfl (lv_at hl 2 rfl) ?_
      refine lv_aload_n hx hb d_Plan_valueNamed_3 rfl (lv_at hl 0 rfl) ?_
      refine mv_get C X ka 0 f_4_12_4 (v := .ref vl) rfl d_Plan_valueNamed_4 ?_
      refine mv_bi X (mv_rV (rest := [.int i]) (As := []) gt_good C X k_4_35 (cm_ArrayList_size hE kl) kl rfl rfl ⟨Nat.le_of_ble_eq_true rfl, Nat.le_of_ble_eq_true rfl⟩ rfl hl.1 rfl (Nat.le_of_ble_eq_true rfl) d_Plan_valueNamed_7 ⟨Nat.zero_le _, Nat.zero_le _⟩) (fun r1 hN H locs hp X => ?_)
      obtain ⟨eh, er⟩ := hp
      replace eh := eh.symm
      replace er := er.symm
      subst eh er
      refine lv_icmp_ge (tgt := 45) hx hb d_Plan_valueNamed_10 (by decide) (fun c2 => ?_) (fun c2 => ?_)
      · skip
        refine lv_null hx hb d_Plan_valueNamed_45 ?_
        exact mq_aret (r := none) hQ C X hr (Or.inl ⟨_, rfl⟩) hlk (⟨rfl, by
            have : n - k = 0 := by
              have := (nI_leI (a := n) (b := k) (by omega) (by omega)).mp (by rw [← ei]; exact c2)
              omega
            rw [vfd, ha, this]; rfl⟩) (by omega) (by omega) d_Plan_valueNamed_46
      · skip
        have hkn : k < n := by
          rcases Nat.lt_or_ge k n with q | q
          · exact q
          · exact absurd (by rw [ei]; exact nI_le q (by omega)) c2
        refine lv_aload_n hx hb d_Plan_valueNamed_13 rfl (lv_at hl 0 rfl) ?_
        refine mv_get C X ka 0 f_4_12_4 (v := .ref vl) rfl d_Plan_valueNamed_14 ?_
        refine lv_iload_n hx hb d_Plan_valueNamed_17 rfl (lv_at hl 2 rfl) ?_
        rw [ei]
        refine mv_bq X (mv_rV (rest := []) (As := [.int (nI k)]) gt_good C X k_4_39 (cm_ArrayList_get hE hkn hn (by omega) kl ke) kl rfl rfl ⟨Nat.le_of_ble_eq_true rfl, Nat.le_of_ble_eq_true rfl⟩ rfl hl.1 rfl (Nat.le_of_ble_eq_true rfl) d_Plan_valueNamed_18 ⟨Nat.zero_le _, Nat.zero_le _⟩) (fun r3 hN H locs hp X => ?_)
        obtain ⟨eh, er⟩ := hp
        replace eh := eh.symm
        subst eh
        rw [hf k hkn] at er
        subst er
        change W _ _ _ _ _ _ _ _ _ _ _ _ _ _ _ (F0 _ _ _ (.ref (g k) :: _))
        refine mv_castE C X (hv k hkn) rfl rfl (gt_3 61 (by decide +kernel) rfl) d_Plan_valueNamed_21 ?_
        refine lv_astore (lv' := [(4, .ref (g k)), (0, .ref a), (1, .long nm), (3, .int i)]) hx hb d_Plan_valueNamed_24 hl (by decide) rfl (fun ls hl => ?_)
        refine lv_aload hx hb d_Plan_valueNamed_26 (lv_at hl 0 rfl) ?_
        refine mv_get C X (hv k hkn) 0 f_4_45_8 (v := .long (nf (k + 1))) rfl d_Plan_valueNamed_28 ?_
        refine lv_lload_n hx hb d_Plan_valueNamed_31 rfl (lv_at hl 2 rfl) ?_
        refine W.lcmp hx hb d_Plan_valueNamed_32 ?_
        refine lv_if_ne (tgt := 39) hx hb d_Plan_valueNamed_33 (by decide) (fun c4 => ?_) (fun c4 => ?_)
        · skip
          refine lv_iinc (v := (i + 1)) (lv' := [(3, .int (i + 1)), (4, .ref (g k)), (0, .ref a), (1, .long nm)]) hx hb d_Plan_valueNamed_39 hl (k := 3) rfl rfl (by decide) rfl (fun ls hl => ?_)
          refine lv_goto (tgt := 2) hx hb d_Plan_valueNamed_42 (by decide) ?_
          exact ih_lp (k + 1) (i + 1) ls _ _ (by rw [ei]; exact nI_1 k) (by omega) (by rw [ha]; exact fnd_s1 hkn (decide_eq_false (fun z => c4 ((lg_cmp_eq _ _).mpr z)))) (by omega) X (lv_sub hl [2, 3, 0] rfl)
        · skip
          refine lv_aload hx hb d_Plan_valueNamed_36 (lv_at hl 0 rfl) ?_
          exact mq_aret (r := some (g k)) hQ C X hr (Or.inl ⟨_, rfl⟩) hlk (⟨rfl, by rw [vfd, ha, fnd_f1 hkn (decide_eq_true ((lg_cmp_eq _ _).mp c4)), if_neg (by omega)]; rfl⟩) (by omega) (by omega) d_Plan_valueNamed_38
  exact lp (n - 0 + 1) 0 0 ls _ _ rfl (Nat.zero_le _) rfl (Nat.lt_succ_self _) X (lv_sub hl [1, 2, 0] rfl)
theorem d_Plan_screenNumberOf_0 : decode prog_5_method_7_code 0 = .ok (.iconst 0, 1) := by decide +kernel
theorem d_Plan_screenNumberOf_1 : decode prog_5_method_7_code 1 = .ok (.istore_n 3, 1) := by decide +kernel
theorem d_Plan_screenNumberOf_2 : decode prog_5_method_7_code 2 = .ok (.iload_n 3, 1) := by decide +kernel
theorem d_Plan_screenNumberOf_3 : decode prog_5_method_7_code 3 = .ok (.aload_n 0, 1) := by decide +kernel
theorem d_Plan_screenNumberOf_4 : decode prog_5_method_7_code 4 = .ok (.getfield 18, 3) := by decide +kernel
theorem d_Plan_screenNumberOf_7 : decode prog_5_method_7_code 7 = .ok (.invokevirtual 35, 3) := by decide +kernel
theorem d_Plan_screenNumberOf_10 : decode prog_5_method_7_code 10 = .ok (.if_icmp .ge 32, 3) := by decide +kernel
theorem d_Plan_screenNumberOf_13 : decode prog_5_method_7_code 13 = .ok (.aload_n 0, 1) := by decide +kernel
theorem d_Plan_screenNumberOf_14 : decode prog_5_method_7_code 14 = .ok (.getfield 18, 3) := by decide +kernel
theorem d_Plan_screenNumberOf_17 : decode prog_5_method_7_code 17 = .ok (.iload_n 3, 1) := by decide +kernel
theorem d_Plan_screenNumberOf_18 : decode prog_5_method_7_code 18 = .ok (.invokevirtual 39, 3) := by decide +kernel
theorem d_Plan_screenNumberOf_21 : decode prog_5_method_7_code 21 = .ok (.checkcast 49, 3) := by decide +kernel
theorem d_Plan_screenNumberOf_24 : decode prog_5_method_7_code 24 = .ok (.getfield 51, 3) := by decide +kernel
theorem d_Plan_screenNumberOf_27 : decode prog_5_method_7_code 27 = .ok (.lload_n 1, 1) := by decide +kernel
theorem d_Plan_screenNumberOf_28 : decode prog_5_method_7_code 28 = .ok (.lcmp, 1) := by decide +kernel
theorem d_Plan_screenNumberOf_29 : decode prog_5_method_7_code 29 = .ok (.ifCond .ne 7, 3) := by decide +kernel
theorem d_Plan_screenNumberOf_32 : decode prog_5_method_7_code 32 = .ok (.iload_n 3, 1) := by decide +kernel
theorem d_Plan_screenNumberOf_33 : decode prog_5_method_7_code 33 = .ok (.iconst 1, 1) := by decide +kernel
theorem d_Plan_screenNumberOf_34 : decode prog_5_method_7_code 34 = .ok (.iadd, 1) := by decide +kernel
theorem d_Plan_screenNumberOf_35 : decode prog_5_method_7_code 35 = .ok (.ireturn, 1) := by decide +kernel
theorem d_Plan_screenNumberOf_36 : decode prog_5_method_7_code 36 = .ok (.iinc 3 1, 3) := by decide +kernel
theorem d_Plan_screenNumberOf_39 : decode prog_5_method_7_code 39 = .ok (.goto (-37), 3) := by decide +kernel
theorem d_Plan_screenNumberOf_42 : decode prog_5_method_7_code 42 = .ok (.iconst 0, 1) := by decide +kernel
theorem d_Plan_screenNumberOf_43 : decode prog_5_method_7_code 43 = .ok (.ireturn, 1) := by decide +kernel
set_option maxRecDepth 100000 in
set_option maxHeartbeats 4000000 in
theorem cm_Plan_screenNumberOf {l : Launch} {S0 : State} {b : Nat} {D : va_G} {dT : Nat → ClassId} (hE : vEnv S0 b D dT) {h0 : vH} {a sl ea n cap : Nat} {md : Int32} {f : Nat → Option Nat} {g : Nat → Nat} {u1 u3 u4 : Value} (hn : n ≤ cap) (hc : cap < 2 ^ 20) (hf : ∀ k, k < n → f k = some (g k)) {nm : Int64} {nf : Nat → Int64} {v2 v3 v4 v5 v6 v7 : Nat → Value} (hv : ∀ k, k < n → h0 (g k) = some (.inr (9, [.long (nf (k + 1)), (v2 k), (v3 k), (v4 k), (v5 k), (v6 k), (v7 k)]))) (ka : h0 a = some (.inr (4, [u1, .ref sl, u3, u4]))) (kl : h0 sl = some (.inr (2, [.ref ea, .int (nI n), .int md]))) (ke : h0 ea = some (.inl (dT 4, cap, .inr (.inr (.inr (.inr f)))))) : vMi l S0 D vcl GT y_Plan_screenNumberOf prog_5_method_7_code 4 (some .int) 3 64 0 0 [.ref a, .long nm] h0 (fun r h' => h' = h0 ∧ r = nI (vfd nf n nm)) := by
  unfold vMi
  refine vM_ofQ hE.1 (by decide) (Nat.le_of_ble_eq_true rfl) (fun p e s m args below meth c ls Q hQ C hr hlk hnm X hl => ?_)
  have C : vC p s m _ c _ _ "MenuScreens$Plan" GT D vcl (vty dT) := C
  have hx := C.1.1
  have hb := C.1.2.1
  obtain ⟨H, eH⟩ : ∃ z, z = s.heap := ⟨_, rfl⟩
  obtain ⟨locs, elocs⟩ : ∃ z : List Loc, z = [] := ⟨_, rfl⟩
  rw [← eH, ← elocs] at X
  rw [← eH, ← elocs]
  clear eH elocs
  have hl : lv_has ls 4 [(0, .ref a), (1, .long nm)] := hl
  refine lv_iconst (v := 0) hx hb d_Plan_screenNumberOf_0 (by decide) ?_
  refine lv_istore_n (lv' := [(3, .int 0), (0, .ref a), (1, .long nm)]) hx hb d_Plan_screenNumberOf_1 rfl hl (by decide) rfl (fun ls hl => ?_)
  have lp : ∀ (n_lp : Nat) (k : Nat) (i : Int32) (ls : Array Slot) (H : Heap) (locs : List Loc), (i = nI k) → (k ≤ n) → (fnd (fun v => decide (nf v = nm)) n 1 = fnd (fun v => decide (nf v = nm)) (n - k) (k + 1)) → (n - k) < n_lp → vO S0 D vcl h0 s H locs → lv_has ls 4 [(0, .ref a), (1, .long nm), (3, .int i)] → W p l e (vRm 3 64 0 0) s m args below meth c H locs 0 0 Q (F0 m 2 ls []) := by
    intro n_lp
    induction n_lp with
    | zero => intros; exact absurd (by assumption) (Nat.not_lt_zero _)
    | succ n_lp ih_lp =>
      intro k i ls H locs ei hk ha hmu_lp X hl
      refine lv_iload_n hx hb d_Plan_screenNumberOf_2 rfl (lv_at hl 2 rfl) ?_
      refine lv_aload_n hx hb d_Plan_screenNumberOf_3 rfl (lv_at hl 0 rfl) ?_
      refine mv_get C X ka 1 f_4_18_4 (v := .ref sl) rfl d_Plan_screenNumberOf_4 ?_
      refine mv_bi X (mv_rV (rest := [.int i]) (As := []) gt_good C X k_4_35 (cm_ArrayList_size hE kl) kl rfl rfl ⟨Nat.le_of_ble_eq_true rfl, Nat.le_of_ble_eq_true rfl⟩ rfl hl.1 rfl (Nat.le_of_ble_eq_true rfl) d_Plan_screenNumberOf_7 ⟨Nat.zero_le _, Nat.zero_le _⟩) (fun r1 hN H locs hp X => ?_)
      obtain ⟨eh, er⟩ := hp
      replace eh := eh.symm
      replace er := er.symm
      subst eh er
      refine lv_icmp_ge (tgt := 42) hx hb d_Plan_screenNumberOf_10 (by decide) (fun c2 => ?_) (fun c2 => ?_)
      · skip
        refine lv_iconst (v := 0) hx hb d_Plan_screenNumberOf_42 (by decide) ?_
        exact mq_iret hQ C X hr rfl hlk (⟨rfl, by
            have : n - k = 0 := by
              have := (nI_leI (a := n) (b := k) (by omega) (by omega)).mp (by rw [← ei]; exact c2)
              omega
            rw [vfd, ha, this]; rfl⟩) (by omega) (by omega) d_Plan_screenNumberOf_43
      · skip
        have hkn : k < n := by
          rcases Nat.lt_or_ge k n with q | q
          · exact q
          · exact absurd (by rw [ei]; exact nI_le q (by omega)) c2
        refine lv_aload_n hx hb d_Plan_screenNumberOf_13 rfl (lv_at hl 0 rfl) ?_
        refine mv_get C X ka 1 f_4_18_4 (v := .ref sl) rfl d_Plan_screenNumberOf_14 ?_
        refine lv_iload_n hx hb d_Plan_screenNumberOf_17 rfl (lv_at hl 2 rfl) ?_
        rw [ei]
        refine mv_bq X (mv_rV (rest := []) (As := [.int (nI k)]) gt_good C X k_4_39 (cm_ArrayList_get hE hkn hn (by omega) kl ke) kl rfl rfl ⟨Nat.le_of_ble_eq_true rfl, Nat.le_of_ble_eq_true rfl⟩ rfl hl.1 rfl (Nat.le_of_ble_eq_true rfl) d_Plan_screenNumberOf_18 ⟨Nat.zero_le _, Nat.zero_le _⟩) (fun r3 hN H locs hp X => ?_)
        obtain ⟨eh, er⟩ := hp
        replace eh := eh.symm
        subst eh
        rw [hf k hkn] at er
        subst er
        change W _ _ _ _ _ _ _ _ _ _ _ _ _ _ _ (F0 _ _ _ (.ref (g k) :: _))
        refine mv_castE C X (hv k hkn) rfl rfl (gt_3 168 (by decide +kernel) rfl) d_Plan_screenNumberOf_21 ?_
        refine mv_get C X (hv k hkn) 0 f_4_51_9 (v := .long (nf (k + 1))) rfl d_Plan_screenNumberOf_24 ?_
        refine lv_lload_n hx hb d_Plan_screenNumberOf_27 rfl (lv_at hl 1 rfl) ?_
        refine W.lcmp hx hb d_Plan_screenNumberOf_28 ?_
        refine lv_if_ne (tgt := 36) hx hb d_Plan_screenNumberOf_29 (by decide) (fun c4 => ?_) (fun c4 => ?_)
        · skip
          refine lv_iinc (v := (i + 1)) (lv' := [(3, .int (i + 1)), (0, .ref a), (1, .long nm)]) hx hb d_Plan_screenNumberOf_36 hl (k := 2) rfl rfl (by decide) rfl (fun ls hl => ?_)
          refine lv_goto (tgt := 2) hx hb d_Plan_screenNumberOf_39 (by decide) ?_
          exact ih_lp (k + 1) (i + 1) ls _ _ (by rw [ei]; exact nI_1 k) (by omega) (by rw [ha]; exact fnd_s1 hkn (decide_eq_false (fun z => c4 ((lg_cmp_eq _ _).mpr z)))) (by omega) X (lv_sub hl [1, 2, 0] rfl)
        · skip
          refine lv_iload_n hx hb d_Plan_screenNumberOf_32 rfl (lv_at hl 2 rfl) ?_
          refine lv_iconst (v := 1) hx hb d_Plan_screenNumberOf_33 (by decide) ?_
          refine lv_iadd hx hb d_Plan_screenNumberOf_34 ?_
          exact mq_iret hQ C X hr rfl hlk (⟨rfl, by rw [vfd, ha, fnd_f1 hkn (decide_eq_true ((lg_cmp_eq _ _).mp c4)), ei]; exact nI_1 k⟩) (by omega) (by omega) d_Plan_screenNumberOf_35
  exact lp (n - 0 + 1) 0 0 ls _ _ rfl (Nat.zero_le _) rfl (Nat.lt_succ_self _) X (lv_sub hl [1, 2, 0] rfl)
theorem d_Plan_ringAt_0 : decode prog_5_method_8_code 0 = .ok (.iload_n 1, 1) := by decide +kernel
theorem d_Plan_ringAt_1 : decode prog_5_method_8_code 1 = .ok (.ifCond .lt 29, 3) := by decide +kernel
theorem d_Plan_ringAt_4 : decode prog_5_method_8_code 4 = .ok (.iload_n 1, 1) := by decide +kernel
theorem d_Plan_ringAt_5 : decode prog_5_method_8_code 5 = .ok (.aload_n 0, 1) := by decide +kernel
theorem d_Plan_ringAt_6 : decode prog_5_method_8_code 6 = .ok (.getfield 28, 3) := by decide +kernel
theorem d_Plan_ringAt_9 : decode prog_5_method_8_code 9 = .ok (.if_icmp .ge 21, 3) := by decide +kernel
theorem d_Plan_ringAt_12 : decode prog_5_method_8_code 12 = .ok (.iload_n 1, 1) := by decide +kernel
theorem d_Plan_ringAt_13 : decode prog_5_method_8_code 13 = .ok (.aload_n 0, 1) := by decide +kernel
theorem d_Plan_ringAt_14 : decode prog_5_method_8_code 14 = .ok (.getfield 21, 3) := by decide +kernel
theorem d_Plan_ringAt_17 : decode prog_5_method_8_code 17 = .ok (.arraylength, 1) := by decide +kernel
theorem d_Plan_ringAt_18 : decode prog_5_method_8_code 18 = .ok (.if_icmp .ge 12, 3) := by decide +kernel
theorem d_Plan_ringAt_21 : decode prog_5_method_8_code 21 = .ok (.aload_n 0, 1) := by decide +kernel
theorem d_Plan_ringAt_22 : decode prog_5_method_8_code 22 = .ok (.getfield 21, 3) := by decide +kernel
theorem d_Plan_ringAt_25 : decode prog_5_method_8_code 25 = .ok (.iload_n 1, 1) := by decide +kernel
theorem d_Plan_ringAt_26 : decode prog_5_method_8_code 26 = .ok (.iaload, 1) := by decide +kernel
theorem d_Plan_ringAt_27 : decode prog_5_method_8_code 27 = .ok (.goto 4, 3) := by decide +kernel
theorem d_Plan_ringAt_30 : decode prog_5_method_8_code 30 = .ok (.iconst 0, 1) := by decide +kernel
theorem d_Plan_ringAt_31 : decode prog_5_method_8_code 31 = .ok (.ireturn, 1) := by decide +kernel
set_option maxRecDepth 100000 in
set_option maxHeartbeats 4000000 in
theorem cm_Plan_ringAt {l : Launch} {S0 : State} {b : Nat} {D : va_G} {dT : Nat → ClassId} (hE : vEnv S0 b D dT) {h0 : vH} {a rg nr : Nat} {f : Nat → Int32} {p1 : Int32} {u1 u2 : Value} (hnr : nr ≤ 30) (ka : h0 a = some (.inr (4, [u1, u2, .ref rg, .int (nI nr)]))) (kr : h0 rg = some (.inl (dT 0, 30, .inl f))) : vMi l S0 D vcl GT y_Plan_ringAt prog_5_method_8_code 2 (some .int) 0 0 0 0 [.ref a, .int p1] h0 (fun r h' => h' = h0 ∧ ((p1 < 0 ∨ nI nr ≤ p1) ∧ r = 0 ∨ ∃ j, j < nr ∧ p1 = nI j ∧ r = f j)) := by
  unfold vMi
  refine vM_ofQ hE.1 (by decide) (Nat.le_of_ble_eq_true rfl) (fun p e s m args below meth c ls Q hQ C hr hlk hnm X hl => ?_)
  have C : vC p s m _ c _ _ "MenuScreens$Plan" GT D vcl (vty dT) := C
  have hx := C.1.1
  have hb := C.1.2.1
  obtain ⟨H, eH⟩ : ∃ z, z = s.heap := ⟨_, rfl⟩
  obtain ⟨locs, elocs⟩ : ∃ z : List Loc, z = [] := ⟨_, rfl⟩
  rw [← eH, ← elocs] at X
  rw [← eH, ← elocs]
  clear eH elocs
  have hl : lv_has ls 2 [(0, .ref a), (1, .int p1)] := hl
  refine lv_iload_n hx hb d_Plan_ringAt_0 rfl (lv_at hl 1 rfl) ?_
  refine lv_if_lt (tgt := 30) hx hb d_Plan_ringAt_1 (by decide) (fun c1 => ?_) (fun c1 => ?_)
  · skip
    refine lv_iconst (v := 0) hx hb d_Plan_ringAt_30 (by decide) ?_
    exact mq_iret hQ C X hr rfl hlk (⟨rfl, Or.inl ⟨Or.inl c1, rfl⟩⟩) (by omega) (by omega) d_Plan_ringAt_31
  · skip
    refine lv_iload_n hx hb d_Plan_ringAt_4 rfl (lv_at hl 1 rfl) ?_
    refine lv_aload_n hx hb d_Plan_ringAt_5 rfl (lv_at hl 0 rfl) ?_
    refine mv_get C X ka 3 f_4_28_4 (v := .int (nI nr)) rfl d_Plan_ringAt_6 ?_
    refine lv_icmp_ge (tgt := 30) hx hb d_Plan_ringAt_9 (by decide) (fun c2 => ?_) (fun c2 => ?_)
    · skip
      refine lv_iconst (v := 0) hx hb d_Plan_ringAt_30 (by decide) ?_
      exact mq_iret hQ C X hr rfl hlk (⟨rfl, Or.inl ⟨Or.inr c2, rfl⟩⟩) (by omega) (by omega) d_Plan_ringAt_31
    · skip
      obtain ⟨j, hj, ej⟩ := ix_lt c1 (Int32.not_le.mp c2) (by omega)
      refine lv_iload_n hx hb d_Plan_ringAt_12 rfl (lv_at hl 1 rfl) ?_
      refine lv_aload_n hx hb d_Plan_ringAt_13 rfl (lv_at hl 0 rfl) ?_
      refine mv_get C X ka 2 f_4_21_4 (v := .ref rg) rfl d_Plan_ringAt_14 ?_
      refine mv_alen C X kr 0 rfl d_Plan_ringAt_17 ?_
      refine lv_icmp_ge (tgt := 30) hx hb d_Plan_ringAt_18 (by decide) (fun z => absurd z (by rw [ej]; exact nI_ge (a := j) (b := 30) (by omega) (by decide))) (fun c3 => ?_)
      refine lv_aload_n hx hb d_Plan_ringAt_21 rfl (lv_at hl 0 rfl) ?_
      refine mv_get C X ka 2 f_4_21_4 (v := .ref rg) rfl d_Plan_ringAt_22 ?_
      refine lv_iload_n hx hb d_Plan_ringAt_25 rfl (lv_at hl 1 rfl) ?_
      refine mv_iald C X kr 0 rfl j ej (by omega) (by decide) d_Plan_ringAt_26 ?_
      refine lv_goto (tgt := 31) hx hb d_Plan_ringAt_27 (by decide) ?_
      exact mq_iret hQ C X hr rfl hlk (⟨rfl, Or.inr ⟨j, hj, ej, rfl⟩⟩) (by omega) (by omega) d_Plan_ringAt_31
