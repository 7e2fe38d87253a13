theorem d_Screen_isBarredAt_0 : decode prog_7_method_2_code 0 = .ok (.iload_n 1, 1) := by decide +kernel
theorem d_Screen_isBarredAt_1 : decode prog_7_method_2_code 1 = .ok (.aload_n 0, 1) := by decide +kernel
theorem d_Screen_isBarredAt_2 : decode prog_7_method_2_code 2 = .ok (.getfield 26, 3) := by decide +kernel
theorem d_Screen_isBarredAt_5 : decode prog_7_method_2_code 5 = .ok (.if_icmp .le 7, 3) := by decide +kernel
theorem d_Screen_isBarredAt_8 : decode prog_7_method_2_code 8 = .ok (.iconst 1, 1) := by decide +kernel
theorem d_Screen_isBarredAt_9 : decode prog_7_method_2_code 9 = .ok (.goto 4, 3) := by decide +kernel
theorem d_Screen_isBarredAt_12 : decode prog_7_method_2_code 12 = .ok (.iconst 0, 1) := by decide +kernel
theorem d_Screen_isBarredAt_13 : decode prog_7_method_2_code 13 = .ok (.ireturn, 1) := by decide +kernel
set_option maxRecDepth 100000 in
set_option maxHeartbeats 4000000 in
theorem cm_Screen_isBarredAt {l : Launch} {S0 : State} {b : Nat} {D : va_G} {dT : Nat → ClassId} (hE : vEnv S0 b D dT) {h0 : vH} {a : Nat} {br sp : Int32} {u1 u2 u3 u4 u5 u7 : Value} (ka : h0 a = some (.inr (9, [u1, u2, u3, u4, u5, .int br, u7]))) : vMi l S0 D vcl GT y_Screen_isBarredAt prog_7_method_2_code 2 (some .boolean) 0 0 0 0 [.ref a, .int sp] h0 (fun r h' => h' = h0 ∧ r = (if br < sp then 1 else 0)) := by
  unfold vMi
  refine vM_ofQ hE.1 (by decide) (Nat.le_of_ble_eq_true rfl) (fun p e s m args below meth c ls Q hQ C hr hlk hnm X hl => ?_)
  have C : vC p s m _ c _ _ "MenuScreens$Screen" GT D vcl (vty dT) := C
  have hx := C.1.1
  have hb := C.1.2.1
  obtain ⟨H, eH⟩ : ∃ z, z = s.heap := ⟨_, rfl⟩
  obtain ⟨locs, elocs⟩ : ∃ z : List Loc, z = [] := ⟨_, rfl⟩
  rw [← eH, ← elocs] at X
  rw [← eH, ← elocs]
  clear eH elocs
  have hl : lv_has ls 2 [(0, .ref a), (1, .int sp)] := hl
  refine lv_iload_n hx hb d_Screen_isBarredAt_0 rfl (lv_at hl 1 rfl) ?_
  refine lv_aload_n hx hb d_Screen_isBarredAt_1 rfl (lv_at hl 0 rfl) ?_
  refine mv_get C X ka 5 f_6_26_9 (v := .int br) rfl d_Screen_isBarredAt_2 ?_
  refine lv_icmp_le (tgt := 12) hx hb d_Screen_isBarredAt_5 (by decide) (fun c1 => ?_) (fun c1 => ?_)
  · skip
    refine lv_iconst (v := 0) hx hb d_Screen_isBarredAt_12 (by decide) ?_
    exact mq_iret hQ C X hr rfl hlk (⟨rfl, (if_neg (Int32.not_lt.mpr c1)).symm⟩) (by omega) (by omega) d_Screen_isBarredAt_13
  · skip
    refine lv_iconst (v := 1) hx hb d_Screen_isBarredAt_8 (by decide) ?_
    refine lv_goto (tgt := 13) hx hb d_Screen_isBarredAt_9 (by decide) ?_
    exact mq_iret hQ C X hr rfl hlk (⟨rfl, (if_pos (Int32.not_le.mp c1)).symm⟩) (by omega) (by omega) d_Screen_isBarredAt_13
theorem d_Screen_screenBehindKey_0 : decode prog_7_method_3_code 0 = .ok (.iload_n 1, 1) := by decide +kernel
theorem d_Screen_screenBehindKey_1 : decode prog_7_method_3_code 1 = .ok (.iconst 1, 1) := by decide +kernel
theorem d_Screen_screenBehindKey_2 : decode prog_7_method_3_code 2 = .ok (.if_icmp .lt 18, 3) := by decide +kernel
theorem d_Screen_screenBehindKey_5 : decode prog_7_method_3_code 5 = .ok (.iload_n 1, 1) := by decide +kernel
theorem d_Screen_screenBehindKey_6 : decode prog_7_method_3_code 6 = .ok (.bipush 9, 2) := by decide +kernel
theorem d_Screen_screenBehindKey_8 : decode prog_7_method_3_code 8 = .ok (.if_icmp .gt 12, 3) := by decide +kernel
theorem d_Screen_screenBehindKey_11 : decode prog_7_method_3_code 11 = .ok (.aload_n 0, 1) := by decide +kernel
theorem d_Screen_screenBehindKey_12 : decode prog_7_method_3_code 12 = .ok (.getfield 22, 3) := by decide +kernel
theorem d_Screen_screenBehindKey_15 : decode prog_7_method_3_code 15 = .ok (.iload_n 1, 1) := by decide +kernel
theorem d_Screen_screenBehindKey_16 : decode prog_7_method_3_code 16 = .ok (.iaload, 1) := by decide +kernel
theorem d_Screen_screenBehindKey_17 : decode prog_7_method_3_code 17 = .ok (.goto 4, 3) := by decide +kernel
theorem d_Screen_screenBehindKey_20 : decode prog_7_method_3_code 20 = .ok (.iconst 0, 1) := by decide +kernel
theorem d_Screen_screenBehindKey_21 : decode prog_7_method_3_code 21 = .ok (.ireturn, 1) := by decide +kernel
set_option maxRecDepth 100000 in
set_option maxHeartbeats 4000000 in
theorem cm_Screen_screenBehindKey {l : Launch} {S0 : State} {b : Nat} {D : va_G} {dT : Nat → ClassId} (hE : vEnv S0 b D dT) {h0 : vH} {a ks : Nat} {g : Nat → Int32} {u1 u2 u3 u4 u6 u7 : Value} {p1 : Int32} (ka : h0 a = some (.inr (9, [u1, u2, u3, u4, .ref ks, u6, u7]))) (kk : h0 ks = some (.inl (dT 0, 10, .inl g))) : vMi l S0 D vcl GT y_Screen_screenBehindKey prog_7_method_3_code 2 (some .int) 0 0 0 0 [.ref a, .int p1] h0 (fun r h' => h' = h0 ∧ ((p1 < 1 ∨ 9 < p1) ∧ r = 0 ∨ ∃ k, 1 ≤ k ∧ k ≤ 9 ∧ p1 = nI k ∧ r = g k)) := by
  unfold vMi
  refine vM_ofQ hE.1 (by decide) (Nat.le_of_ble_eq_true rfl) (fun p e s m args below meth c ls Q hQ C hr hlk hnm X hl => ?_)
  have C : vC p s m _ c _ _ "MenuScreens$Screen" GT D vcl (vty dT) := C
  have hx := C.1.1
  have hb := C.1.2.1
  obtain ⟨H, eH⟩ : ∃ z, z = s.heap := ⟨_, rfl⟩
  obtain ⟨locs, elocs⟩ : ∃ z : List Loc, z = [] := ⟨_, rfl⟩
  rw [← eH, ← elocs] at X
  rw [← eH, ← elocs]
  clear eH elocs
  have hl : lv_has ls 2 [(0, .ref a), (1, .int p1)] := hl
  refine lv_iload_n hx hb d_Screen_screenBehindKey_0 rfl (lv_at hl 1 rfl) ?_
  refine lv_iconst (v := 1) hx hb d_Screen_screenBehindKey_1 (by decide) ?_
  refine lv_icmp_lt (tgt := 20) hx hb d_Screen_screenBehindKey_2 (by decide) (fun c1 => ?_) (fun c1 => ?_)
  · skip
    refine lv_iconst (v := 0) hx hb d_Screen_screenBehindKey_20 (by decide) ?_
    exact mq_iret hQ C X hr rfl hlk (⟨rfl, Or.inl ⟨Or.inl c1, rfl⟩⟩) (by omega) (by omega) d_Screen_screenBehindKey_21
  · skip
    refine lv_iload_n hx hb d_Screen_screenBehindKey_5 rfl (lv_at hl 1 rfl) ?_
    refine lv_bipush (v := 9) hx hb d_Screen_screenBehindKey_6 (by decide) ?_
    refine lv_icmp_gt (tgt := 20) hx hb d_Screen_screenBehindKey_8 (by decide) (fun c2 => ?_) (fun c2 => ?_)
    · skip
      refine lv_iconst (v := 0) hx hb d_Screen_screenBehindKey_20 (by decide) ?_
      exact mq_iret hQ C X hr rfl hlk (⟨rfl, Or.inl ⟨Or.inr c2, rfl⟩⟩) (by omega) (by omega) d_Screen_screenBehindKey_21
    · skip
      obtain ⟨k, hk1, hk2, ek⟩ := ix_le1 (n := 9) c1 (Int32.not_lt.mp c2) (by decide)
      refine lv_aload_n hx hb d_Screen_screenBehindKey_11 rfl (lv_at hl 0 rfl) ?_
      refine mv_get C X ka 4 f_6_22_9 (v := .ref ks) rfl d_Screen_screenBehindKey_12 ?_
      refine lv_iload_n hx hb d_Screen_screenBehindKey_15 rfl (lv_at hl 1 rfl) ?_
      refine mv_iald C X kk 0 rfl k ek (by omega) (by decide) d_Screen_screenBehindKey_16 ?_
      refine lv_goto (tgt := 21) hx hb d_Screen_screenBehindKey_17 (by decide) ?_
      exact mq_iret hQ C X hr rfl hlk (⟨rfl, Or.inr ⟨k, hk1, hk2, ek, rfl⟩⟩) (by omega) (by omega) d_Screen_screenBehindKey_21
theorem d_Screen_hasKeyToNowhere_0 : decode prog_7_method_5_code 0 = .ok (.iconst 1, 1) := by decide +kernel
theorem d_Screen_hasKeyToNowhere_1 : decode prog_7_method_5_code 1 = .ok (.istore_n 1, 1) := by decide +kernel
theorem d_Screen_hasKeyToNowhere_2 : decode prog_7_method_5_code 2 = .ok (.iload_n 1, 1) := by decide +kernel
theorem d_Screen_hasKeyToNowhere_3 : decode prog_7_method_5_code 3 = .ok (.bipush 9, 2) := by decide +kernel
theorem d_Screen_hasKeyToNowhere_5 : decode prog_7_method_5_code 5 = .ok (.if_icmp .gt 31, 3) := by decide +kernel
theorem d_Screen_hasKeyToNowhere_8 : decode prog_7_method_5_code 8 = .ok (.aload_n 0, 1) := by decide +kernel
theorem d_Screen_hasKeyToNowhere_9 : decode prog_7_method_5_code 9 = .ok (.getfield 18, 3) := by decide +kernel
theorem d_Screen_hasKeyToNowhere_12 : decode prog_7_method_5_code 12 = .ok (.iload_n 1, 1) := by decide +kernel
theorem d_Screen_hasKeyToNowhere_13 : decode prog_7_method_5_code 13 = .ok (.laload, 1) := by decide +kernel
theorem d_Screen_hasKeyToNowhere_14 : decode prog_7_method_5_code 14 = .ok (.lconst 0, 1) := by decide +kernel
theorem d_Screen_hasKeyToNowhere_15 : decode prog_7_method_5_code 15 = .ok (.lcmp, 1) := by decide +kernel
theorem d_Screen_hasKeyToNowhere_16 : decode prog_7_method_5_code 16 = .ok (.ifCond .eq 14, 3) := by decide +kernel
theorem d_Screen_hasKeyToNowhere_19 : decode prog_7_method_5_code 19 = .ok (.aload_n 0, 1) := by decide +kernel
theorem d_Screen_hasKeyToNowhere_20 : decode prog_7_method_5_code 20 = .ok (.getfield 22, 3) := by decide +kernel
theorem d_Screen_hasKeyToNowhere_23 : decode prog_7_method_5_code 23 = .ok (.iload_n 1, 1) := by decide +kernel
theorem d_Screen_hasKeyToNowhere_24 : decode prog_7_method_5_code 24 = .ok (.iaload, 1) := by decide +kernel
theorem d_Screen_hasKeyToNowhere_25 : decode prog_7_method_5_code 25 = .ok (.ifCond .ne 5, 3) := by decide +kernel
theorem d_Screen_hasKeyToNowhere_28 : decode prog_7_method_5_code 28 = .ok (.iconst 1, 1) := by decide +kernel
theorem d_Screen_hasKeyToNowhere_29 : decode prog_7_method_5_code 29 = .ok (.ireturn, 1) := by decide +kernel
theorem d_Screen_hasKeyToNowhere_30 : decode prog_7_method_5_code 30 = .ok (.iinc 1 1, 3) := by decide +kernel
theorem d_Screen_hasKeyToNowhere_33 : decode prog_7_method_5_code 33 = .ok (.goto (-31), 3) := by decide +kernel
theorem d_Screen_hasKeyToNowhere_36 : decode prog_7_method_5_code 36 = .ok (.iconst 0, 1) := by decide +kernel
theorem d_Screen_hasKeyToNowhere_37 : decode prog_7_method_5_code 37 = .ok (.ireturn, 1) := by decide +kernel
set_option maxRecDepth 100000 in
set_option maxHeartbeats 4000000 in
theorem cm_Screen_hasKeyToNowhere {l : Launch} {S0 : State} {b : Nat} {D : va_G} {dT : Nat → ClassId} (hE : vEnv S0 b D dT) {h0 : vH} {a kn ks : Nat} {g : Nat → Int32} {gn : Nat → Int64} {u1 u2 u3 u6 u7 : Value} (ka : h0 a = some (.inr (9, [u1, u2, u3, .ref kn, .ref ks, u6, u7]))) (kn1 : h0 kn = some (.inl (dT 1, 10, .inr (.inl gn)))) (kk : h0 ks = some (.inl (dT 0, 10, .inl g))) : vMi l S0 D vcl GT y_Screen_hasKeyToNowhere prog_7_method_5_code 2 (some .boolean) 0 0 0 0 [.ref a] h0 (fun r h' => h' = h0 ∧ r = bI (anyK (fun k => decide (¬ gn k = 0) && decide (g k = 0)) 9)) := by
  unfold vMi
  refine vM_ofQ hE.1 (by decide) (Nat.le_of_ble_eq_true rfl) (fun p e s m args below meth c ls Q hQ C hr hlk hnm X hl => ?_)
  have C : vC p s m _ c _ _ "MenuScreens$Screen" GT D vcl (vty dT) := C
  have hx := C.1.1
  have hb := C.1.2.1
  obtain ⟨H, eH⟩ : ∃ z, z = s.heap := ⟨_, rfl⟩
  obtain ⟨locs, elocs⟩ : ∃ z : List Loc, z = [] := ⟨_, rfl⟩
  rw [← eH, ← elocs] at X
  rw [← eH, ← elocs]
  clear eH elocs
  have hl : lv_has ls 2 [(0, .ref a)] := hl
  refine lv_iconst (v := 1) hx hb d_Screen_hasKeyToNowhere_0 (by decide) ?_
  refine lv_istore_n (lv' := [(1, .int 1), (0, .ref a)]) hx hb d_Screen_hasKeyToNowhere_1 rfl hl (by decide) rfl (fun ls hl => ?_)
  have lp : ∀ (n_lp : Nat) (k : Nat) (i : Int32) (ls : Array Slot), (i = nI k) → (1 ≤ k) → (k ≤ 10) → (anyK (fun k => decide (¬ gn k = 0) && decide (g k = 0)) (k - 1) = false) → (10 - k) < n_lp → lv_has ls 2 [(0, .ref a), (1, .int i)] → W p l e (vRm 0 0 0 0) s m args below meth c H locs 0 0 Q (F0 m 2 ls []) := by
    intro n_lp
    induction n_lp with
    | zero => intros; exact absurd (by assumption) (Nat.not_lt_zero _)
    | succ n_lp ih_lp =>
      intro k i ls ei hk1 hk2 ha hmu_lp hl
      refine lv_iload_n hx hb d_Screen_hasKeyToNowhere_2 rfl (lv_at hl 1 rfl) ?_
      refine lv_bipush (v := 9) hx hb d_Screen_hasKeyToNowhere_3 (by decide) ?_
      refine lv_icmp_gt (tgt := 36) hx hb d_Screen_hasKeyToNowhere_5 (by decide) (fun c1 => ?_) (fun c1 => ?_)
      · skip
        refine lv_iconst (v := 0) hx hb d_Screen_hasKeyToNowhere_36 (by decide) ?_
        exact mq_iret hQ C X hr rfl hlk (⟨rfl, by
            have : k = 10 := by
              have := (nI_ltI (a := 9) (b := k) (by decide) (by omega)).mp (by rw [← ei]; exact c1)
              omega
            rw [this] at ha; rw [ha]; rfl⟩) (by omega) (by omega) d_Screen_hasKeyToNowhere_37
      · skip
        have hk9 : k ≤ 9 := by
          rcases Nat.lt_or_ge 9 k with q | q
          · exact absurd (by rw [ei]; exact nI_lt (a := 9) q (by omega)) c1
          · exact q
        refine lv_aload_n hx hb d_Screen_hasKeyToNowhere_8 rfl (lv_at hl 0 rfl) ?_
        refine mv_get C X ka 3 f_6_18_9 (v := .ref kn) rfl d_Screen_hasKeyToNowhere_9 ?_
        refine lv_iload_n hx hb d_Screen_hasKeyToNowhere_12 rfl (lv_at hl 1 rfl) ?_
        refine mv_lald C X kn1 1 rfl k ei (by omega) (by decide) d_Screen_hasKeyToNowhere_13 ?_
        refine lv_lconst (v := 0) hx hb d_Screen_hasKeyToNowhere_14 (by decide) ?_
        refine W.lcmp hx hb d_Screen_hasKeyToNowhere_15 ?_
        refine lv_if_eq (tgt := 30) hx hb d_Screen_hasKeyToNowhere_16 (by decide) (fun c2 => ?_) (fun c2 => ?_)
        · skip
          refine lv_iinc (v := (i + 1)) (lv' := [(1, .int (i + 1)), (0, .ref a)]) hx hb d_Screen_hasKeyToNowhere_30 hl (k := 1) rfl rfl (by decide) rfl (fun ls hl => ?_)
          refine lv_goto (tgt := 2) hx hb d_Screen_hasKeyToNowhere_33 (by decide) ?_
          exact ih_lp (k + 1) (i + 1) ls  (by rw [ei]; exact nI_1 k) (by omega) (by omega) (by
              rw [show k + 1 - 1 = (k - 1) + 1 by omega, anyK, ha, show k - 1 + 1 = k by omega, decide_eq_false (fun z => z ((lg_cmp_eq _ _).mp c2))]; rfl) (by omega) (lv_sub hl [1, 0] rfl)
        · skip
          refine lv_aload_n hx hb d_Screen_hasKeyToNowhere_19 rfl (lv_at hl 0 rfl) ?_
          refine mv_get C X ka 4 f_6_22_9 (v := .ref ks) rfl d_Screen_hasKeyToNowhere_20 ?_
          refine lv_iload_n hx hb d_Screen_hasKeyToNowhere_23 rfl (lv_at hl 1 rfl) ?_
          refine mv_iald C X kk 0 rfl k ei (by omega) (by decide) d_Screen_hasKeyToNowhere_24 ?_
          refine lv_if_ne (tgt := 30) hx hb d_Screen_hasKeyToNowhere_25 (by decide) (fun c3 => ?_) (fun c3 => ?_)
          · skip
            refine lv_iinc (v := (i + 1)) (lv' := [(1, .int (i + 1)), (0, .ref a)]) hx hb d_Screen_hasKeyToNowhere_30 hl (k := 1) rfl rfl (by decide) rfl (fun ls hl => ?_)
            refine lv_goto (tgt := 2) hx hb d_Screen_hasKeyToNowhere_33 (by decide) ?_
            exact ih_lp (k + 1) (i + 1) ls  (by rw [ei]; exact nI_1 k) (by omega) (by omega) (by
                rw [show k + 1 - 1 = (k - 1) + 1 by omega, anyK, ha, show k - 1 + 1 = k by omega, decide_eq_false c3, Bool.and_false]; rfl) (by omega) (lv_sub hl [1, 0] rfl)
          · skip
            refine lv_iconst (v := 1) hx hb d_Screen_hasKeyToNowhere_28 (by decide) ?_
            exact mq_iret hQ C X hr rfl hlk (⟨rfl, by rw [anyK_t (k := k) hk1 (by omega) (by rw [decide_eq_true (show ¬ gn k = 0 from fun z => c2 ((lg_cmp_eq _ _).mpr z)), decide_eq_true c3]; rfl)]; rfl⟩) (by omega) (by omega) d_Screen_hasKeyToNowhere_29
  exact lp (10 - 1 + 1) 1 1 ls  rfl (Nat.le_refl _) (by decide) rfl (Nat.lt_succ_self _) (lv_sub hl [1, 0] rfl)
theorem d_Screen_init_0 : decode prog_7_method_1_code 0 = .ok (.aload_n 0, 1) := by decide +kernel
theorem d_Screen_init_1 : decode prog_7_method_1_code 1 = .ok (.invokespecial 3, 3) := by decide +kernel
theorem d_Screen_init_4 : decode prog_7_method_1_code 4 = .ok (.aload_n 0, 1) := by decide +kernel
theorem d_Screen_init_5 : decode prog_7_method_1_code 5 = .ok (.new 9, 3) := by decide +kernel
theorem d_Screen_init_8 : decode prog_7_method_1_code 8 = .ok (.dup, 1) := by decide +kernel
theorem d_Screen_init_9 : decode prog_7_method_1_code 9 = .ok (.invokespecial 11, 3) := by decide +kernel
theorem d_Screen_init_12 : decode prog_7_method_1_code 12 = .ok (.putfield 12, 3) := by decide +kernel
theorem d_Screen_init_15 : decode prog_7_method_1_code 15 = .ok (.aload_n 0, 1) := by decide +kernel
theorem d_Screen_init_16 : decode prog_7_method_1_code 16 = .ok (.bipush 10, 2) := by decide +kernel
theorem d_Screen_init_18 : decode prog_7_method_1_code 18 = .ok (.newarray .long, 2) := by decide +kernel
theorem d_Screen_init_20 : decode prog_7_method_1_code 20 = .ok (.putfield 18, 3) := by decide +kernel
theorem d_Screen_init_23 : decode prog_7_method_1_code 23 = .ok (.aload_n 0, 1) := by decide +kernel
theorem d_Screen_init_24 : decode prog_7_method_1_code 24 = .ok (.bipush 10, 2) := by decide +kernel
theorem d_Screen_init_26 : decode prog_7_method_1_code 26 = .ok (.newarray .int, 2) := by decide +kernel
theorem d_Screen_init_28 : decode prog_7_method_1_code 28 = .ok (.putfield 22, 3) := by decide +kernel
theorem d_Screen_init_31 : decode prog_7_method_1_code 31 = .ok (.aload_n 0, 1) := by decide +kernel
theorem d_Screen_init_32 : decode prog_7_method_1_code 32 = .ok (.sipush 999, 3) := by decide +kernel
theorem d_Screen_init_35 : decode prog_7_method_1_code 35 = .ok (.putfield 26, 3) := by decide +kernel
theorem d_Screen_init_38 : decode prog_7_method_1_code 38 = .ok (.aload_n 0, 1) := by decide +kernel
theorem d_Screen_init_39 : decode prog_7_method_1_code 39 = .ok (.lload_n 1, 1) := by decide +kernel
theorem d_Screen_init_40 : decode prog_7_method_1_code 40 = .ok (.putfield 30, 3) := by decide +kernel
theorem d_Screen_init_43 : decode prog_7_method_1_code 43 = .ok (.aload_n 0, 1) := by decide +kernel
theorem d_Screen_init_44 : decode prog_7_method_1_code 44 = .ok (.iload_n 3, 1) := by decide +kernel
theorem d_Screen_init_45 : decode prog_7_method_1_code 45 = .ok (.putfield 34, 3) := by decide +kernel
theorem d_Screen_init_48 : decode prog_7_method_1_code 48 = .ok (.return_, 1) := by decide +kernel
set_option maxRecDepth 100000 in
set_option maxHeartbeats 4000000 in
theorem cm_Screen_init {l : Launch} {S0 : State} {b : Nat} {D : va_G} {dT : Nat → ClassId} (hE : vEnv S0 b D dT) {dE mO : Nat} (hJ : vJ S0 dE mO) {h0 : vH} {a : Nat} {nm : Int64} {ln : Int32} (ka : h0 a = some (.inr (9, [.long 0, .int 0, .null, .null, .null, .int 0, .int 0]))) (wa : S0.heap.size ≤ a) : vMv l S0 D vcl GT y_Screen_init prog_7_method_1_code 4 none 4 72 3 23 [.ref a, .long nm, .int ln] h0 (fun h' => ∃ q12 q14 q15, (h0 q12 = none ∧ S0.heap.size ≤ q12) ∧ (h0 q14 = none ∧ S0.heap.size ≤ q14) ∧ (h0 q15 = none ∧ S0.heap.size ≤ q15) ∧ (q12 ≠ q14 ∧ q12 ≠ q15 ∧ q14 ≠ q15) ∧ h' = vup (vup (vup (vup h0 q12 (eLst dE 0 0)) q14 (aL dT 10 (fun _ => 0))) q15 (aI dT 10 (fun _ => 0))) a (eScr nm ln q12 q14 q15 999 0)) := by
  unfold vMv
  refine vM_ofQ hE.1 (by decide) (Nat.le_of_ble_eq_true rfl) (fun p e s m args below meth c ls Q hQ C hr hlk hnm X hl => ?_)
  have C : vC p s m _ c _ _ "MenuScreens$Screen" GT D vcl (vty dT) := C
  have hx := C.1.1
  have hb := C.1.2.1
  obtain ⟨H, eH⟩ : ∃ z, z = s.heap := ⟨_, rfl⟩
  obtain ⟨locs, elocs⟩ : ∃ z : List Loc, z = [] := ⟨_, rfl⟩
  rw [← eH, ← elocs] at X
  rw [← eH, ← elocs]
  clear eH elocs
  have hl : lv_has ls 4 [(0, .ref a), (1, .long nm), (3, .int ln)] := hl
  refine lv_aload_n hx hb d_Screen_init_0 rfl (lv_at hl 0 rfl) ?_
  refine mv_obj C hl.1 ⟨gt_3 174 (by decide +kernel) rfl, gt_1 34 (by decide +kernel) rfl, gt_1 35 (rfl) rfl⟩ (Nat.le_of_ble_eq_true rfl) (Nat.le_of_ble_eq_true rfl) d_Screen_init_1 ?_
  refine lv_aload_n hx hb d_Screen_init_4 rfl (lv_at hl 0 rfl) ?_
  refine mv_new C X n_6_9 (by show 0 + 1 ≤ 3; omega) (by show 0 + 3 ≤ 23; omega) d_Screen_init_5 (fun q1 H z_q1 w_q1 X => ?_)
  have n_a_q1 : a ≠ q1 := vnf ka z_q1
  have X : vO S0 D vcl (vup h0 q1 (.inr (2, [.null, .int 0, .int 0]))) s H locs := X
  change W _ _ _ _ _ _ _ _ _ _ _ _ (0 + 1) (0 + 3) _ _
  refine lv_dup hx hb d_Screen_init_8 rfl ?_
  refine mv_bv X (mv_rI (rest := [.ref q1, .ref a]) (As := []) gt_good C X k_6_11 (cm_ArrayList_init hE hJ (vup_s _ _ _) w_q1) ⟨Nat.le_of_ble_eq_true rfl, Nat.le_of_ble_eq_true rfl⟩ rfl hl.1 rfl (Nat.le_of_ble_eq_true rfl) d_Screen_init_9 ⟨by show (0 + 1) + 0 ≤ 3; omega, by show (0 + 3) + 0 ≤ 23; omega⟩) (fun hN H locs hp X => ?_)
  replace hp := hp.symm
  subst hp
  have X : vO S0 D vcl (vup (vup h0 q1 (.inr (2, [.null, .int 0, .int 0]))) q1 (.inr (2, [.ref dE, .int 0, .int 0]))) s H locs := X
  refine mv_putF C X ((vup_n _ _ n_a_q1).trans ((vup_n _ _ n_a_q1).trans ka)) wa 2 hnm p_6_12_9 rfl rfl (Nat.le_of_ble_eq_true rfl) d_Screen_init_12 (fun H locs X => ?_)
  have X : vO S0 D vcl (vup (vup (vup h0 q1 (.inr (2, [.null, .int 0, .int 0]))) q1 (.inr (2, [.ref dE, .int 0, .int 0]))) a (.inr (9, [.long 0, .int 0, .ref q1, .null, .null, .int 0, .int 0]))) s H locs := X
  refine lv_aload_n hx hb d_Screen_init_15 rfl (lv_at hl 0 rfl) ?_
  refine lv_bipush (v := 10) hx hb d_Screen_init_16 (by decide) ?_
  refine mv_newa C X (gt_1 183 (by decide +kernel) rfl) (ty := .long) rfl 1 rfl 10 (a0 := (10, .inr (.inl (fun _ => 0)))) (fun _ => rfl) rfl (by decide) (by show 10 * 8 ≤ _; omega) (by show ((0 + 1) + 0) + 1 ≤ 3; omega) (by show ((0 + 3) + 0) + 10 ≤ 23; omega) d_Screen_init_18 (fun q3 H z_q3 w_q3 X => ?_)
  have n_a_q3 : a ≠ q3 := vnf (vup_s _ _ _) z_q3
  have n_q1_q3 : q1 ≠ q3 := vnf ((vup_n _ _ (Ne.symm n_a_q1)).trans (vup_s _ _ _)) z_q3
  have X : vO S0 D vcl (vup (vup (vup (vup h0 q1 (.inr (2, [.null, .int 0, .int 0]))) q1 (.inr (2, [.ref dE, .int 0, .int 0]))) a (.inr (9, [.long 0, .int 0, .ref q1, .null, .null, .int 0, .int 0]))) q3 (.inl (dT 1, 10, .inr (.inl (fun _ => 0))))) s H locs := X
  refine mv_putF C X ((vup_n _ _ n_a_q3).trans (vup_s _ _ _)) wa 3 hnm p_6_18_9 rfl rfl (Nat.le_of_ble_eq_true rfl) d_Screen_init_20 (fun H locs X => ?_)
  have X : vO S0 D vcl (vup (vup (vup (vup (vup h0 q1 (.inr (2, [.null, .int 0, .int 0]))) q1 (.inr (2, [.ref dE, .int 0, .int 0]))) a (.inr (9, [.long 0, .int 0, .ref q1, .null, .null, .int 0, .int 0]))) q3 (.inl (dT 1, 10, .inr (.inl (fun _ => 0))))) a (.inr (9, [.long 0, .int 0, .ref q1, .ref q3, .null, .int 0, .int 0]))) s H locs := X
  refine lv_aload_n hx hb d_Screen_init_23 rfl (lv_at hl 0 rfl) ?_
  refine lv_bipush (v := 10) hx hb d_Screen_init_24 (by decide) ?_
  refine mv_newa C X (gt_1 123 (by decide +kernel) rfl) (ty := .int) rfl 0 rfl 10 (a0 := (10, .inl (fun _ => 0))) (fun _ => rfl) rfl (by decide) (by show 10 * 4 ≤ _; omega) (by show (((0 + 1) + 0) + 1) + 1 ≤ 3; omega) (by show (((0 + 3) + 0) + 10) + 10 ≤ 23; omega) d_Screen_init_26 (fun q4 H z_q4 w_q4 X => ?_)
  have n_a_q4 : a ≠ q4 := vnf (vup_s _ _ _) z_q4
  have n_q1_q4 : q1 ≠ q4 := vnf ((vup_n _ _ (Ne.symm n_a_q1)).trans ((vup_n _ _ n_q1_q3).trans ((vup_n _ _ (Ne.symm n_a_q1)).trans (vup_s _ _ _)))) z_q4
  have n_q3_q4 : q3 ≠ q4 := vnf ((vup_n _ _ (Ne.symm n_a_q3)).trans (vup_s _ _ _)) z_q4
  have X : vO S0 D vcl (vup (vup (vup (vup (vup (vup h0 q1 (.inr (2, [.null, .int 0, .int 0]))) q1 (.inr (2, [.ref dE, .int 0, .int 0]))) a (.inr (9, [.long 0, .int 0, .ref q1, .null, .null, .int 0, .int 0]))) q3 (.inl (dT 1, 10, .inr (.inl (fun _ => 0))))) a (.inr (9, [.long 0, .int 0, .ref q1, .ref q3, .null, .int 0, .int 0]))) q4 (.inl (dT 0, 10, .inl (fun _ => 0)))) s H locs := X
  refine mv_putF C X ((vup_n _ _ n_a_q4).trans (vup_s _ _ _)) wa 4 hnm p_6_22_9 rfl rfl (Nat.le_of_ble_eq_true rfl) d_Screen_init_28 (fun H locs X => ?_)
  have X : vO S0 D vcl (vup (vup (vup (vup (vup (vup (vup h0 q1 (.inr (2, [.null, .int 0, .int 0]))) q1 (.inr (2, [.ref dE, .int 0, .int 0]))) a (.inr (9, [.long 0, .int 0, .ref q1, .null, .null, .int 0, .int 0]))) q3 (.inl (dT 1, 10, .inr (.inl (fun _ => 0))))) a (.inr (9, [.long 0, .int 0, .ref q1, .ref q3, .null, .int 0, .int 0]))) q4 (.inl (dT 0, 10, .inl (fun _ => 0)))) a (.inr (9, [.long 0, .int 0, .ref q1, .ref q3, .ref q4, .int 0, .int 0]))) s H locs := X
  refine lv_aload_n hx hb d_Screen_init_31 rfl (lv_at hl 0 rfl) ?_
  refine lv_sipush (v := 999) hx hb d_Screen_init_32 (by decide) ?_
  refine mv_put C X (vup_s _ _ _) wa 5 p_6_26_9 rfl rfl (Nat.le_of_ble_eq_true rfl) d_Screen_init_35 (fun H locs X => ?_)
  rw [vup_u] at X
  have X : vO S0 D vcl (vup (vup (vup (vup (vup (vup (vup h0 q1 (.inr (2, [.null, .int 0, .int 0]))) q1 (.inr (2, [.ref dE, .int 0, .int 0]))) a (.inr (9, [.long 0, .int 0, .ref q1, .null, .null, .int 0, .int 0]))) q3 (.inl (dT 1, 10, .inr (.inl (fun _ => 0))))) a (.inr (9, [.long 0, .int 0, .ref q1, .ref q3, .null, .int 0, .int 0]))) q4 (.inl (dT 0, 10, .inl (fun _ => 0)))) a (.inr (9, [.long 0, .int 0, .ref q1, .ref q3, .ref q4, .int 999, .int 0]))) s H locs := X
  refine lv_aload_n hx hb d_Screen_init_38 rfl (lv_at hl 0 rfl) ?_
  refine lv_lload_n hx hb d_Screen_init_39 rfl (lv_at hl 1 rfl) ?_
  refine mv_putF C X (vup_s _ _ _) wa 0 hnm p_6_30_9 rfl rfl (Nat.le_of_ble_eq_true rfl) d_Screen_init_40 (fun H locs X => ?_)
  rw [vup_u] at X
  have X : vO S0 D vcl (vup (vup (vup (vup (vup (vup (vup h0 q1 (.inr (2, [.null, .int 0, .int 0]))) q1 (.inr (2, [.ref dE, .int 0, .int 0]))) a (.inr (9, [.long 0, .int 0, .ref q1, .null, .null, .int 0, .int 0]))) q3 (.inl (dT 1, 10, .inr (.inl (fun _ => 0))))) a (.inr (9, [.long 0, .int 0, .ref q1, .ref q3, .null, .int 0, .int 0]))) q4 (.inl (dT 0, 10, .inl (fun _ => 0)))) a (.inr (9, [.long nm, .int 0, .ref q1, .ref q3, .ref q4, .int 999, .int 0]))) s H locs := X
  refine lv_aload_n hx hb d_Screen_init_43 rfl (lv_at hl 0 rfl) ?_
  refine lv_iload_n hx hb d_Screen_init_44 rfl (lv_at hl 2 rfl) ?_
  refine mv_putF C X (vup_s _ _ _) wa 1 hnm p_6_34_9 rfl rfl (Nat.le_of_ble_eq_true rfl) d_Screen_init_45 (fun H locs X => ?_)
  rw [vup_u] at X
  have X : vO S0 D vcl (vup (vup (vup (vup (vup (vup (vup h0 q1 (.inr (2, [.null, .int 0, .int 0]))) q1 (.inr (2, [.ref dE, .int 0, .int 0]))) a (.inr (9, [.long 0, .int 0, .ref q1, .null, .null, .int 0, .int 0]))) q3 (.inl (dT 1, 10, .inr (.inl (fun _ => 0))))) a (.inr (9, [.long 0, .int 0, .ref q1, .ref q3, .null, .int 0, .int 0]))) q4 (.inl (dT 0, 10, .inl (fun _ => 0)))) a (.inr (9, [.long nm, .int ln, .ref q1, .ref q3, .ref q4, .int 999, .int 0]))) s H locs := X
  exact mq_vret hQ C X hr hlk (⟨q1, q3, q4, ⟨z_q1, w_q1⟩, ⟨((vup_n _ _ (Ne.symm n_q1_q3)).symm.trans ((vup_n _ _ (Ne.symm n_q1_q3)).symm.trans ((vup_n _ _ (Ne.symm n_a_q3)).symm.trans z_q3))), w_q3⟩, ⟨((vup_n _ _ (Ne.symm n_q1_q4)).symm.trans ((vup_n _ _ (Ne.symm n_q1_q4)).symm.trans ((vup_n _ _ (Ne.symm n_a_q4)).symm.trans ((vup_n _ _ (Ne.symm n_q3_q4)).symm.trans ((vup_n _ _ (Ne.symm n_a_q4)).symm.trans z_q4))))), w_q4⟩, ⟨n_q1_q3, n_q1_q4, n_q3_q4⟩, funext (fun b0 => by
      by_cases e1 : b0 = a
      · rw [e1]; simp only [vup_s]
      · by_cases e4 : b0 = q4
        · rw [e4]; simp only [vup_s, vup_n _ _ (Ne.symm n_a_q4)]
        · by_cases e3 : b0 = q3
          · rw [e3]; simp only [vup_s, vup_n _ _ (Ne.symm n_a_q3), vup_n _ _ n_q3_q4]
          · by_cases e2 : b0 = q1
            · rw [e2]; simp only [vup_s, vup_n _ _ (Ne.symm n_a_q1), vup_n _ _ n_q1_q3, vup_n _ _ n_q1_q4]; rfl
            · simp only [vup_n _ _ e1, vup_n _ _ e2, vup_n _ _ e3, vup_n _ _ e4])⟩) (by omega) (by omega) d_Screen_init_48
