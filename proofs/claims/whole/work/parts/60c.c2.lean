theorem d_WordPiece_signAt_0 : decode prog_11_method_2_code 0 = .ok (.iload_n 2, 1) := by decide +kernel
theorem d_WordPiece_signAt_1 : decode prog_11_method_2_code 1 = .ok (.iconst 1, 1) := by decide +kernel
theorem d_WordPiece_signAt_2 : decode prog_11_method_2_code 2 = .ok (.if_icmp .ne 10, 3) := by decide +kernel
theorem d_WordPiece_signAt_5 : decode prog_11_method_2_code 5 = .ok (.aload_n 0, 1) := by decide +kernel
theorem d_WordPiece_signAt_6 : decode prog_11_method_2_code 6 = .ok (.getfield 15, 3) := by decide +kernel
theorem d_WordPiece_signAt_9 : decode prog_11_method_2_code 9 = .ok (.goto 7, 3) := by decide +kernel
theorem d_WordPiece_signAt_12 : decode prog_11_method_2_code 12 = .ok (.aload_n 0, 1) := by decide +kernel
theorem d_WordPiece_signAt_13 : decode prog_11_method_2_code 13 = .ok (.getfield 9, 3) := by decide +kernel
theorem d_WordPiece_signAt_16 : decode prog_11_method_2_code 16 = .ok (.astore_n 3, 1) := by decide +kernel
theorem d_WordPiece_signAt_17 : decode prog_11_method_2_code 17 = .ok (.iload_n 1, 1) := by decide +kernel
theorem d_WordPiece_signAt_18 : decode prog_11_method_2_code 18 = .ok (.ifCond .lt 19, 3) := by decide +kernel
theorem d_WordPiece_signAt_21 : decode prog_11_method_2_code 21 = .ok (.iload_n 1, 1) := by decide +kernel
theorem d_WordPiece_signAt_22 : decode prog_11_method_2_code 22 = .ok (.aload_n 3, 1) := by decide +kernel
theorem d_WordPiece_signAt_23 : decode prog_11_method_2_code 23 = .ok (.invokevirtual 18, 3) := by decide +kernel
theorem d_WordPiece_signAt_26 : decode prog_11_method_2_code 26 = .ok (.if_icmp .ge 11, 3) := by decide +kernel
theorem d_WordPiece_signAt_29 : decode prog_11_method_2_code 29 = .ok (.aload_n 3, 1) := by decide +kernel
theorem d_WordPiece_signAt_30 : decode prog_11_method_2_code 30 = .ok (.iload_n 1, 1) := by decide +kernel
theorem d_WordPiece_signAt_31 : decode prog_11_method_2_code 31 = .ok (.invokevirtual 24, 3) := by decide +kernel
theorem d_WordPiece_signAt_34 : decode prog_11_method_2_code 34 = .ok (.goto 4, 3) := by decide +kernel
theorem d_WordPiece_signAt_37 : decode prog_11_method_2_code 37 = .ok (.iconst 0, 1) := by decide +kernel
theorem d_WordPiece_signAt_38 : decode prog_11_method_2_code 38 = .ok (.ireturn, 1) := by decide +kernel
set_option maxRecDepth 100000 in
set_option maxHeartbeats 4000000 in
theorem cm_WordPiece_signAt {l : Launch} {S0 : State} {b : Nat} {D : va_G} {dT : Nat → ClassId} (hE : vEnv S0 b D dT) {dE mO : Nat} (hJ : vJ S0 dE mO) {h0 : vH} {a w1 w2 v1 v2 n1 n2 : Nat} {pl lg : Int32} {f1 f2 : Nat → Int32} {r1 r2 r3 s1 s2 s3 s4 : Value} (b1 : n1 < 2 ^ 30) (b2 : n2 < 2 ^ 30) (g1 : ∀ k, k < n1 → ∃ c, c < 128 ∧ f1 k = nI c) (g2 : ∀ k, k < n2 → ∃ c, c < 128 ∧ f2 k = nI c) (ka : h0 a = some (.inr (10, [.ref w1, .ref w2, r1, r2, r3]))) (kw1 : h0 w1 = some (.inr (0, [.ref v1, .int 0, s1, s2]))) (kv1 : h0 v1 = some (.inl (dT 2, n1, .inl f1))) (kw2 : h0 w2 = some (.inr (0, [.ref v2, .int 0, s3, s4]))) (kv2 : h0 v2 = some (.inl (dT 2, n2, .inl f2))) : vMi l S0 D vcl GT y_WordPiece_signAt prog_11_method_2_code 4 (some .int) 4 85 0 0 [.ref a, .int pl, .int lg] h0 (fun r h' => h' = h0 ∧ r = (if lg = 1 then wSg f2 n2 pl else wSg f1 n1 pl)) := by
  unfold vMi
  refine vM_ofQ hE.1 (by decide) (Nat.le_of_ble_eq_true rfl) (fun p e s m args below meth c ls Q hQ C hr hlk hnm X hl => ?_)
  have C : vC p s m _ c _ _ "MenuScreens$WordPiece" GT D vcl (vty dT) := C
  have hx := C.1.1
  have hb := C.1.2.1
  obtain ⟨H, eH⟩ : ∃ z, z = s.heap := ⟨_, rfl⟩
  obtain ⟨locs, elocs⟩ : ∃ z : List Loc, z = [] := ⟨_, rfl⟩
  rw [← eH, ← elocs] at X
  rw [← eH, ← elocs]
  clear eH elocs
  have hl : lv_has ls 4 [(0, .ref a), (1, .int pl), (2, .int lg)] := hl
  refine lv_iload_n hx hb d_WordPiece_signAt_0 rfl (lv_at hl 2 rfl) ?_
  refine lv_iconst (v := 1) hx hb d_WordPiece_signAt_1 (by decide) ?_
  refine lv_icmp_ne (tgt := 12) hx hb d_WordPiece_signAt_2 (by decide) (fun c1 => ?_) (fun c1 => ?_)
  · skip
    refine lv_aload_n hx hb d_WordPiece_signAt_12 rfl (lv_at hl 0 rfl) ?_
    refine mv_get C X ka 0 f_10_9_10 (v := .ref w1) rfl d_WordPiece_signAt_13 ?_
    refine lv_astore_n (lv' := [(3, .ref w1), (0, .ref a), (1, .int pl), (2, .int lg)]) hx hb d_WordPiece_signAt_16 rfl hl (by decide) rfl (fun ls hl => ?_)
    refine lv_iload_n hx hb d_WordPiece_signAt_17 rfl (lv_at hl 2 rfl) ?_
    refine lv_if_lt (tgt := 37) hx hb d_WordPiece_signAt_18 (by decide) (fun c2 => ?_) (fun c2 => ?_)
    · skip
      refine lv_iconst (v := 0) hx hb d_WordPiece_signAt_37 (by decide) ?_
      exact mq_iret hQ C X hr rfl hlk (⟨rfl, by rw [if_neg c1, wSg, if_pos c2]⟩) (by omega) (by omega) d_WordPiece_signAt_38
    · skip
      obtain ⟨j, hj0, ej⟩ := nI_of c2
      refine lv_iload_n hx hb d_WordPiece_signAt_21 rfl (lv_at hl 2 rfl) ?_
      refine lv_aload_n hx hb d_WordPiece_signAt_22 rfl (lv_at hl 0 rfl) ?_
      refine mv_bi X (mv_rV (rest := [.int pl]) (As := []) gt_good C X k_10_18 (cm_String_length hE hJ (by omega) kw1 kv1) kw1 rfl rfl ⟨Nat.le_of_ble_eq_true rfl, Nat.le_of_ble_eq_true rfl⟩ rfl hl.1 rfl (Nat.le_of_ble_eq_true rfl) d_WordPiece_signAt_23 ⟨Nat.zero_le _, Nat.zero_le _⟩) (fun r3 hN H locs hp X => ?_)
      obtain ⟨eh, er⟩ := hp
      replace eh := eh.symm
      replace er := er.symm
      subst eh er
      refine lv_icmp_ge (tgt := 37) hx hb d_WordPiece_signAt_26 (by decide) (fun c4 => ?_) (fun c4 => ?_)
      · skip
        refine lv_iconst (v := 0) hx hb d_WordPiece_signAt_37 (by decide) ?_
        exact mq_iret hQ C X hr rfl hlk (⟨rfl, by rw [if_neg c1, wSg, if_neg c2, if_neg (Int32.not_lt.mpr c4)]⟩) (by omega) (by omega) d_WordPiece_signAt_38
      · skip
        have hjn : j < n1 := (nI_ltI hj0 (by omega)).mp (by rw [← ej]; exact Int32.not_le.mp c4)
        obtain ⟨c0, hc0, ec0⟩ := g1 j hjn
        refine lv_aload_n hx hb d_WordPiece_signAt_29 rfl (lv_at hl 0 rfl) ?_
        refine lv_iload_n hx hb d_WordPiece_signAt_30 rfl (lv_at hl 2 rfl) ?_
        rw [ej]
        refine mv_bi X (mv_rV (rest := []) (As := [.int (nI j)]) gt_good C X k_10_24 (cm_String_charAt hE hJ (by omega) hjn ec0 hc0 kw1 kv1) kw1 rfl rfl ⟨Nat.le_of_ble_eq_true rfl, Nat.le_of_ble_eq_true rfl⟩ rfl hl.1 rfl (Nat.le_of_ble_eq_true rfl) d_WordPiece_signAt_31 ⟨Nat.zero_le _, Nat.zero_le _⟩) (fun r5 hN H locs hp X => ?_)
        obtain ⟨eh, er⟩ := hp
        replace eh := eh.symm
        replace er := er.symm
        subst eh er
        refine lv_goto (tgt := 38) hx hb d_WordPiece_signAt_34 (by decide) ?_
        exact mq_iret hQ C X hr rfl hlk (⟨rfl, by rw [if_neg c1, wSg, if_neg c2, if_pos (Int32.not_le.mp c4), ej, nI_clamp hj0, ec0]⟩) (by omega) (by omega) d_WordPiece_signAt_38
  · skip
    refine lv_aload_n hx hb d_WordPiece_signAt_5 rfl (lv_at hl 0 rfl) ?_
    refine mv_get C X ka 1 f_10_15_10 (v := .ref w2) rfl d_WordPiece_signAt_6 ?_
    refine lv_goto (tgt := 16) hx hb d_WordPiece_signAt_9 (by decide) ?_
    refine lv_astore_n (lv' := [(3, .ref w2), (0, .ref a), (1, .int pl), (2, .int lg)]) hx hb d_WordPiece_signAt_16 rfl hl (by decide) rfl (fun ls hl => ?_)
    refine lv_iload_n hx hb d_WordPiece_signAt_17 rfl (lv_at hl 2 rfl) ?_
    refine lv_if_lt (tgt := 37) hx hb d_WordPiece_signAt_18 (by decide) (fun c6 => ?_) (fun c6 => ?_)
    · skip
      refine lv_iconst (v := 0) hx hb d_WordPiece_signAt_37 (by decide) ?_
      exact mq_iret hQ C X hr rfl hlk (⟨rfl, by rw [if_pos c1, wSg, if_pos c6]⟩) (by omega) (by omega) d_WordPiece_signAt_38
    · skip
      obtain ⟨j, hj0, ej⟩ := nI_of c6
      refine lv_iload_n hx hb d_WordPiece_signAt_21 rfl (lv_at hl 2 rfl) ?_
      refine lv_aload_n hx hb d_WordPiece_signAt_22 rfl (lv_at hl 0 rfl) ?_
      refine mv_bi X (mv_rV (rest := [.int pl]) (As := []) gt_good C X k_10_18 (cm_String_length hE hJ (by omega) kw2 kv2) kw2 rfl rfl ⟨Nat.le_of_ble_eq_true rfl, Nat.le_of_ble_eq_true rfl⟩ rfl hl.1 rfl (Nat.le_of_ble_eq_true rfl) d_WordPiece_signAt_23 ⟨Nat.zero_le _, Nat.zero_le _⟩) (fun r7 hN H locs hp X => ?_)
      obtain ⟨eh, er⟩ := hp
      replace eh := eh.symm
      replace er := er.symm
      subst eh er
      refine lv_icmp_ge (tgt := 37) hx hb d_WordPiece_signAt_26 (by decide) (fun c8 => ?_) (fun c8 => ?_)
      · skip
        refine lv_iconst (v := 0) hx hb d_WordPiece_signAt_37 (by decide) ?_
        exact mq_iret hQ C X hr rfl hlk (⟨rfl, by rw [if_pos c1, wSg, if_neg c6, if_neg (Int32.not_lt.mpr c8)]⟩) (by omega) (by omega) d_WordPiece_signAt_38
      · skip
        have hjn : j < n2 := (nI_ltI hj0 (by omega)).mp (by rw [← ej]; exact Int32.not_le.mp c8)
        obtain ⟨c0, hc0, ec0⟩ := g2 j hjn
        refine lv_aload_n hx hb d_WordPiece_signAt_29 rfl (lv_at hl 0 rfl) ?_
        refine lv_iload_n hx hb d_WordPiece_signAt_30 rfl (lv_at hl 2 rfl) ?_
        rw [ej]
        refine mv_bi X (mv_rV (rest := []) (As := [.int (nI j)]) gt_good C X k_10_24 (cm_String_charAt hE hJ (by omega) hjn ec0 hc0 kw2 kv2) kw2 rfl rfl ⟨Nat.le_of_ble_eq_true rfl, Nat.le_of_ble_eq_true rfl⟩ rfl hl.1 rfl (Nat.le_of_ble_eq_true rfl) d_WordPiece_signAt_31 ⟨Nat.zero_le _, Nat.zero_le _⟩) (fun r9 hN H locs hp X => ?_)
        obtain ⟨eh, er⟩ := hp
        replace eh := eh.symm
        replace er := er.symm
        subst eh er
        refine lv_goto (tgt := 38) hx hb d_WordPiece_signAt_34 (by decide) ?_
        exact mq_iret hQ C X hr rfl hlk (⟨rfl, by rw [if_pos c1, wSg, if_neg c6, if_pos (Int32.not_le.mp c8), ej, nI_clamp hj0, ec0]⟩) (by omega) (by omega) d_WordPiece_signAt_38
theorem d_ValuePiece_digitsOf_0 : decode prog_9_method_4_code 0 = .ok (.iconst 1, 1) := by decide +kernel
theorem d_ValuePiece_digitsOf_1 : decode prog_9_method_4_code 1 = .ok (.istore_n 2, 1) := by decide +kernel
theorem d_ValuePiece_digitsOf_2 : decode prog_9_method_4_code 2 = .ok (.lload_n 0, 1) := by decide +kernel
theorem d_ValuePiece_digitsOf_3 : decode prog_9_method_4_code 3 = .ok (.ldc2_w 47, 3) := by decide +kernel
theorem d_ValuePiece_digitsOf_6 : decode prog_9_method_4_code 6 = .ok (.ldiv, 1) := by decide +kernel
theorem d_ValuePiece_digitsOf_7 : decode prog_9_method_4_code 7 = .ok (.lstore_n 3, 1) := by decide +kernel
theorem d_ValuePiece_digitsOf_8 : decode prog_9_method_4_code 8 = .ok (.lload_n 3, 1) := by decide +kernel
theorem d_ValuePiece_digitsOf_9 : decode prog_9_method_4_code 9 = .ok (.lconst 0, 1) := by decide +kernel
theorem d_ValuePiece_digitsOf_10 : decode prog_9_method_4_code 10 = .ok (.lcmp, 1) := by decide +kernel
theorem d_ValuePiece_digitsOf_11 : decode prog_9_method_4_code 11 = .ok (.ifCond .le 21, 3) := by decide +kernel
theorem d_ValuePiece_digitsOf_14 : decode prog_9_method_4_code 14 = .ok (.iload_n 2, 1) := by decide +kernel
theorem d_ValuePiece_digitsOf_15 : decode prog_9_method_4_code 15 = .ok (.bipush 20, 2) := by decide +kernel
theorem d_ValuePiece_digitsOf_17 : decode prog_9_method_4_code 17 = .ok (.if_icmp .ge 15, 3) := by decide +kernel
theorem d_ValuePiece_digitsOf_20 : decode prog_9_method_4_code 20 = .ok (.iinc 2 1, 3) := by decide +kernel
theorem d_ValuePiece_digitsOf_23 : decode prog_9_method_4_code 23 = .ok (.lload_n 3, 1) := by decide +kernel
theorem d_ValuePiece_digitsOf_24 : decode prog_9_method_4_code 24 = .ok (.ldc2_w 47, 3) := by decide +kernel
theorem d_ValuePiece_digitsOf_27 : decode prog_9_method_4_code 27 = .ok (.ldiv, 1) := by decide +kernel
theorem d_ValuePiece_digitsOf_28 : decode prog_9_method_4_code 28 = .ok (.lstore_n 3, 1) := by decide +kernel
theorem d_ValuePiece_digitsOf_29 : decode prog_9_method_4_code 29 = .ok (.goto (-21), 3) := by decide +kernel
theorem d_ValuePiece_digitsOf_32 : decode prog_9_method_4_code 32 = .ok (.iload_n 2, 1) := by decide +kernel
theorem d_ValuePiece_digitsOf_33 : decode prog_9_method_4_code 33 = .ok (.ireturn, 1) := by decide +kernel
set_option maxRecDepth 100000 in
set_option maxHeartbeats 4000000 in
theorem cm_ValuePiece_digitsOf {l : Launch} {S0 : State} {b : Nat} {D : va_G} {dT : Nat → ClassId} (hE : vEnv S0 b D dT) {h0 : vH} {m0 : Nat} (hm : m0 ≤ 999999) : vMi l S0 D vcl GT y_ValuePiece_digitsOf prog_9_method_4_code 5 (some .int) 0 0 0 0 [.long (lN m0)] h0 (fun r h' => h' = h0 ∧ r = nI (dgc m0)) := by
  unfold vMi
  refine vM_ofQ hE.1 (by decide) (Nat.le_of_ble_eq_true rfl) (fun p e s m args below meth c ls Q hQ C hr hlk hnm X hl => ?_)
  have C : vC p s m _ c _ _ "MenuScreens$ValuePiece" GT D vcl (vty dT) := C
  have hx := C.1.1
  have hb := C.1.2.1
  obtain ⟨H, eH⟩ : ∃ z, z = s.heap := ⟨_, rfl⟩
  obtain ⟨locs, elocs⟩ : ∃ z : List Loc, z = [] := ⟨_, rfl⟩
  rw [← eH, ← elocs] at X
  rw [← eH, ← elocs]
  clear eH elocs
  have hl : lv_has ls 5 [(0, .long (lN m0))] := hl
  refine lv_iconst (v := 1) hx hb d_ValuePiece_digitsOf_0 (by decide) ?_
  refine lv_istore_n (lv' := [(2, .int 1), (0, .long (lN m0))]) hx hb d_ValuePiece_digitsOf_1 rfl hl (by decide) rfl (fun ls hl => ?_)
  refine lv_lload_n hx hb d_ValuePiece_digitsOf_2 rfl (lv_at hl 1 rfl) ?_
  refine lv_ldc2 (v := 10) hx hb C.1.2.2.2.1 (C.1.2.2.2.2 _ (gt_4 163 (by decide +kernel) rfl)) d_ValuePiece_digitsOf_3 ?_
  refine lv_ldiv hx hb d_ValuePiece_digitsOf_6 (by decide) ?_
  refine lv_lstore_n (lv' := [(3, .long ((lN m0) / 10)), (2, .int 1), (0, .long (lN m0))]) hx hb d_ValuePiece_digitsOf_7 rfl hl (by decide) rfl (fun ls hl => ?_)
  have lp : ∀ (n_lp : Nat) (d : Nat) (i : Int32) (u : Int64) (ls : Array Slot), (i = nI d) → (u = lN (m0 / 10 ^ d)) → (1 ≤ d) → (d ≤ 6) → (d = 1 ∨ 10 ^ d ≤ 10 * m0) → (7 - d) < n_lp → lv_has ls 5 [(0, .long (lN m0)), (2, .int i), (3, .long u)] → W p l e (vRm 0 0 0 0) s m args below meth c H locs 0 0 Q (F0 m 8 ls []) := by
    intro n_lp
    induction n_lp with
    | zero => intros; exact absurd (by assumption) (Nat.not_lt_zero _)
    | succ n_lp ih_lp =>
      intro d i u ls ei eu hd1 hd2 hd3 hmu_lp hl
      refine lv_lload_n hx hb d_ValuePiece_digitsOf_8 rfl (lv_at hl 2 rfl) ?_
      refine lv_lconst (v := 0) hx hb d_ValuePiece_digitsOf_9 (by decide) ?_
      refine W.lcmp hx hb d_ValuePiece_digitsOf_10 ?_
      refine lv_if_le (tgt := 32) hx hb d_ValuePiece_digitsOf_11 (by decide) (fun c1 => ?_) (fun c1 => ?_)
      · skip
        refine lv_iload_n hx hb d_ValuePiece_digitsOf_32 rfl (lv_at hl 1 rfl) ?_
        exact mq_iret hQ C X hr rfl hlk (⟨rfl, by
            rw [ei]
            have h0 : m0 < 10 ^ d := by
              have := (lg_cmp_le _ _).mp c1
              rw [eu] at this
              have h1 := (pk_lLE (b := 0) (by have := Nat.div_le_self m0 (10 ^ d); omega) (by decide)).mp this
              have h2 := Nat.div_eq_zero_iff.mp (Nat.le_zero.mp h1)
              have := Nat.pow_pos (n := d) (show 0 < 10 by decide)
              omega
            rw [isD_dgc ⟨hd1, hd2, h0, hd3⟩]⟩) (by omega) (by omega) d_ValuePiece_digitsOf_33
      · skip
        have hle : 10 ^ d ≤ m0 := by
          have := Int64.not_le.mp (fun z => c1 ((lg_cmp_le _ _).mpr z))
          rw [eu] at this
          have := (pk_lLT (a := 0) (by decide) (by have := Nat.div_le_self m0 (10 ^ d); omega)).mp this
          exact (Nat.div_pos_iff.mp this).2
        have hd5 : d ≤ 5 := by
          rcases Nat.lt_or_ge 5 d with q | q
          · have q6 : d = 6 := by omega
            rw [q6] at hle
            omega
          · exact q
        refine lv_iload_n hx hb d_ValuePiece_digitsOf_14 rfl (lv_at hl 1 rfl) ?_
        refine lv_bipush (v := 20) hx hb d_ValuePiece_digitsOf_15 (by decide) ?_
        refine lv_icmp_ge (tgt := 32) hx hb d_ValuePiece_digitsOf_17 (by decide) (fun z => absurd z (by rw [ei]; exact nI_ge (a := d) (b := 20) (by omega) (by decide))) (fun c2 => ?_)
        refine lv_iinc (v := (i + 1)) (lv' := [(2, .int (i + 1)), (0, .long (lN m0)), (3, .long u)]) hx hb d_ValuePiece_digitsOf_20 hl (k := 1) rfl rfl (by decide) rfl (fun ls hl => ?_)
        refine lv_lload_n hx hb d_ValuePiece_digitsOf_23 rfl (lv_at hl 2 rfl) ?_
        refine lv_ldc2 (v := 10) hx hb C.1.2.2.2.1 (C.1.2.2.2.2 _ (gt_4 163 (by decide +kernel) rfl)) d_ValuePiece_digitsOf_24 ?_
        refine lv_ldiv hx hb d_ValuePiece_digitsOf_27 (by decide) ?_
        refine lv_lstore_n (lv' := [(3, .long (u / 10)), (2, .int (i + 1)), (0, .long (lN m0))]) hx hb d_ValuePiece_digitsOf_28 rfl hl (by decide) rfl (fun ls hl => ?_)
        refine lv_goto (tgt := 8) hx hb d_ValuePiece_digitsOf_29 (by decide) ?_
        exact ih_lp (d + 1) (i + 1) (u / 10) ls  (by rw [ei]; exact nI_1 d) (by rw [eu, Nat.pow_succ, ← Nat.div_div_eq_div_mul]; exact pk_lDiv (by have := Nat.div_le_self m0 (10 ^ d); omega) (by decide) (by decide)) (by omega) (by omega) (Or.inr (by rw [Nat.pow_succ]; omega)) (by omega) (lv_sub hl [2, 1, 0] rfl)
  exact lp (7 - 1 + 1) 1 1 ((lN m0) / 10) ls  rfl (by rw [Nat.pow_one]; exact pk_lDiv (by omega) (by decide) (by decide)) (Nat.le_refl _) (by omega) (Or.inl rfl) (Nat.lt_succ_self _) (lv_sub hl [2, 1, 0] rfl)
theorem d_ValuePiece_digitFromRight_0 : decode prog_9_method_5_code 0 = .ok (.lload_n 0, 1) := by decide +kernel
theorem d_ValuePiece_digitFromRight_1 : decode prog_9_method_5_code 1 = .ok (.lstore_n 3, 1) := by decide +kernel
theorem d_ValuePiece_digitFromRight_2 : decode prog_9_method_5_code 2 = .ok (.iconst 0, 1) := by decide +kernel
theorem d_ValuePiece_digitFromRight_3 : decode prog_9_method_5_code 3 = .ok (.istore 5, 2) := by decide +kernel
theorem d_ValuePiece_digitFromRight_5 : decode prog_9_method_5_code 5 = .ok (.iload 5, 2) := by decide +kernel
theorem d_ValuePiece_digitFromRight_7 : decode prog_9_method_5_code 7 = .ok (.iload_n 2, 1) := by decide +kernel
theorem d_ValuePiece_digitFromRight_8 : decode prog_9_method_5_code 8 = .ok (.if_icmp .ge 15, 3) := by decide +kernel
theorem d_ValuePiece_digitFromRight_11 : decode prog_9_method_5_code 11 = .ok (.lload_n 3, 1) := by decide +kernel
theorem d_ValuePiece_digitFromRight_12 : decode prog_9_method_5_code 12 = .ok (.ldc2_w 47, 3) := by decide +kernel
theorem d_ValuePiece_digitFromRight_15 : decode prog_9_method_5_code 15 = .ok (.ldiv, 1) := by decide +kernel
theorem d_ValuePiece_digitFromRight_16 : decode prog_9_method_5_code 16 = .ok (.lstore_n 3, 1) := by decide +kernel
theorem d_ValuePiece_digitFromRight_17 : decode prog_9_method_5_code 17 = .ok (.iinc 5 1, 3) := by decide +kernel
theorem d_ValuePiece_digitFromRight_20 : decode prog_9_method_5_code 20 = .ok (.goto (-15), 3) := by decide +kernel
theorem d_ValuePiece_digitFromRight_23 : decode prog_9_method_5_code 23 = .ok (.bipush 48, 2) := by decide +kernel
theorem d_ValuePiece_digitFromRight_25 : decode prog_9_method_5_code 25 = .ok (.lload_n 3, 1) := by decide +kernel
theorem d_ValuePiece_digitFromRight_26 : decode prog_9_method_5_code 26 = .ok (.ldc2_w 47, 3) := by decide +kernel
theorem d_ValuePiece_digitFromRight_29 : decode prog_9_method_5_code 29 = .ok (.lrem, 1) := by decide +kernel
theorem d_ValuePiece_digitFromRight_30 : decode prog_9_method_5_code 30 = .ok (.l2i, 1) := by decide +kernel
theorem d_ValuePiece_digitFromRight_31 : decode prog_9_method_5_code 31 = .ok (.iadd, 1) := by decide +kernel
theorem d_ValuePiece_digitFromRight_32 : decode prog_9_method_5_code 32 = .ok (.ireturn, 1) := by decide +kernel
set_option maxRecDepth 100000 in
set_option maxHeartbeats 4000000 in
theorem cm_ValuePiece_digitFromRight {l : Launch} {S0 : State} {b : Nat} {D : va_G} {dT : Nat → ClassId} (hE : vEnv S0 b D dT) {h0 : vH} {m0 k : Nat} (hm : m0 ≤ 999999) (hk : k ≤ 20) : vMi l S0 D vcl GT y_ValuePiece_digitFromRight prog_9_method_5_code 6 (some .int) 0 0 0 0 [.long (lN m0), .int (nI k)] h0 (fun r h' => h' = h0 ∧ r = nI (48 + m0 / 10 ^ k % 10)) := by
  unfold vMi
  refine vM_ofQ hE.1 (by decide) (Nat.le_of_ble_eq_true rfl) (fun p e s m args below meth c ls Q hQ C hr hlk hnm X hl => ?_)
  have C : vC p s m _ c _ _ "MenuScreens$ValuePiece" GT D vcl (vty dT) := C
  have hx := C.1.1
  have hb := C.1.2.1
  obtain ⟨H, eH⟩ : ∃ z, z = s.heap := ⟨_, rfl⟩
  obtain ⟨locs, elocs⟩ : ∃ z : List Loc, z = [] := ⟨_, rfl⟩
  rw [← eH, ← elocs] at X
  rw [← eH, ← elocs]
  clear eH elocs
  have hl : lv_has ls 6 [(0, .long (lN m0)), (2, .int (nI k))] := hl
  refine lv_lload_n hx hb d_ValuePiece_digitFromRight_0 rfl (lv_at hl 0 rfl) ?_
  refine lv_lstore_n (lv' := [(3, .long (lN m0)), (0, .long (lN m0)), (2, .int (nI k))]) hx hb d_ValuePiece_digitFromRight_1 rfl hl (by decide) rfl (fun ls hl => ?_)
  refine lv_iconst (v := 0) hx hb d_ValuePiece_digitFromRight_2 (by decide) ?_
  refine lv_istore (lv' := [(5, .int 0), (3, .long (lN m0)), (0, .long (lN m0)), (2, .int (nI k))]) hx hb d_ValuePiece_digitFromRight_3 hl (by decide) rfl (fun ls hl => ?_)
  have lp : ∀ (n_lp : Nat) (j : Nat) (i : Int32) (u : Int64) (ls : Array Slot), (i = nI j) → (u = lN (m0 / 10 ^ j)) → (j ≤ k) → (k - j) < n_lp → lv_has ls 6 [(0, .long (lN m0)), (2, .int (nI k)), (3, .long u), (5, .int i)] → W p l e (vRm 0 0 0 0) s m args below meth c H locs 0 0 Q (F0 m 5 ls []) := by
    intro n_lp
    induction n_lp with
    | zero => intros; exact absurd (by assumption) (Nat.not_lt_zero _)
    | succ n_lp ih_lp =>
      intro j i u ls ei eu hj hmu_lp hl
      refine lv_iload hx hb d_ValuePiece_digitFromRight_5 (lv_at hl 3 rfl) ?_
      refine lv_iload_n hx hb d_ValuePiece_digitFromRight_7 rfl (lv_at hl 1 rfl) ?_
      refine lv_icmp_ge (tgt := 23) hx hb d_ValuePiece_digitFromRight_8 (by decide) (fun c1 => ?_) (fun c1 => ?_)
      · skip
        refine lv_bipush (v := 48) hx hb d_ValuePiece_digitFromRight_23 (by decide) ?_
        refine lv_lload_n hx hb d_ValuePiece_digitFromRight_25 rfl (lv_at hl 2 rfl) ?_
        refine lv_ldc2 (v := 10) hx hb C.1.2.2.2.1 (C.1.2.2.2.2 _ (gt_4 163 (by decide +kernel) rfl)) d_ValuePiece_digitFromRight_26 ?_
        refine lv_lrem hx hb d_ValuePiece_digitFromRight_29 (by decide) ?_
        refine lv_l2i (v := ((u - (u / 10) * 10) : Int64).toInt32) hx hb d_ValuePiece_digitFromRight_30 rfl ?_
        refine lv_iadd hx hb d_ValuePiece_digitFromRight_31 ?_
        exact mq_iret hQ C X hr rfl hlk (⟨rfl, by
            have hj2 : j = k := by
              have := (nI_leI (a := k) (b := j) (by omega) (by omega)).mp (by rw [← ei]; exact c1)
              omega
            have hq : m0 / 10 ^ j ≤ 999999 := by have := Nat.div_le_self m0 (10 ^ j); omega
            rw [eu, show lN (m0 / 10 ^ j) - lN (m0 / 10 ^ j) / 10 * 10 = lN (m0 / 10 ^ j % 10) from pk_lRem (by omega) (by decide) (by decide), lN_i, ← hj2]; exact nI_add 48 _⟩) (by omega) (by omega) d_ValuePiece_digitFromRight_32
      · skip
        have hjk : j < k := (nI_ltI (by omega) (by omega)).mp (by rw [← ei]; exact Int32.not_le.mp c1)
        refine lv_lload_n hx hb d_ValuePiece_digitFromRight_11 rfl (lv_at hl 2 rfl) ?_
        refine lv_ldc2 (v := 10) hx hb C.1.2.2.2.1 (C.1.2.2.2.2 _ (gt_4 163 (by decide +kernel) rfl)) d_ValuePiece_digitFromRight_12 ?_
        refine lv_ldiv hx hb d_ValuePiece_digitFromRight_15 (by decide) ?_
        refine lv_lstore_n (lv' := [(3, .long (u / 10)), (0, .long (lN m0)), (2, .int (nI k)), (5, .int i)]) hx hb d_ValuePiece_digitFromRight_16 rfl hl (by decide) rfl (fun ls hl => ?_)
        refine lv_iinc (v := (i + 1)) (lv' := [(5, .int (i + 1)), (3, .long (u / 10)), (0, .long (lN m0)), (2, .int (nI k))]) hx hb d_ValuePiece_digitFromRight_17 hl (k := 3) rfl rfl (by decide) rfl (fun ls hl => ?_)
        refine lv_goto (tgt := 5) hx hb d_ValuePiece_digitFromRight_20 (by decide) ?_
        exact ih_lp (j + 1) (i + 1) (u / 10) ls  (by rw [ei]; exact nI_1 j) (by rw [eu, Nat.pow_succ, ← Nat.div_div_eq_div_mul]; exact pk_lDiv (by have := Nat.div_le_self m0 (10 ^ j); omega) (by decide) (by decide)) (by omega) (by omega) (lv_sub hl [2, 3, 1, 0] rfl)
  exact lp (k - 0 + 1) 0 0 (lN m0) ls  rfl (by rw [Nat.pow_zero, Nat.div_one]) (Nat.zero_le _) (Nat.lt_succ_self _) (lv_sub hl [2, 3, 1, 0] rfl)
theorem d_ValuePiece_signFromRight_0 : decode prog_9_method_3_code 0 = .ok (.aload_n 0, 1) := by decide +kernel
theorem d_ValuePiece_signFromRight_1 : decode prog_9_method_3_code 1 = .ok (.getfield 9, 3) := by decide +kernel
theorem d_ValuePiece_signFromRight_4 : decode prog_9_method_3_code 4 = .ok (.getfield 29, 3) := by decide +kernel
theorem d_ValuePiece_signFromRight_7 : decode prog_9_method_3_code 7 = .ok (.invokestatic 33, 3) := by decide +kernel
theorem d_ValuePiece_signFromRight_10 : decode prog_9_method_3_code 10 = .ok (.lstore_n 2, 1) := by decide +kernel
theorem d_ValuePiece_signFromRight_11 : decode prog_9_method_3_code 11 = .ok (.lload_n 2, 1) := by decide +kernel
theorem d_ValuePiece_signFromRight_12 : decode prog_9_method_3_code 12 = .ok (.invokestatic 39, 3) := by decide +kernel
theorem d_ValuePiece_signFromRight_15 : decode prog_9_method_3_code 15 = .ok (.istore 4, 2) := by decide +kernel
theorem d_ValuePiece_signFromRight_17 : decode prog_9_method_3_code 17 = .ok (.aload_n 0, 1) := by decide +kernel
theorem d_ValuePiece_signFromRight_18 : decode prog_9_method_3_code 18 = .ok (.getfield 9, 3) := by decide +kernel
theorem d_ValuePiece_signFromRight_21 : decode prog_9_method_3_code 21 = .ok (.getfield 29, 3) := by decide +kernel
theorem d_ValuePiece_signFromRight_24 : decode prog_9_method_3_code 24 = .ok (.lconst 0, 1) := by decide +kernel
theorem d_ValuePiece_signFromRight_25 : decode prog_9_method_3_code 25 = .ok (.lcmp, 1) := by decide +kernel
theorem d_ValuePiece_signFromRight_26 : decode prog_9_method_3_code 26 = .ok (.ifCond .ge 10, 3) := by decide +kernel
theorem d_ValuePiece_signFromRight_29 : decode prog_9_method_3_code 29 = .ok (.iload 4, 2) := by decide +kernel
theorem d_ValuePiece_signFromRight_31 : decode prog_9_method_3_code 31 = .ok (.iconst 1, 1) := by decide +kernel
theorem d_ValuePiece_signFromRight_32 : decode prog_9_method_3_code 32 = .ok (.iadd, 1) := by decide +kernel
theorem d_ValuePiece_signFromRight_33 : decode prog_9_method_3_code 33 = .ok (.goto 5, 3) := by decide +kernel
theorem d_ValuePiece_signFromRight_36 : decode prog_9_method_3_code 36 = .ok (.iload 4, 2) := by decide +kernel
theorem d_ValuePiece_signFromRight_38 : decode prog_9_method_3_code 38 = .ok (.istore 5, 2) := by decide +kernel
theorem d_ValuePiece_signFromRight_40 : decode prog_9_method_3_code 40 = .ok (.iload 5, 2) := by decide +kernel
theorem d_ValuePiece_signFromRight_42 : decode prog_9_method_3_code 42 = .ok (.aload_n 0, 1) := by decide +kernel
theorem d_ValuePiece_signFromRight_43 : decode prog_9_method_3_code 43 = .ok (.getfield 15, 3) := by decide +kernel
theorem d_ValuePiece_signFromRight_46 : decode prog_9_method_3_code 46 = .ok (.if_icmp .le 6, 3) := by decide +kernel
theorem d_ValuePiece_signFromRight_49 : decode prog_9_method_3_code 49 = .ok (.bipush 35, 2) := by decide +kernel
theorem d_ValuePiece_signFromRight_51 : decode prog_9_method_3_code 51 = .ok (.ireturn, 1) := by decide +kernel
theorem d_ValuePiece_signFromRight_52 : decode prog_9_method_3_code 52 = .ok (.iload_n 1, 1) := by decide +kernel
theorem d_ValuePiece_signFromRight_53 : decode prog_9_method_3_code 53 = .ok (.iload 5, 2) := by decide +kernel
theorem d_ValuePiece_signFromRight_55 : decode prog_9_method_3_code 55 = .ok (.if_icmp .lt 6, 3) := by decide +kernel
theorem d_ValuePiece_signFromRight_58 : decode prog_9_method_3_code 58 = .ok (.bipush 32, 2) := by decide +kernel
theorem d_ValuePiece_signFromRight_60 : decode prog_9_method_3_code 60 = .ok (.ireturn, 1) := by decide +kernel
theorem d_ValuePiece_signFromRight_61 : decode prog_9_method_3_code 61 = .ok (.iload_n 1, 1) := by decide +kernel
theorem d_ValuePiece_signFromRight_62 : decode prog_9_method_3_code 62 = .ok (.iload 4, 2) := by decide +kernel
theorem d_ValuePiece_signFromRight_64 : decode prog_9_method_3_code 64 = .ok (.if_icmp .lt 8, 3) := by decide +kernel
theorem d_ValuePiece_signFromRight_67 : decode prog_9_method_3_code 67 = .ok (.bipush 45, 2) := by decide +kernel
theorem d_ValuePiece_signFromRight_69 : decode prog_9_method_3_code 69 = .ok (.goto 8, 3) := by decide +kernel
theorem d_ValuePiece_signFromRight_72 : decode prog_9_method_3_code 72 = .ok (.lload_n 2, 1) := by decide +kernel
theorem d_ValuePiece_signFromRight_73 : decode prog_9_method_3_code 73 = .ok (.iload_n 1, 1) := by decide +kernel
theorem d_ValuePiece_signFromRight_74 : decode prog_9_method_3_code 74 = .ok (.invokestatic 43, 3) := by decide +kernel
theorem d_ValuePiece_signFromRight_77 : decode prog_9_method_3_code 77 = .ok (.ireturn, 1) := by decide +kernel
set_option maxRecDepth 100000 in
set_option maxHeartbeats 4000000 in
theorem cm_ValuePiece_signFromRight {l : Launch} {S0 : State} {b : Nat} {D : va_G} {dT : Nat → ClassId} (hE : vEnv S0 b D dT) {h0 : vH} {a v W0 k : Nat} {nw : Int64} {vd : Int32} {r1 r2 r3 u1 u2 u3 u4 : Value} (hs : smL nw) (hW1 : 1 ≤ W0) (hW2 : W0 ≤ 9) (hk : k < W0) (ka : h0 a = some (.inr (11, [.ref v, .int (nI W0), r1, r2, r3]))) (kv : h0 v = some (.inr (8, [u1, u2, u3, u4, .long nw, .int vd]))) : vMi l S0 D vcl GT y_ValuePiece_signFromRight prog_9_method_3_code 6 (some .int) 1 25 0 0 [.ref a, .int (nI k)] h0 (fun r h' => h' = h0 ∧ r = sfR nw W0 k) := by
  unfold vMi
  refine vM_ofQ hE.1 (by decide) (Nat.le_of_ble_eq_true rfl) (fun p e s m args below meth c ls Q hQ C hr hlk hnm X hl => ?_)
  have C : vC p s m _ c _ _ "MenuScreens$ValuePiece" GT D vcl (vty dT) := C
  have hx := C.1.1
  have hb := C.1.2.1
  obtain ⟨H, eH⟩ : ∃ z, z = s.heap := ⟨_, rfl⟩
  obtain ⟨locs, elocs⟩ : ∃ z : List Loc, z = [] := ⟨_, rfl⟩
  rw [← eH, ← elocs] at X
  rw [← eH, ← elocs]
  clear eH elocs
  have hl : lv_has ls 6 [(0, .ref a), (1, .int (nI k))] := hl
  refine lv_aload_n hx hb d_ValuePiece_signFromRight_0 rfl (lv_at hl 0 rfl) ?_
  refine mv_get C X ka 0 f_8_9_11 (v := .ref v) rfl d_ValuePiece_signFromRight_1 ?_
  refine mv_get C X kv 4 f_8_29_8 (v := .long nw) rfl d_ValuePiece_signFromRight_4 ?_
  refine va_mabs_long hx hb (by rw [C.1.2.2.1, hl.1]) C.1.2.2.2.1 (C.1.2.2.2.2 _ (gt_4 157 (by decide +kernel) rfl)) (C.1.2.2.2.2 _ (gt_4 158 (by decide +kernel) rfl)) (C.1.2.2.2.2 _ (gt_1 15 (by decide +kernel) rfl)) (C.1.2.2.2.2 _ (gt_4 159 (rfl) rfl)) (Nat.le_of_ble_eq_true rfl) (Nat.le_of_ble_eq_true rfl) (by show 0 ≤ 0; omega) (by show 0 ≤ 0; omega) d_ValuePiece_signFromRight_7 ?_
  rw [absL hs]
  refine lv_lstore_n (lv' := [(2, .long (lN nw.toInt.natAbs)), (0, .ref a), (1, .int (nI k))]) hx hb d_ValuePiece_signFromRight_10 rfl hl (by decide) rfl (fun ls hl => ?_)
  refine lv_lload_n hx hb d_ValuePiece_signFromRight_11 rfl (lv_at hl 0 rfl) ?_
  refine mv_bi X (mv_rS (rest := []) (As := [.long (lN nw.toInt.natAbs)]) gt_good C X k_8_39 (cm_ValuePiece_digitsOf hE (abs6 hs)) ⟨Nat.le_of_ble_eq_true rfl, Nat.le_of_ble_eq_true rfl⟩ rfl hl.1 rfl (Nat.le_of_ble_eq_true rfl) d_ValuePiece_signFromRight_12 ⟨Nat.zero_le _, Nat.zero_le _⟩) (fun r1 hN H locs hp X => ?_)
  obtain ⟨eh, er⟩ := hp
  replace eh := eh.symm
  replace er := er.symm
  subst eh er
  refine lv_istore (lv' := [(4, .int (nI (dgc nw.toInt.natAbs))), (2, .long (lN nw.toInt.natAbs)), (0, .ref a), (1, .int (nI k))]) hx hb d_ValuePiece_signFromRight_15 hl (by decide) rfl (fun ls hl => ?_)
  refine lv_aload_n hx hb d_ValuePiece_signFromRight_17 rfl (lv_at hl 2 rfl) ?_
  refine mv_get C X ka 0 f_8_9_11 (v := .ref v) rfl d_ValuePiece_signFromRight_18 ?_
  refine mv_get C X kv 4 f_8_29_8 (v := .long nw) rfl d_ValuePiece_signFromRight_21 ?_
  refine lv_lconst (v := 0) hx hb d_ValuePiece_signFromRight_24 (by decide) ?_
  refine W.lcmp hx hb d_ValuePiece_signFromRight_25 ?_
  refine lv_if_ge (tgt := 36) hx hb d_ValuePiece_signFromRight_26 (by decide) (fun c2 => ?_) (fun c2 => ?_)
  · skip
    refine lv_iload hx hb d_ValuePiece_signFromRight_36 (lv_at hl 0 rfl) ?_
    refine lv_istore (lv' := [(5, .int (nI (dgc nw.toInt.natAbs))), (4, .int (nI (dgc nw.toInt.natAbs))), (2, .long (lN nw.toInt.natAbs)), (0, .ref a), (1, .int (nI k))]) hx hb d_ValuePiece_signFromRight_38 hl (by decide) rfl (fun ls hl => ?_)
    refine lv_iload hx hb d_ValuePiece_signFromRight_40 (lv_at hl 0 rfl) ?_
    refine lv_aload_n hx hb d_ValuePiece_signFromRight_42 rfl (lv_at hl 3 rfl) ?_
    refine mv_get C X ka 1 f_8_15_11 (v := .int (nI W0)) rfl d_ValuePiece_signFromRight_43 ?_
    refine lv_icmp_le (tgt := 52) hx hb d_ValuePiece_signFromRight_46 (by decide) (fun c3 => ?_) (fun c3 => ?_)
    · skip
      refine lv_iload_n hx hb d_ValuePiece_signFromRight_52 rfl (lv_at hl 4 rfl) ?_
      refine lv_iload hx hb d_ValuePiece_signFromRight_53 (lv_at hl 0 rfl) ?_
      refine lv_icmp_lt (tgt := 61) hx hb d_ValuePiece_signFromRight_55 (by decide) (fun c4 => ?_) (fun c4 => ?_)
      · skip
        refine lv_iload_n hx hb d_ValuePiece_signFromRight_61 rfl (lv_at hl 4 rfl) ?_
        refine lv_iload hx hb d_ValuePiece_signFromRight_62 (lv_at hl 1 rfl) ?_
        refine lv_icmp_lt (tgt := 72) hx hb d_ValuePiece_signFromRight_64 (by decide) (fun c5 => ?_) (fun c5 => ?_)
        · skip
          refine lv_lload_n hx hb d_ValuePiece_signFromRight_72 rfl (lv_at hl 2 rfl) ?_
          refine lv_iload_n hx hb d_ValuePiece_signFromRight_73 rfl (lv_at hl 4 rfl) ?_
          refine mv_bi X (mv_rS (rest := []) (As := [.long (lN nw.toInt.natAbs), .int (nI k)]) gt_good C X k_8_43 (cm_ValuePiece_digitFromRight hE (abs6 hs) (by omega)) ⟨Nat.le_of_ble_eq_true rfl, Nat.le_of_ble_eq_true rfl⟩ rfl hl.1 rfl (Nat.le_of_ble_eq_true rfl) d_ValuePiece_signFromRight_74 ⟨Nat.zero_le _, Nat.zero_le _⟩) (fun r6 hN H locs hp X => ?_)
          obtain ⟨eh, er⟩ := hp
          replace eh := eh.symm
          replace er := er.symm
          subst eh er
          exact mq_iret hQ C X hr rfl hlk (⟨rfl, by
              have h8 : k < dgc nw.toInt.natAbs := (nI_ltI (by omega) (by have := dgc_6 nw.toInt.natAbs; omega)).mp c5
              rw [sfR, if_neg (Int64.not_lt.mpr ((lg_cmp_ge _ _).mp c2))]; rw [if_neg (Nat.not_lt.mpr ((nI_leI (by have := dgc_6 nw.toInt.natAbs; omega) (by omega)).mp c3))]; rw [if_neg (by omega)]⟩) (by omega) (by omega) d_ValuePiece_signFromRight_77
        · skip
          refine lv_bipush (v := 45) hx hb d_ValuePiece_signFromRight_67 (by decide) ?_
          refine lv_goto (tgt := 77) hx hb d_ValuePiece_signFromRight_69 (by decide) ?_
          exact mq_iret hQ C X hr rfl hlk (⟨rfl, by
              have h9 : k < (dgc nw.toInt.natAbs) := (nI_ltI (by omega) (by have := dgc_6 nw.toInt.natAbs; omega)).mp c4
              have h8 : dgc nw.toInt.natAbs ≤ k := (nI_leI (by have := dgc_6 nw.toInt.natAbs; omega) (by omega)).mp (Int32.not_lt.mp c5)
              omega⟩) (by omega) (by omega) d_ValuePiece_signFromRight_77
      · skip
        refine lv_bipush (v := 32) hx hb d_ValuePiece_signFromRight_58 (by decide) ?_
        exact mq_iret hQ C X hr rfl hlk (⟨rfl, by
            have h9 : (dgc nw.toInt.natAbs) ≤ k := (nI_leI (by have := dgc_6 nw.toInt.natAbs; omega) (by omega)).mp (Int32.not_lt.mp c4)
            rw [sfR, if_neg (Int64.not_lt.mpr ((lg_cmp_ge _ _).mp c2))]; rw [if_neg (Nat.not_lt.mpr ((nI_leI (by have := dgc_6 nw.toInt.natAbs; omega) (by omega)).mp c3))]; rw [if_pos (by omega), if_neg (by intro z; exact absurd z.2 (Int64.not_lt.mpr ((lg_cmp_ge _ _).mp c2)))]⟩) (by omega) (by omega) d_ValuePiece_signFromRight_60
    · skip
      refine lv_bipush (v := 35) hx hb d_ValuePiece_signFromRight_49 (by decide) ?_
      exact mq_iret hQ C X hr rfl hlk (⟨rfl, by rw [sfR, if_neg (Int64.not_lt.mpr ((lg_cmp_ge _ _).mp c2))]; rw [if_pos ((nI_ltI (by omega) (by have := dgc_6 nw.toInt.natAbs; omega)).mp (Int32.not_le.mp c3))]⟩) (by omega) (by omega) d_ValuePiece_signFromRight_51
  · skip
    refine lv_iload hx hb d_ValuePiece_signFromRight_29 (lv_at hl 0 rfl) ?_
    refine lv_iconst (v := 1) hx hb d_ValuePiece_signFromRight_31 (by decide) ?_
    refine lv_iadd hx hb d_ValuePiece_signFromRight_32 ?_
    refine lv_goto (tgt := 38) hx hb d_ValuePiece_signFromRight_33 (by decide) ?_
    rw [nI_1]
    refine lv_istore (lv' := [(5, .int (nI (dgc nw.toInt.natAbs + 1))), (4, .int (nI (dgc nw.toInt.natAbs))), (2, .long (lN nw.toInt.natAbs)), (0, .ref a), (1, .int (nI k))]) hx hb d_ValuePiece_signFromRight_38 hl (by decide) rfl (fun ls hl => ?_)
    refine lv_iload hx hb d_ValuePiece_signFromRight_40 (lv_at hl 0 rfl) ?_
    refine lv_aload_n hx hb d_ValuePiece_signFromRight_42 rfl (lv_at hl 3 rfl) ?_
    refine mv_get C X ka 1 f_8_15_11 (v := .int (nI W0)) rfl d_ValuePiece_signFromRight_43 ?_
    refine lv_icmp_le (tgt := 52) hx hb d_ValuePiece_signFromRight_46 (by decide) (fun c7 => ?_) (fun c7 => ?_)
    · skip
      refine lv_iload_n hx hb d_ValuePiece_signFromRight_52 rfl (lv_at hl 4 rfl) ?_
      refine lv_iload hx hb d_ValuePiece_signFromRight_53 (lv_at hl 0 rfl) ?_
      refine lv_icmp_lt (tgt := 61) hx hb d_ValuePiece_signFromRight_55 (by decide) (fun c8 => ?_) (fun c8 => ?_)
      · skip
        refine lv_iload_n hx hb d_ValuePiece_signFromRight_61 rfl (lv_at hl 4 rfl) ?_
        refine lv_iload hx hb d_ValuePiece_signFromRight_62 (lv_at hl 1 rfl) ?_
        refine lv_icmp_lt (tgt := 72) hx hb d_ValuePiece_signFromRight_64 (by decide) (fun c9 => ?_) (fun c9 => ?_)
        · skip
          refine lv_lload_n hx hb d_ValuePiece_signFromRight_72 rfl (lv_at hl 2 rfl) ?_
          refine lv_iload_n hx hb d_ValuePiece_signFromRight_73 rfl (lv_at hl 4 rfl) ?_
          refine mv_bi X (mv_rS (rest := []) (As := [.long (lN nw.toInt.natAbs), .int (nI k)]) gt_good C X k_8_43 (cm_ValuePiece_digitFromRight hE (abs6 hs) (by omega)) ⟨Nat.le_of_ble_eq_true rfl, Nat.le_of_ble_eq_true rfl⟩ rfl hl.1 rfl (Nat.le_of_ble_eq_true rfl) d_ValuePiece_signFromRight_74 ⟨Nat.zero_le _, Nat.zero_le _⟩) (fun r10 hN H locs hp X => ?_)
          obtain ⟨eh, er⟩ := hp
          replace eh := eh.symm
          replace er := er.symm
          subst eh er
          exact mq_iret hQ C X hr rfl hlk (⟨rfl, by
              have h8 : k < dgc nw.toInt.natAbs := (nI_ltI (by omega) (by have := dgc_6 nw.toInt.natAbs; omega)).mp c9
              rw [sfR, if_pos (Int64.not_le.mp (fun z => c2 ((lg_cmp_ge _ _).mpr z)))]; rw [if_neg (Nat.not_lt.mpr ((nI_leI (by have := dgc_6 nw.toInt.natAbs; omega) (by omega)).mp c7))]; rw [if_neg (by omega)]⟩) (by omega) (by omega) d_ValuePiece_signFromRight_77
        · skip
          refine lv_bipush (v := 45) hx hb d_ValuePiece_signFromRight_67 (by decide) ?_
          refine lv_goto (tgt := 77) hx hb d_ValuePiece_signFromRight_69 (by decide) ?_
          exact mq_iret hQ C X hr rfl hlk (⟨rfl, by
              have h9 : k < (dgc nw.toInt.natAbs + 1) := (nI_ltI (by omega) (by have := dgc_6 nw.toInt.natAbs; omega)).mp c8
              have h8 : dgc nw.toInt.natAbs ≤ k := (nI_leI (by have := dgc_6 nw.toInt.natAbs; omega) (by omega)).mp (Int32.not_lt.mp c9)
              rw [sfR, if_pos (Int64.not_le.mp (fun z => c2 ((lg_cmp_ge _ _).mpr z)))]; rw [if_neg (Nat.not_lt.mpr ((nI_leI (by have := dgc_6 nw.toInt.natAbs; omega) (by omega)).mp c7))]; rw [if_pos h8, if_pos ⟨by omega, Int64.not_le.mp (fun z => c2 ((lg_cmp_ge _ _).mpr z))⟩]⟩) (by omega) (by omega) d_ValuePiece_signFromRight_77
      · skip
        refine lv_bipush (v := 32) hx hb d_ValuePiece_signFromRight_58 (by decide) ?_
        exact mq_iret hQ C X hr rfl hlk (⟨rfl, by
            have h9 : (dgc nw.toInt.natAbs + 1) ≤ k := (nI_leI (by have := dgc_6 nw.toInt.natAbs; omega) (by omega)).mp (Int32.not_lt.mp c8)
            rw [sfR, if_pos (Int64.not_le.mp (fun z => c2 ((lg_cmp_ge _ _).mpr z)))]; rw [if_neg (Nat.not_lt.mpr ((nI_leI (by have := dgc_6 nw.toInt.natAbs; omega) (by omega)).mp c7))]; rw [if_pos (by omega), if_neg (by omega)]⟩) (by omega) (by omega) d_ValuePiece_signFromRight_60
    · skip
      refine lv_bipush (v := 35) hx hb d_ValuePiece_signFromRight_49 (by decide) ?_
      exact mq_iret hQ C X hr rfl hlk (⟨rfl, by rw [sfR, if_pos (Int64.not_le.mp (fun z => c2 ((lg_cmp_ge _ _).mpr z)))]; rw [if_pos ((nI_ltI (by omega) (by have := dgc_6 nw.toInt.natAbs; omega)).mp (Int32.not_le.mp c7))]⟩) (by omega) (by omega) d_ValuePiece_signFromRight_51
theorem d_ValuePiece_signAt_0 : decode prog_9_method_2_code 0 = .ok (.iload_n 1, 1) := by decide +kernel
theorem d_ValuePiece_signAt_1 : decode prog_9_method_2_code 1 = .ok (.ifCond .lt 11, 3) := by decide +kernel
theorem d_ValuePiece_signAt_4 : decode prog_9_method_2_code 4 = .ok (.iload_n 1, 1) := by decide +kernel
theorem d_ValuePiece_signAt_5 : decode prog_9_method_2_code 5 = .ok (.aload_n 0, 1) := by decide +kernel
theorem d_ValuePiece_signAt_6 : decode prog_9_method_2_code 6 = .ok (.getfield 15, 3) := by decide +kernel
theorem d_ValuePiece_signAt_9 : decode prog_9_method_2_code 9 = .ok (.if_icmp .lt 5, 3) := by decide +kernel
theorem d_ValuePiece_signAt_12 : decode prog_9_method_2_code 12 = .ok (.iconst 0, 1) := by decide +kernel
theorem d_ValuePiece_signAt_13 : decode prog_9_method_2_code 13 = .ok (.ireturn, 1) := by decide +kernel
theorem d_ValuePiece_signAt_14 : decode prog_9_method_2_code 14 = .ok (.aload_n 0, 1) := by decide +kernel
theorem d_ValuePiece_signAt_15 : decode prog_9_method_2_code 15 = .ok (.getfield 9, 3) := by decide +kernel
theorem d_ValuePiece_signAt_18 : decode prog_9_method_2_code 18 = .ok (.getfield 19, 3) := by decide +kernel
theorem d_ValuePiece_signAt_21 : decode prog_9_method_2_code 21 = .ok (.ifCond .ne 6, 3) := by decide +kernel
theorem d_ValuePiece_signAt_24 : decode prog_9_method_2_code 24 = .ok (.bipush 45, 2) := by decide +kernel
theorem d_ValuePiece_signAt_26 : decode prog_9_method_2_code 26 = .ok (.ireturn, 1) := by decide +kernel
theorem d_ValuePiece_signAt_27 : decode prog_9_method_2_code 27 = .ok (.aload_n 0, 1) := by decide +kernel
theorem d_ValuePiece_signAt_28 : decode prog_9_method_2_code 28 = .ok (.aload_n 0, 1) := by decide +kernel
theorem d_ValuePiece_signAt_29 : decode prog_9_method_2_code 29 = .ok (.getfield 15, 3) := by decide +kernel
theorem d_ValuePiece_signAt_32 : decode prog_9_method_2_code 32 = .ok (.iconst 1, 1) := by decide +kernel
theorem d_ValuePiece_signAt_33 : decode prog_9_method_2_code 33 = .ok (.isub, 1) := by decide +kernel
theorem d_ValuePiece_signAt_34 : decode prog_9_method_2_code 34 = .ok (.iload_n 1, 1) := by decide +kernel
theorem d_ValuePiece_signAt_35 : decode prog_9_method_2_code 35 = .ok (.isub, 1) := by decide +kernel
theorem d_ValuePiece_signAt_36 : decode prog_9_method_2_code 36 = .ok (.invokevirtual 25, 3) := by decide +kernel
theorem d_ValuePiece_signAt_39 : decode prog_9_method_2_code 39 = .ok (.ireturn, 1) := by decide +kernel
set_option maxRecDepth 100000 in
set_option maxHeartbeats 4000000 in
theorem cm_ValuePiece_signAt {l : Launch} {S0 : State} {b : Nat} {D : va_G} {dT : Nat → ClassId} (hE : vEnv S0 b D dT) {h0 : vH} {a v W0 : Nat} {nw : Int64} {vd : Int32} {r1 r2 r3 u1 u2 u3 u4 : Value} (hs : smL nw) (hW1 : 1 ≤ W0) (hW2 : W0 ≤ 9) {pl lg : Int32} (ka : h0 a = some (.inr (11, [.ref v, .int (nI W0), r1, r2, r3]))) (kv : h0 v = some (.inr (8, [u1, u2, u3, u4, .long nw, .int vd]))) : vMi l S0 D vcl GT y_ValuePiece_signAt prog_9_method_2_code 3 (some .int) 2 50 0 0 [.ref a, .int pl, .int lg] h0 (fun r h' => h' = h0 ∧ r = (if pl < 0 then 0 else if pl < nI W0 then dgF vd nw W0 pl.toNatClampNeg else 0)) := by
  unfold vMi
  refine vM_ofQ hE.1 (by decide) (Nat.le_of_ble_eq_true rfl) (fun p e s m args below meth c ls Q hQ C hr hlk hnm X hl => ?_)
  have C : vC p s m _ c _ _ "MenuScreens$ValuePiece" GT D vcl (vty dT) := C
  have hx := C.1.1
  have hb := C.1.2.1
  obtain ⟨H, eH⟩ : ∃ z, z = s.heap := ⟨_, rfl⟩
  obtain ⟨locs, elocs⟩ : ∃ z : List Loc, z = [] := ⟨_, rfl⟩
  rw [← eH, ← elocs] at X
  rw [← eH, ← elocs]
  clear eH elocs
  have hl : lv_has ls 3 [(0, .ref a), (1, .int pl), (2, .int lg)] := hl
  refine lv_iload_n hx hb d_ValuePiece_signAt_0 rfl (lv_at hl 1 rfl) ?_
  refine lv_if_lt (tgt := 12) hx hb d_ValuePiece_signAt_1 (by decide) (fun c1 => ?_) (fun c1 => ?_)
  · skip
    refine lv_iconst (v := 0) hx hb d_ValuePiece_signAt_12 (by decide) ?_
    exact mq_iret hQ C X hr rfl hlk (⟨rfl, by rw [if_pos c1]⟩) (by omega) (by omega) d_ValuePiece_signAt_13
  · skip
    refine lv_iload_n hx hb d_ValuePiece_signAt_4 rfl (lv_at hl 1 rfl) ?_
    refine lv_aload_n hx hb d_ValuePiece_signAt_5 rfl (lv_at hl 0 rfl) ?_
    refine mv_get C X ka 1 f_8_15_11 (v := .int (nI W0)) rfl d_ValuePiece_signAt_6 ?_
    refine lv_icmp_lt (tgt := 14) hx hb d_ValuePiece_signAt_9 (by decide) (fun c2 => ?_) (fun c2 => ?_)
    · skip
      obtain ⟨j, hj0, ej⟩ := nI_of c1
      have hjn : j < W0 := (nI_ltI hj0 (by omega)).mp (by rw [← ej]; exact c2)
      refine lv_aload_n hx hb d_ValuePiece_signAt_14 rfl (lv_at hl 0 rfl) ?_
      refine mv_get C X ka 0 f_8_9_11 (v := .ref v) rfl d_ValuePiece_signAt_15 ?_
      refine mv_get C X kv 5 f_8_19_8 (v := .int vd) rfl d_ValuePiece_signAt_18 ?_
      refine lv_if_ne (tgt := 27) hx hb d_ValuePiece_signAt_21 (by decide) (fun c3 => ?_) (fun c3 => ?_)
      · skip
        refine lv_aload_n hx hb d_ValuePiece_signAt_27 rfl (lv_at hl 0 rfl) ?_
        refine lv_aload_n hx hb d_ValuePiece_signAt_28 rfl (lv_at hl 0 rfl) ?_
        refine mv_get C X ka 1 f_8_15_11 (v := .int (nI W0)) rfl d_ValuePiece_signAt_29 ?_
        refine lv_iconst (v := 1) hx hb d_ValuePiece_signAt_32 (by decide) ?_
        refine lv_isub hx hb d_ValuePiece_signAt_33 ?_
        refine lv_iload_n hx hb d_ValuePiece_signAt_34 rfl (lv_at hl 1 rfl) ?_
        refine lv_isub hx hb d_ValuePiece_signAt_35 ?_
        rw [ej, show nI W0 - 1 - nI j = nI (W0 - 1 - j) by rw [show nI W0 - 1 = nI (W0 - 1) from nI_sub (b := 1) hW1]; exact nI_sub (by omega)]
        refine mv_bi X (mv_rV (rest := []) (As := [.int (nI (W0 - 1 - j))]) gt_good C X k_8_25 (cm_ValuePiece_signFromRight hE hs hW1 hW2 (by omega) ka kv) ka rfl rfl ⟨Nat.le_of_ble_eq_true rfl, Nat.le_of_ble_eq_true rfl⟩ rfl hl.1 rfl (Nat.le_of_ble_eq_true rfl) d_ValuePiece_signAt_36 ⟨Nat.zero_le _, Nat.zero_le _⟩) (fun r4 hN H locs hp X => ?_)
        obtain ⟨eh, er⟩ := hp
        replace eh := eh.symm
        replace er := er.symm
        subst eh er
        exact mq_iret hQ C X hr rfl hlk (⟨rfl, by rw [if_neg c1, if_pos c2, ej, nI_clamp hj0, dgF_s]; rw [if_neg c3]⟩) (by omega) (by omega) d_ValuePiece_signAt_39
      · skip
        refine lv_bipush (v := 45) hx hb d_ValuePiece_signAt_24 (by decide) ?_
        exact mq_iret hQ C X hr rfl hlk (⟨rfl, by rw [if_neg c1, if_pos c2, ej, nI_clamp hj0, dgF_s]; rw [if_pos c3]⟩) (by omega) (by omega) d_ValuePiece_signAt_26
    · skip
      refine lv_iconst (v := 0) hx hb d_ValuePiece_signAt_12 (by decide) ?_
      exact mq_iret hQ C X hr rfl hlk (⟨rfl, by rw [if_neg c1, if_neg c2]⟩) (by omega) (by omega) d_ValuePiece_signAt_13
