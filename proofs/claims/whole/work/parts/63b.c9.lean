theorem d_Reader_isFreeForValue_0 : decode prog_6_method_7_code 0 = .ok (.lload_n 1, 1) := by decide +kernel
theorem d_Reader_isFreeForValue_1 : decode prog_6_method_7_code 1 = .ok (.lconst 0, 1) := by decide +kernel
theorem d_Reader_isFreeForValue_2 : decode prog_6_method_7_code 2 = .ok (.lcmp, 1) := by decide +kernel
theorem d_Reader_isFreeForValue_3 : decode prog_6_method_7_code 3 = .ok (.ifCond .eq 33, 3) := by decide +kernel
theorem d_Reader_isFreeForValue_6 : decode prog_6_method_7_code 6 = .ok (.aload_n 0, 1) := by decide +kernel
theorem d_Reader_isFreeForValue_7 : decode prog_6_method_7_code 7 = .ok (.getfield 12, 3) := by decide +kernel
theorem d_Reader_isFreeForValue_10 : decode prog_6_method_7_code 10 = .ok (.getfield 120, 3) := by decide +kernel
theorem d_Reader_isFreeForValue_13 : decode prog_6_method_7_code 13 = .ok (.invokevirtual 142, 3) := by decide +kernel
theorem d_Reader_isFreeForValue_16 : decode prog_6_method_7_code 16 = .ok (.bipush 40, 2) := by decide +kernel
theorem d_Reader_isFreeForValue_18 : decode prog_6_method_7_code 18 = .ok (.if_icmp .ge 18, 3) := by decide +kernel
theorem d_Reader_isFreeForValue_21 : decode prog_6_method_7_code 21 = .ok (.aload_n 0, 1) := by decide +kernel
theorem d_Reader_isFreeForValue_22 : decode prog_6_method_7_code 22 = .ok (.getfield 12, 3) := by decide +kernel
theorem d_Reader_isFreeForValue_25 : decode prog_6_method_7_code 25 = .ok (.lload_n 1, 1) := by decide +kernel
theorem d_Reader_isFreeForValue_26 : decode prog_6_method_7_code 26 = .ok (.invokevirtual 145, 3) := by decide +kernel
theorem d_Reader_isFreeForValue_29 : decode prog_6_method_7_code 29 = .ok (.ifnonnull 7, 3) := by decide +kernel
theorem d_Reader_isFreeForValue_32 : decode prog_6_method_7_code 32 = .ok (.iconst 1, 1) := by decide +kernel
theorem d_Reader_isFreeForValue_33 : decode prog_6_method_7_code 33 = .ok (.goto 4, 3) := by decide +kernel
theorem d_Reader_isFreeForValue_36 : decode prog_6_method_7_code 36 = .ok (.iconst 0, 1) := by decide +kernel
theorem d_Reader_isFreeForValue_37 : decode prog_6_method_7_code 37 = .ok (.ireturn, 1) := by decide +kernel
set_option maxRecDepth 100000 in
set_option maxHeartbeats 4000000 in
theorem cm_Reader_isFreeForValue {l : Launch} {S0 : State} {b : Nat} {D : va_G} {dT : Nat → ClassId} (hE : vEnv S0 b D dT) {dE mO : Nat} (hJ : vJ S0 dE mO) {h0 : vH} {hcv : vH} {ad : Nat → Nat → Nat} {L : vL} {rc : Int32} {A : Nat → Nat → Int32} {B : Nat → Nat → Int64} {nv ns np nc : Nat} {pf cb ce cs : Nat → Nat} {c0 : Nat} (x : LH S0.heap.size hcv h0 ad L) (hcE : ∃ fE, hcv dE = some (aR dT 0 fE)) (hR : PR dT dE h0 ad L A B nv ns np nc pf cb ce cs c0 rc) (hnv : nv ≤ 40) (hns : ns ≤ 30) (hnp : np ≤ 600) (hnc : nc ≤ 600) {nm : Int64} : vMi l S0 D vcl GT y_Reader_isFreeForValue prog_6_method_7_code 3 (some .boolean) 4 88 0 0 [.ref (ad 6 0), .long nm] h0 (fun r h' => h' = h0 ∧ r = bI (decide (nm ≠ 0) && (decide (nv < 40) && decide (vfd (nmV A 13 14) nv nm = 0)))) := by
  unfold vMi
  refine vM_ofQ hE.1 (by decide) (Nat.le_of_ble_eq_true rfl) (fun p e s m args below meth c ls Q hQ C hr hlk hnm X hl => ?_)
  have C : vC p s m _ c _ _ "MenuScreens$Reader" GT D vcl (vty dT) := C
  have hx := C.1.1
  have hb := C.1.2.1
  obtain ⟨H, eH⟩ : ∃ z, z = s.heap := ⟨_, rfl⟩
  obtain ⟨locs, elocs⟩ : ∃ z : List Loc, z = [] := ⟨_, rfl⟩
  rw [← eH, ← elocs] at X
  rw [← eH, ← elocs]
  clear eH elocs
  have hl : lv_has ls 3 [(0, .ref (ad 6 0)), (1, .long nm)] := hl
  have hR0 := hR
  obtain ⟨hRP, h20, h60⟩ := hR0
  obtain ⟨fE, hcE2⟩ := hcE
  obtain ⟨ea, cap, fl, md, hL, hfl, hLL, hea⟩ := hRP.1.1.hp x hcE2
  obtain ⟨kl, wl, ke, ⟨hncap, hcap⟩, hd⟩ := hL
  refine lv_lload_n hx hb d_Reader_isFreeForValue_0 rfl (lv_at hl 1 rfl) ?_
  refine lv_lconst (v := 0) hx hb d_Reader_isFreeForValue_1 (by decide) ?_
  refine W.lcmp hx hb d_Reader_isFreeForValue_2 ?_
  refine lv_if_eq (tgt := 36) hx hb d_Reader_isFreeForValue_3 (by decide) (fun c1 => ?_) (fun c1 => ?_)
  · skip
    refine lv_iconst (v := 0) hx hb d_Reader_isFreeForValue_36 (by decide) ?_
    exact mq_iret hQ C X hr rfl hlk (⟨rfl, by rw [decide_eq_false (fun z => z ((lg_cmp_eq _ _).mp c1))]; rfl⟩) (by omega) (by omega) d_Reader_isFreeForValue_37
  · skip
    refine lv_aload_n hx hb d_Reader_isFreeForValue_6 rfl (lv_at hl 0 rfl) ?_
    refine mv_get C X (x.get (i := 6) (j := 0) h60) 0 f_5_12_5 (v := .ref (ad 2 0)) rfl d_Reader_isFreeForValue_7 ?_
    refine mv_get C X (x.get (i := 2) (j := 0) h20) 0 f_5_120_4 (v := .ref (ad 3 0)) rfl d_Reader_isFreeForValue_10 ?_
    refine mv_bi X (mv_rV (rest := []) (As := []) gt_good C X k_5_142 (cm_ArrayList_size hE kl) kl rfl rfl ⟨Nat.le_of_ble_eq_true rfl, Nat.le_of_ble_eq_true rfl⟩ rfl hl.1 rfl (Nat.le_of_ble_eq_true rfl) d_Reader_isFreeForValue_13 ⟨Nat.zero_le _, Nat.zero_le _⟩) (fun r2 hN H locs hp X => ?_)
    obtain ⟨eh, er⟩ := hp
    replace eh := eh.symm
    replace er := er.symm
    subst eh er
    refine lv_bipush (v := 40) hx hb d_Reader_isFreeForValue_16 (by decide) ?_
    refine lv_icmp_ge (tgt := 36) hx hb d_Reader_isFreeForValue_18 (by decide) (fun c3 => ?_) (fun c3 => ?_)
    · skip
      refine lv_iconst (v := 0) hx hb d_Reader_isFreeForValue_36 (by decide) ?_
      exact mq_iret hQ C X hr rfl hlk (⟨rfl, by rw [decide_eq_true (show nm ≠ 0 from fun z => c1 ((lg_cmp_eq _ _).mpr z)), decide_eq_false (show ¬ nv < 40 from fun z => absurd (nI_lt (b := 40) z (by decide)) (Int32.not_lt.mpr c3))]; rfl⟩) (by omega) (by omega) d_Reader_isFreeForValue_37
    · skip
      refine lv_aload_n hx hb d_Reader_isFreeForValue_21 rfl (lv_at hl 0 rfl) ?_
      refine mv_get C X (x.get (i := 6) (j := 0) h60) 0 f_5_12_5 (v := .ref (ad 2 0)) rfl d_Reader_isFreeForValue_22 ?_
      refine lv_lload_n hx hb d_Reader_isFreeForValue_25 rfl (lv_at hl 1 rfl) ?_
      refine mv_bq X (mv_rV (rest := []) (As := [.long nm]) gt_good C X k_5_145 (cm_Plan_valueNamed hE (nf := nmV A 13 14) (g := ad 10) hncap (by omega) hfl (fun k hk => x.get (hRP.1.2 k hk)) (x.get h20) kl ke) (x.get (i := 2) (j := 0) h20) rfl rfl ⟨Nat.le_of_ble_eq_true rfl, Nat.le_of_ble_eq_true rfl⟩ rfl hl.1 rfl (Nat.le_of_ble_eq_true rfl) d_Reader_isFreeForValue_26 ⟨Nat.zero_le _, Nat.zero_le _⟩) (fun r4 hN H locs hp X => ?_)
      obtain ⟨eh, er⟩ := hp
      replace eh := eh.symm
      replace er := er.symm
      subst eh er
      by_cases hk : vfd (nmV A 13 14) nv nm = 0
      · rw [if_pos hk]
        change W _ _ _ _ _ _ _ _ _ _ _ _ _ _ _ (F0 _ _ _ (.null :: _))
        refine lv_ifnonnullN hx hb d_Reader_isFreeForValue_29 ?_
        refine lv_iconst (v := 1) hx hb d_Reader_isFreeForValue_32 (by decide) ?_
        refine lv_goto (tgt := 37) hx hb d_Reader_isFreeForValue_33 (by decide) ?_
        exact mq_iret hQ C X hr rfl hlk (⟨rfl, by rw [decide_eq_true (show nm ≠ 0 from fun z => c1 ((lg_cmp_eq _ _).mpr z)), decide_eq_true (show nv < 40 from (nI_ltI (b := 40) (by omega) (by decide)).mp (Int32.not_le.mp c3)), decide_eq_true hk]; rfl⟩) (by omega) (by omega) d_Reader_isFreeForValue_37
      · rw [if_neg hk]
        change W _ _ _ _ _ _ _ _ _ _ _ _ _ _ _ (F0 _ _ _ (.ref (ad 10 (vfd (nmV A 13 14) nv nm - 1)) :: _))
        refine lv_ifnonnull (tgt := 36) hx hb d_Reader_isFreeForValue_29 (by decide) ?_
        refine lv_iconst (v := 0) hx hb d_Reader_isFreeForValue_36 (by decide) ?_
        exact mq_iret hQ C X hr rfl hlk (⟨rfl, by rw [decide_eq_true (show nm ≠ 0 from fun z => c1 ((lg_cmp_eq _ _).mpr z)), decide_eq_true (show nv < 40 from (nI_ltI (b := 40) (by omega) (by decide)).mp (Int32.not_le.mp c3)), decide_eq_false hk]; rfl⟩) (by omega) (by omega) d_Reader_isFreeForValue_37
theorem d_Reader_takeName_0 : decode prog_6_method_5_code 0 = .ok (.aload_n 0, 1) := by decide +kernel
theorem d_Reader_takeName_1 : decode prog_6_method_5_code 1 = .ok (.getfield 21, 3) := by decide +kernel
theorem d_Reader_takeName_4 : decode prog_6_method_5_code 4 = .ok (.iconst 1, 1) := by decide +kernel
theorem d_Reader_takeName_5 : decode prog_6_method_5_code 5 = .ok (.invokevirtual 112, 3) := by decide +kernel
theorem d_Reader_takeName_8 : decode prog_6_method_5_code 8 = .ok (.lstore_n 1, 1) := by decide +kernel
theorem d_Reader_takeName_9 : decode prog_6_method_5_code 9 = .ok (.aload_n 0, 1) := by decide +kernel
theorem d_Reader_takeName_10 : decode prog_6_method_5_code 10 = .ok (.getfield 21, 3) := by decide +kernel
theorem d_Reader_takeName_13 : decode prog_6_method_5_code 13 = .ok (.invokevirtual 47, 3) := by decide +kernel
theorem d_Reader_takeName_16 : decode prog_6_method_5_code 16 = .ok (.iconst 2, 1) := by decide +kernel
theorem d_Reader_takeName_17 : decode prog_6_method_5_code 17 = .ok (.if_icmp .ne 11, 3) := by decide +kernel
theorem d_Reader_takeName_20 : decode prog_6_method_5_code 20 = .ok (.aload_n 0, 1) := by decide +kernel
theorem d_Reader_takeName_21 : decode prog_6_method_5_code 21 = .ok (.lload_n 1, 1) := by decide +kernel
theorem d_Reader_takeName_22 : decode prog_6_method_5_code 22 = .ok (.invokevirtual 116, 3) := by decide +kernel
theorem d_Reader_takeName_25 : decode prog_6_method_5_code 25 = .ok (.ifCond .ne 5, 3) := by decide +kernel
theorem d_Reader_takeName_28 : decode prog_6_method_5_code 28 = .ok (.iconst 0, 1) := by decide +kernel
theorem d_Reader_takeName_29 : decode prog_6_method_5_code 29 = .ok (.ireturn, 1) := by decide +kernel
theorem d_Reader_takeName_30 : decode prog_6_method_5_code 30 = .ok (.aload_n 0, 1) := by decide +kernel
theorem d_Reader_takeName_31 : decode prog_6_method_5_code 31 = .ok (.getfield 12, 3) := by decide +kernel
theorem d_Reader_takeName_34 : decode prog_6_method_5_code 34 = .ok (.getfield 120, 3) := by decide +kernel
theorem d_Reader_takeName_37 : decode prog_6_method_5_code 37 = .ok (.new 124, 3) := by decide +kernel
theorem d_Reader_takeName_40 : decode prog_6_method_5_code 40 = .ok (.dup, 1) := by decide +kernel
theorem d_Reader_takeName_41 : decode prog_6_method_5_code 41 = .ok (.lload_n 1, 1) := by decide +kernel
theorem d_Reader_takeName_42 : decode prog_6_method_5_code 42 = .ok (.invokespecial 126, 3) := by decide +kernel
theorem d_Reader_takeName_45 : decode prog_6_method_5_code 45 = .ok (.invokevirtual 129, 3) := by decide +kernel
theorem d_Reader_takeName_48 : decode prog_6_method_5_code 48 = .ok (.pop, 1) := by decide +kernel
theorem d_Reader_takeName_49 : decode prog_6_method_5_code 49 = .ok (.iconst 1, 1) := by decide +kernel
theorem d_Reader_takeName_50 : decode prog_6_method_5_code 50 = .ok (.ireturn, 1) := by decide +kernel
set_option maxRecDepth 100000 in
set_option maxHeartbeats 4000000 in
theorem cm_Reader_takeName {l : Launch} {S0 : State} {b : Nat} {D : va_G} {dT : Nat → ClassId} (hE : vEnv S0 b D dT) {dE mO : Nat} (hJ : vJ S0 dE mO) {h0 : vH} {hcv : vH} {ad : Nat → Nat → Nat} {L : vL} {rc : Int32} {A : Nat → Nat → Int32} {B : Nat → Nat → Int64} {nv ns np nc : Nat} {pf cb ce cs : Nat → Nat} {c0 : Nat} (x : LH S0.heap.size hcv h0 ad L) (hcE : ∃ fE, hcv dE = some (aR dT 0 fE)) (hR : PR dT dE h0 ad L A B nv ns np nc pf cb ce cs c0 rc) (hnv : nv ≤ 40) (hns : ns ≤ 30) (hnp : np ≤ 600) (hnc : nc ≤ 600) {f : Nat → Int32} {N en bg cw : Nat} (hT : PT dT S0.heap.size h0 ad L f N en bg cw) (hf6 : A 6 = f) : vMi l S0 D vcl GT y_Reader_takeName prog_6_method_5_code 3 (some .boolean) 7 161 2 (16 + 2 * nv) [.ref (ad 6 0)] h0 (fun r h' => tkP dT dE S0.heap.size hcv h0 ad L rc A B nv ns np nc pf cb ce cs c0 (okVa A en (wP f en bg 1) nv 0) (vaA A en (wP f en bg 1) nv 0) (vaB A B en (wP f en bg 1) nv 0) (nv + 1) ns np nc r h') := by
  unfold vMi
  refine vM_ofQ hE.1 (by decide) (Nat.le_of_ble_eq_true rfl) (fun p e s m args below meth c ls Q hQ C hr hlk hnm X hl => ?_)
  have C : vC p s m _ c _ _ "MenuScreens$Reader" GT D vcl (vty dT) := C
  have hx := C.1.1
  have hb := C.1.2.1
  obtain ⟨H, eH⟩ : ∃ z, z = s.heap := ⟨_, rfl⟩
  obtain ⟨locs, elocs⟩ : ∃ z : List Loc, z = [] := ⟨_, rfl⟩
  rw [← eH, ← elocs] at X
  rw [← eH, ← elocs]
  clear eH elocs
  have hl : lv_has ls 3 [(0, .ref (ad 6 0))] := hl
  have hR0 := hR
  obtain ⟨hRP, h20, h60⟩ := hR0
  obtain ⟨t, tv, z2, z3, f8, fs, fe, ⟨kt, ot⟩, ⟨ktv, otv⟩, wtv, h70, h71, h72, hW, hb0, he, hN, hg⟩ := hT
  refine lv_aload_n hx hb d_Reader_takeName_0 rfl (lv_at hl 0 rfl) ?_
  refine mv_get C X (x.get (i := 6) (j := 0) h60) 1 f_5_21_5 (v := .ref (ad 7 0)) rfl d_Reader_takeName_1 ?_
  refine lv_iconst (v := 1) hx hb d_Reader_takeName_4 (by decide) ?_
  refine mv_bl X (mv_rV (rest := []) (As := [.int 1]) gt_good C X k_5_112 (cm_Line_nameAt hE hJ hW hb0 he hN hg (j := 1) (by decide) (x.get (i := 7) (j := 0) h70) (x.get (i := 7) (j := 1) h71) (x.get (i := 7) (j := 2) h72) kt ktv) (x.get (i := 7) (j := 0) h70) rfl rfl ⟨Nat.le_of_ble_eq_true rfl, Nat.le_of_ble_eq_true rfl⟩ rfl hl.1 rfl (Nat.le_of_ble_eq_true rfl) d_Reader_takeName_5 ⟨Nat.zero_le _, Nat.zero_le _⟩) (fun r1 hN H locs hp X => ?_)
  obtain ⟨eh, er⟩ := hp
  replace eh := eh.symm
  replace er := er.symm
  subst eh er
  refine lv_lstore_n (lv' := [(1, .long (cNa f en bg cw 1)), (0, .ref (ad 6 0))]) hx hb d_Reader_takeName_8 rfl hl (by decide) rfl (fun ls hl => ?_)
  refine lv_aload_n hx hb d_Reader_takeName_9 rfl (lv_at hl 1 rfl) ?_
  refine mv_get C X (x.get (i := 6) (j := 0) h60) 1 f_5_21_5 (v := .ref (ad 7 0)) rfl d_Reader_takeName_10 ?_
  refine mv_bi X (mv_rV (rest := []) (As := []) gt_good C X k_5_47 (cm_Line_wordCount hE (x.get (i := 7) (j := 0) h70)) (x.get (i := 7) (j := 0) h70) rfl rfl ⟨Nat.le_of_ble_eq_true rfl, Nat.le_of_ble_eq_true rfl⟩ rfl hl.1 rfl (Nat.le_of_ble_eq_true rfl) d_Reader_takeName_13 ⟨Nat.zero_le _, Nat.zero_le _⟩) (fun r2 hN H locs hp X => ?_)
  obtain ⟨eh, er⟩ := hp
  replace eh := eh.symm
  replace er := er.symm
  subst eh er
  refine lv_iconst (v := 2) hx hb d_Reader_takeName_16 (by decide) ?_
  refine lv_icmp_ne (tgt := 28) hx hb d_Reader_takeName_17 (by decide) (fun c3 => ?_) (fun c3 => ?_)
  · skip
    refine lv_iconst (v := 0) hx hb d_Reader_takeName_28 (by decide) ?_
    exact mq_iret hQ C X hr rfl hlk (tkP_no x hR vfx.rf (Bool.eq_false_iff.mpr (fun z => absurd ((okVa0_c hf6 hW hb0 hRP.2.2.2.2.2.1 hnv).mp z).1 (fun y => c3 (by rw [y]; rfl))))) (by omega) (by omega) d_Reader_takeName_29
  · skip
    refine lv_aload_n hx hb d_Reader_takeName_20 rfl (lv_at hl 1 rfl) ?_
    refine lv_lload_n hx hb d_Reader_takeName_21 rfl (lv_at hl 0 rfl) ?_
    refine mv_bi X (mv_rV (rest := []) (As := [.long (cNa f en bg cw 1)]) gt_good C X k_5_116 (cm_Reader_isFreeForValue hE hJ x hcE hR hnv hns hnp hnc) (x.get (i := 6) (j := 0) h60) rfl rfl ⟨Nat.le_of_ble_eq_true rfl, Nat.le_of_ble_eq_true rfl⟩ rfl hl.1 rfl (Nat.le_of_ble_eq_true rfl) d_Reader_takeName_22 ⟨Nat.zero_le _, Nat.zero_le _⟩) (fun r4 hN H locs hp X => ?_)
    obtain ⟨eh, er⟩ := hp
    replace eh := eh.symm
    subst eh
    refine lv_if_ne (tgt := 30) hx hb d_Reader_takeName_25 (by decide) (fun c5 => ?_) (fun c5 => ?_)
    · skip
      have er0 := er
      refine lv_aload_n hx hb d_Reader_takeName_30 rfl (lv_at hl 1 rfl) ?_
      refine mv_get C X (x.get (i := 6) (j := 0) h60) 0 f_5_12_5 (v := .ref (ad 2 0)) rfl d_Reader_takeName_31 ?_
      refine mv_get C X (x.get (i := 2) (j := 0) h20) 0 f_5_120_4 (v := .ref (ad 3 0)) rfl d_Reader_takeName_34 ?_
      refine mv_new C X n_5_124 (by show 0 + 1 ≤ 2; omega) (by show 0 + 6 ≤ (16 + 2 * nv); omega) d_Reader_takeName_37 (fun q6 H z_q6 w_q6 X => ?_)
      have n_t_q6 : t ≠ q6 := vnf kt z_q6
      have n_tv_q6 : tv ≠ q6 := vnf ktv z_q6
      have n__ad_2_0__q6 : (ad 2 0) ≠ q6 := vnf (x.get (i := 2) (j := 0) h20) z_q6
      have n__ad_6_0__q6 : (ad 6 0) ≠ q6 := vnf (x.get (i := 6) (j := 0) h60) z_q6
      have n__ad_7_0__q6 : (ad 7 0) ≠ q6 := vnf (x.get (i := 7) (j := 0) h70) z_q6
      have n__ad_7_1__q6 : (ad 7 1) ≠ q6 := vnf (x.get (i := 7) (j := 1) h71) z_q6
      have n__ad_7_2__q6 : (ad 7 2) ≠ q6 := vnf (x.get (i := 7) (j := 2) h72) z_q6
      have X : vO S0 D vcl (vup h0 q6 (.inr (8, [.long 0, .int 0, .long 0, .long 0, .long 0, .int 0]))) s H locs := X
      change W _ _ _ _ _ _ _ _ _ _ _ _ (0 + 1) (0 + 6) _ _
      refine lv_dup hx hb d_Reader_takeName_40 rfl ?_
      refine lv_lload_n hx hb d_Reader_takeName_41 rfl (lv_at hl 0 rfl) ?_
      refine mv_bv X (mv_rI (rest := [.ref q6, .ref (ad 3 0)]) (As := [.long (cNa f en bg cw 1)]) gt_good C X k_5_126 (cm_Value_init1 hE (vup_s _ _ _) w_q6) ⟨Nat.le_of_ble_eq_true rfl, Nat.le_of_ble_eq_true rfl⟩ rfl hl.1 rfl (Nat.le_of_ble_eq_true rfl) d_Reader_takeName_42 ⟨by show (0 + 1) + 0 ≤ 2; omega, by show (0 + 6) + 0 ≤ (16 + 2 * nv); omega⟩) (fun hN H locs hp X => ?_)
      replace hp := hp.symm
      subst hp
      rw [vup_u] at X
      have X : vO S0 D vcl (vup h0 q6 (.inr (8, [.long (cNa f en bg cw 1), .int 0, .long (-999999), .long 999999, .long 0, .int 0]))) s H locs := X
      have x2 : LR S0.heap.size hcv h0 ad L (vup h0 q6 (.inr (8, [.long (cNa f en bg cw 1), .int 0, .long (-999999), .long 999999, .long 0, .int 0]))) (lput ad 10 nv q6) (lput L 10 nv (some (.inr (8, [.long (cNa f en bg cw 1), .int 0, .long (-999999), .long 999999, .long 0, .int 0])))) := (LR.of x).new 10 nv z_q6 w_q6
      obtain ⟨fE, hcE2⟩ := hcE
      have hr2 : rLst dT dE (lput ad 10 nv q6) (lput L 10 nv (some (.inr (8, [.long (cNa f en bg cw 1), .int 0, .long (-999999), .long 999999, .long 0, .int 0])))) 3 30 0 nv (ad 10) := hRP.1.1.kept rfl rfl rfl (fun _ _ => rfl)
      obtain ⟨ea, cap, fl, md, hL2, hfl, hLL, hea⟩ := hr2.hp x2.1 hcE2
      have hel : elO (vup h0 q6 (.inr (8, [.long (cNa f en bg cw 1), .int 0, .long (-999999), .long 999999, .long 0, .int 0]))) fl nv := elO_of hfl (fun k hk => ⟨8, _, (vup_n _ _ (vnf (x.get (hRP.1.2 k hk)) z_q6)).trans (x.get (hRP.1.2 k hk)), Or.inl rfl⟩)
      refine mv_bi X (mv_rV (rest := []) (As := [.ref q6]) gt_good C X k_5_129 (cm_AL_add_8 hE hJ hL2 hel (vup_s _ _ _)) hL2.1 rfl rfl ⟨Nat.le_of_ble_eq_true rfl, Nat.le_of_ble_eq_true rfl⟩ rfl hl.1 rfl (Nat.le_of_ble_eq_true rfl) d_Reader_takeName_45 ⟨by show ((0 + 1) + 0) + 1 ≤ 2; omega, by show ((0 + 6) + 0) + (10 + 2 * nv) ≤ (16 + 2 * nv); omega⟩) (fun r8 hN H locs hp X => ?_)
      obtain ⟨er, hadd⟩ := hp
      subst er
      obtain ⟨bq, e1, e2, x3, kx⟩ := lst_add x2 (by decide) hLL hea hL2.2.2.1 hL2.2.2.2.1.2 (by omega) (x.1 _ _ hcE2).1 hfl hadd
      refine lv_pop hx hb d_Reader_takeName_48 rfl ?_
      refine lv_iconst (v := 1) hx hb d_Reader_takeName_49 (by decide) ?_
      exact mq_iret hQ C X hr rfl hlk (by
          have hfr := bI_n (fun z => c5 (er0.trans z))
          rw [Bool.and_eq_true, Bool.and_eq_true, decide_eq_true_iff, decide_eq_true_iff, decide_eq_true_iff] at hfr
          have hcw : cw = 2 := nI_eqI (b := 2) (by have := hW.1; omega) (by decide) c3
          obtain ⟨-, hnm, eNa⟩ := cNa_lt hfr.1
          have hwi := wP_in (f := f) hb0 1
          have hti := nT_in f hwi.2
          subst hf6
          have r2 := RP_va (p1 := 0) (e := en) (T := wP (A 6) en bg 1) (q := q6) (b := bq) (e1 := e1) (e2 := e2) hRP hnv hnm (by omega) (by omega) (by rw [eNa] at x3; exact x3.2) kx
          refine ⟨_, _, x3, fun i => ⟨fun hi => by rw [lput_k _ _ (kK_n hi (n := 30) (by decide)), lput_k _ _ (kK_n hi (n := 3) (by decide)), lput_k _ _ (kK_n hi (n := 10) (by decide))], fun hi => by rw [lput_k _ _ (kA_n hi (n := 30) (by decide)), lput_k _ _ (kA_n hi (n := 10) (by decide))]⟩, Or.inl ⟨(okVa0_c rfl hW hb0 hRP.2.2.2.2.2.1 hnv).mpr ⟨hcw, hfr⟩, rfl, pf, cb, ce, cs, c0, ?_, h20, h60⟩⟩
          rw [eNa]; exact r2) (by omega) (by omega) d_Reader_takeName_50
    · skip
      refine lv_iconst (v := 0) hx hb d_Reader_takeName_28 (by decide) ?_
      exact mq_iret hQ C X hr rfl hlk (tkP_no x hR vfx.rf (Bool.eq_false_iff.mpr (fun z => by
          obtain ⟨-, a1, a2, a3⟩ := ((okVa0_c hf6 hW hb0 hRP.2.2.2.2.2.1 hnv).mp z)
          rw [decide_eq_true a1, decide_eq_true a2, decide_eq_true a3] at er
          exact absurd (er.symm.trans c5) (by decide)))) (by omega) (by omega) d_Reader_takeName_29
