theorem d_Reader_takeIf_0 : decode prog_6_method_13_code 0 = .ok (.aload_n 0, 1) := by decide +kernel
theorem d_Reader_takeIf_1 : decode prog_6_method_13_code 1 = .ok (.getfield 12, 3) := by decide +kernel
theorem d_Reader_takeIf_4 : decode prog_6_method_13_code 4 = .ok (.aload_n 0, 1) := by decide +kernel
theorem d_Reader_takeIf_5 : decode prog_6_method_13_code 5 = .ok (.getfield 21, 3) := by decide +kernel
theorem d_Reader_takeIf_8 : decode prog_6_method_13_code 8 = .ok (.iconst 1, 1) := by decide +kernel
theorem d_Reader_takeIf_9 : decode prog_6_method_13_code 9 = .ok (.invokevirtual 112, 3) := by decide +kernel
theorem d_Reader_takeIf_12 : decode prog_6_method_13_code 12 = .ok (.invokevirtual 145, 3) := by decide +kernel
theorem d_Reader_takeIf_15 : decode prog_6_method_13_code 15 = .ok (.astore_n 1, 1) := by decide +kernel
theorem d_Reader_takeIf_16 : decode prog_6_method_13_code 16 = .ok (.aload_n 0, 1) := by decide +kernel
theorem d_Reader_takeIf_17 : decode prog_6_method_13_code 17 = .ok (.getfield 21, 3) := by decide +kernel
theorem d_Reader_takeIf_20 : decode prog_6_method_13_code 20 = .ok (.iconst 2, 1) := by decide +kernel
theorem d_Reader_takeIf_21 : decode prog_6_method_13_code 21 = .ok (.invokevirtual 54, 3) := by decide +kernel
theorem d_Reader_takeIf_24 : decode prog_6_method_13_code 24 = .ok (.astore_n 2, 1) := by decide +kernel
theorem d_Reader_takeIf_25 : decode prog_6_method_13_code 25 = .ok (.aload_n 0, 1) := by decide +kernel
theorem d_Reader_takeIf_26 : decode prog_6_method_13_code 26 = .ok (.getfield 21, 3) := by decide +kernel
theorem d_Reader_takeIf_29 : decode prog_6_method_13_code 29 = .ok (.iconst 3, 1) := by decide +kernel
theorem d_Reader_takeIf_30 : decode prog_6_method_13_code 30 = .ok (.invokevirtual 134, 3) := by decide +kernel
theorem d_Reader_takeIf_33 : decode prog_6_method_13_code 33 = .ok (.istore_n 3, 1) := by decide +kernel
theorem d_Reader_takeIf_34 : decode prog_6_method_13_code 34 = .ok (.aload_n 0, 1) := by decide +kernel
theorem d_Reader_takeIf_35 : decode prog_6_method_13_code 35 = .ok (.getfield 21, 3) := by decide +kernel
theorem d_Reader_takeIf_38 : decode prog_6_method_13_code 38 = .ok (.invokevirtual 47, 3) := by decide +kernel
theorem d_Reader_takeIf_41 : decode prog_6_method_13_code 41 = .ok (.iconst 4, 1) := by decide +kernel
theorem d_Reader_takeIf_42 : decode prog_6_method_13_code 42 = .ok (.if_icmp .ne 13, 3) := by decide +kernel
theorem d_Reader_takeIf_45 : decode prog_6_method_13_code 45 = .ok (.aload_n 1, 1) := by decide +kernel
theorem d_Reader_takeIf_46 : decode prog_6_method_13_code 46 = .ok (.ifnull 9, 3) := by decide +kernel
theorem d_Reader_takeIf_49 : decode prog_6_method_13_code 49 = .ok (.iload_n 3, 1) := by decide +kernel
theorem d_Reader_takeIf_50 : decode prog_6_method_13_code 50 = .ok (.ldc 138, 2) := by decide +kernel
theorem d_Reader_takeIf_52 : decode prog_6_method_13_code 52 = .ok (.if_icmp .ne 5, 3) := by decide +kernel
theorem d_Reader_takeIf_55 : decode prog_6_method_13_code 55 = .ok (.iconst 0, 1) := by decide +kernel
theorem d_Reader_takeIf_56 : decode prog_6_method_13_code 56 = .ok (.ireturn, 1) := by decide +kernel
theorem d_Reader_takeIf_57 : decode prog_6_method_13_code 57 = .ok (.aload_n 2, 1) := by decide +kernel
theorem d_Reader_takeIf_58 : decode prog_6_method_13_code 58 = .ok (.ldc 189, 2) := by decide +kernel
theorem d_Reader_takeIf_60 : decode prog_6_method_13_code 60 = .ok (.invokevirtual 60, 3) := by decide +kernel
theorem d_Reader_takeIf_63 : decode prog_6_method_13_code 63 = .ok (.ifCond .ne 23, 3) := by decide +kernel
theorem d_Reader_takeIf_66 : decode prog_6_method_13_code 66 = .ok (.aload_n 2, 1) := by decide +kernel
theorem d_Reader_takeIf_67 : decode prog_6_method_13_code 67 = .ok (.ldc 191, 2) := by decide +kernel
theorem d_Reader_takeIf_69 : decode prog_6_method_13_code 69 = .ok (.invokevirtual 60, 3) := by decide +kernel
theorem d_Reader_takeIf_72 : decode prog_6_method_13_code 72 = .ok (.ifCond .ne 14, 3) := by decide +kernel
theorem d_Reader_takeIf_75 : decode prog_6_method_13_code 75 = .ok (.aload_n 2, 1) := by decide +kernel
theorem d_Reader_takeIf_76 : decode prog_6_method_13_code 76 = .ok (.ldc 193, 2) := by decide +kernel
theorem d_Reader_takeIf_78 : decode prog_6_method_13_code 78 = .ok (.invokevirtual 60, 3) := by decide +kernel
theorem d_Reader_takeIf_81 : decode prog_6_method_13_code 81 = .ok (.ifCond .ne 5, 3) := by decide +kernel
theorem d_Reader_takeIf_84 : decode prog_6_method_13_code 84 = .ok (.iconst 0, 1) := by decide +kernel
theorem d_Reader_takeIf_85 : decode prog_6_method_13_code 85 = .ok (.ireturn, 1) := by decide +kernel
theorem d_Reader_takeIf_86 : decode prog_6_method_13_code 86 = .ok (.aload_n 0, 1) := by decide +kernel
theorem d_Reader_takeIf_87 : decode prog_6_method_13_code 87 = .ok (.new 195, 3) := by decide +kernel
theorem d_Reader_takeIf_90 : decode prog_6_method_13_code 90 = .ok (.dup, 1) := by decide +kernel
theorem d_Reader_takeIf_91 : decode prog_6_method_13_code 91 = .ok (.aload_n 1, 1) := by decide +kernel
theorem d_Reader_takeIf_92 : decode prog_6_method_13_code 92 = .ok (.aload_n 2, 1) := by decide +kernel
theorem d_Reader_takeIf_93 : decode prog_6_method_13_code 93 = .ok (.iconst 0, 1) := by decide +kernel
theorem d_Reader_takeIf_94 : decode prog_6_method_13_code 94 = .ok (.invokevirtual 39, 3) := by decide +kernel
theorem d_Reader_takeIf_97 : decode prog_6_method_13_code 97 = .ok (.iload_n 3, 1) := by decide +kernel
theorem d_Reader_takeIf_98 : decode prog_6_method_13_code 98 = .ok (.aload_n 0, 1) := by decide +kernel
theorem d_Reader_takeIf_99 : decode prog_6_method_13_code 99 = .ok (.getfield 29, 3) := by decide +kernel
theorem d_Reader_takeIf_102 : decode prog_6_method_13_code 102 = .ok (.invokespecial 197, 3) := by decide +kernel
theorem d_Reader_takeIf_105 : decode prog_6_method_13_code 105 = .ok (.putfield 29, 3) := by decide +kernel
theorem d_Reader_takeIf_108 : decode prog_6_method_13_code 108 = .ok (.iconst 1, 1) := by decide +kernel
theorem d_Reader_takeIf_109 : decode prog_6_method_13_code 109 = .ok (.ireturn, 1) := by decide +kernel
set_option maxRecDepth 100000 in
set_option maxHeartbeats 4000000 in
theorem cm_Reader_takeIf {l : Launch} {S0 : State} {b : Nat} {D : va_G} {dT : Nat → ClassId} (hE : vEnv S0 b D dT) {dE mO : Nat} (hJ : vJ S0 dE mO) {h0 : vH} {hcv : vH} {ad : Nat → Nat → Nat} {L : vL} {rc : Int32} {A : Nat → Nat → Int32} {B : Nat → Nat → Int64} {nv ns np nc : Nat} {pf cb ce cs : Nat → Nat} {c0 : Nat} (x : LH S0.heap.size hcv h0 ad L) (hcE : ∃ fE, hcv dE = some (aR dT 0 fE)) (hR : PR dT dE h0 ad L A B nv ns np nc pf cb ce cs c0 rc) (hnv : nv ≤ 40) (hns : ns ≤ 30) (hnp : np ≤ 600) (hnc : nc ≤ 600) {f : Nat → Int32} {N en bg cw : Nat} (hT : PT dT S0.heap.size h0 ad L f N en bg cw) (hf6 : A 6 = f) {lt ltv : Nat} {txl : String} {lz2 lz3 : Value} {fl0 : Nat → Int32} (hlt : vk_R "MenuScreens$Line" 18 txl lt S0) (hlt1 : hcv lt = some (.inr (0, [.ref ltv, .int 0, lz2, lz3]))) (hlt2 : hcv ltv = some (.inl (dT 2, 0, .inl fl0))) {le lev : Nat} {txle : String} {le2 le3 : Value} {fle : Nat → Int32} (hle : vk_R "MenuScreens$Reader" 189 txle le S0) (hle1 : hcv le = some (.inr (0, [.ref lev, .int 0, le2, le3]))) (hle2 : hcv lev = some (.inl (dT 2, 1, .inl fle))) (hle3 : fle 0 = 61) {ll llv : Nat} {txll : String} {ll2 ll3 : Value} {fll : Nat → Int32} (hll : vk_R "MenuScreens$Reader" 191 txll ll S0) (hll1 : hcv ll = some (.inr (0, [.ref llv, .int 0, ll2, ll3]))) (hll2 : hcv llv = some (.inl (dT 2, 1, .inl fll))) (hll3 : fll 0 = 60) {lg lgv : Nat} {txlg : String} {lg2 lg3 : Value} {flg : Nat → Int32} (hlg : vk_R "MenuScreens$Reader" 193 txlg lg S0) (hlg1 : hcv lg = some (.inr (0, [.ref lgv, .int 0, lg2, lg3]))) (hlg2 : hcv lgv = some (.inl (dT 2, 1, .inl flg))) (hlg3 : flg 0 = 62) : vMi l S0 D vcl GT y_Reader_takeIf prog_6_method_13_code 4 (some .boolean) 6 143 4 (20 + (en - bg)) [.ref (ad 6 0)] h0 (fun r h' => tkP dT dE S0.heap.size hcv h0 ad L rc A B nv ns np nc pf cb ce cs c0 (okIf A en (wP f en bg 1) nv) (coA A en (wP f en bg 1) nv nc (nI ns)) (va_up B 44 (vp_updL (B 44) nc (vNu (A 6) en (nT (A 6) en (nT (A 6) en (wP f en bg 1)))))) nv ns np (nc + 1) r h') := by
  unfold vMi
  refine vM_ofQ hE.1 (by decide) (Nat.le_of_ble_eq_true rfl) (fun p e s m args below meth c ls Q hQ C hr hlk hnm X hl => ?_)
  have C : vC p s m _ c _ _ "MenuScreens$Reader" GT D vcl (vty dT) := C
  have hx := C.1.1
  have hb := C.1.2.1
  obtain ⟨H, eH⟩ : ∃ z, z = s.heap := ⟨_, rfl⟩
  obtain ⟨locs, elocs⟩ : ∃ z : List Loc, z = [] := ⟨_, rfl⟩
  rw [← eH, ← elocs] at X
  rw [← eH, ← elocs]
  clear eH elocs
  have hl : lv_has ls 4 [(0, .ref (ad 6 0))] := hl
  have hR0 := hR
  obtain ⟨hRP, h20, h60⟩ := hR0
  obtain ⟨t, tv, z2, z3, f8, fs, fe, ⟨kt, ot⟩, ⟨ktv, otv⟩, wtv, h70, h71, h72, hW, hb0, he, hN, hg⟩ := hT
  have hN0 := hN
  have hcE9 := hcE
  obtain ⟨fE, hcE2⟩ := hcE
  obtain ⟨ea, cap, fl, md, hL, hfl, hLL, hea⟩ := hRP.1.1.hp x hcE2
  obtain ⟨kl, wl, ke, ⟨hncap, hcap⟩, hd⟩ := hL
  replace hcE := hcE9
  refine lv_aload_n hx hb d_Reader_takeIf_0 rfl (lv_at hl 0 rfl) ?_
  refine mv_get C X (x.get (i := 6) (j := 0) h60) 0 f_5_12_5 (v := .ref (ad 2 0)) rfl d_Reader_takeIf_1 ?_
  refine lv_aload_n hx hb d_Reader_takeIf_4 rfl (lv_at hl 0 rfl) ?_
  refine mv_get C X (x.get (i := 6) (j := 0) h60) 1 f_5_21_5 (v := .ref (ad 7 0)) rfl d_Reader_takeIf_5 ?_
  refine lv_iconst (v := 1) hx hb d_Reader_takeIf_8 (by decide) ?_
  refine mv_bl X (mv_rV (rest := [.ref (ad 2 0)]) (As := [.int 1]) gt_good C X k_5_112 (cm_Line_nameAt hE hJ hW hb0 he hN0 hg (j := 1) (by decide) (x.get (i := 7) (j := 0) h70) (x.get (i := 7) (j := 1) h71) (x.get (i := 7) (j := 2) h72) kt ktv) (x.get (i := 7) (j := 0) h70) rfl rfl ⟨Nat.le_of_ble_eq_true rfl, Nat.le_of_ble_eq_true rfl⟩ rfl hl.1 rfl (Nat.le_of_ble_eq_true rfl) d_Reader_takeIf_9 ⟨Nat.zero_le _, Nat.zero_le _⟩) (fun r1 hN H locs hp X => ?_)
  obtain ⟨eh, er⟩ := hp
  replace eh := eh.symm
  replace er := er.symm
  subst eh er
  refine mv_bq X (mv_rV (rest := []) (As := [.long (cNa f en bg cw 1)]) gt_good C X k_5_145 (cm_Plan_valueNamed hE (nf := nmV A 13 14) (g := ad 10) hncap (by omega) hfl (fun k hk => x.get (hRP.1.2 k hk)) (x.get h20) kl ke) (x.get (i := 2) (j := 0) h20) rfl rfl ⟨Nat.le_of_ble_eq_true rfl, Nat.le_of_ble_eq_true rfl⟩ rfl hl.1 rfl (Nat.le_of_ble_eq_true rfl) d_Reader_takeIf_12 ⟨Nat.zero_le _, Nat.zero_le _⟩) (fun r2 hN H locs hp X => ?_)
  obtain ⟨eh, er⟩ := hp
  replace eh := eh.symm
  replace er := er.symm
  subst eh er
  by_cases hk : vfd (nmV A 13 14) nv (cNa f en bg cw 1) = 0
  · rw [if_pos hk]
    change W _ _ _ _ _ _ _ _ _ _ _ _ _ _ _ (F0 _ _ _ (.null :: _))
    refine lv_astore_nN (lv' := [(1, .null), (0, .ref (ad 6 0))]) hx hb d_Reader_takeIf_15 rfl hl (by decide) rfl (fun ls hl => ?_)
    refine lv_aload_n hx hb d_Reader_takeIf_16 rfl (lv_at hl 1 rfl) ?_
    refine mv_get C X (x.get (i := 6) (j := 0) h60) 1 f_5_21_5 (v := .ref (ad 7 0)) rfl d_Reader_takeIf_17 ?_
    refine lv_iconst (v := 2) hx hb d_Reader_takeIf_20 (by decide) ?_
    have hB2 : wP f en bg (2 + 1) - nF f en (wP f en bg 2) ≤ en - bg := by
      have a1 := wP_in (f := f) hb0 2
      have a2 := nF_in f a1.2
      have a3 := (wP_in (f := f) hb0 (2 + 1)).2
      omega
    by_cases hw2 : 2 < cw
    · skip
      refine mv_bq X (mv_rV (rest := []) (As := [.int 2]) gt_good C X k_5_54 (cm_Line_wordAtT hE hJ hW hb0 he hN0 hg (j := 2) hw2 (x.get (i := 7) (j := 0) h70) (x.get (i := 7) (j := 1) h71) (x.get (i := 7) (j := 2) h72) kt ktv wtv) (x.get (i := 7) (j := 0) h70) rfl rfl ⟨Nat.le_of_ble_eq_true rfl, Nat.le_of_ble_eq_true rfl⟩ rfl hl.1 rfl (Nat.le_of_ble_eq_true rfl) d_Reader_takeIf_21 ⟨by show 0 + 2 ≤ 4; omega, by show 0 + (4 + (wP f en bg (2 + 1) - nF f en (wP f en bg 2))) ≤ (20 + (en - bg)); omega⟩) (fun r3 hN H locs hp X => ?_)
      obtain ⟨wq2, wa2, v22, v32, g2, er, fr2, hs2, hz2, eg2⟩ := hp
      subst er
      change W _ _ _ _ _ _ _ _ _ _ _ _ _ _ _ (F0 _ _ _ (.ref wq2 :: _))
      obtain ⟨k2, ek2⟩ : ∃ z, z = hN := ⟨_, rfl⟩
      rw [← ek2] at X fr2 hs2
      clear ek2
      have xr2 := (LR.of x).fx fr2
      have kt2 := fr2 _ _ kt (fun z => z)
      have ktv2 := fr2 _ _ ktv (fun z => z)
      refine lv_astore_n (lv' := [(2, .ref wq2), (1, .null), (0, .ref (ad 6 0))]) hx hb d_Reader_takeIf_24 rfl hl (by decide) rfl (fun ls hl => ?_)
      refine lv_aload_n hx hb d_Reader_takeIf_25 rfl (lv_at hl 2 rfl) ?_
      refine mv_get C X (xr2.1.get (i := 6) (j := 0) h60) 1 f_5_21_5 (v := .ref (ad 7 0)) rfl d_Reader_takeIf_26 ?_
      refine lv_iconst (v := 3) hx hb d_Reader_takeIf_29 (by decide) ?_
      refine mv_bi X (mv_rV (rest := []) (As := [.int 3]) gt_good C X k_5_134 (cm_Line_numberAt hE hJ hW hb0 he hN0 hg (j := 3) (by decide) (xr2.1.get (i := 7) (j := 0) h70) (xr2.1.get (i := 7) (j := 1) h71) (xr2.1.get (i := 7) (j := 2) h72) kt2 ktv2) (xr2.1.get (i := 7) (j := 0) h70) rfl rfl ⟨Nat.le_of_ble_eq_true rfl, Nat.le_of_ble_eq_true rfl⟩ rfl hl.1 rfl (Nat.le_of_ble_eq_true rfl) d_Reader_takeIf_30 ⟨by show (0 + 2) + 0 ≤ 4; omega, by show (0 + (4 + (wP f en bg (2 + 1) - nF f en (wP f en bg 2)))) + 0 ≤ (20 + (en - bg)); omega⟩) (fun r4 hN H locs hp X => ?_)
      obtain ⟨eh, er⟩ := hp
      replace eh := eh.symm
      replace er := er.symm
      subst eh er
      refine lv_istore_n (lv' := [(3, .int (cNi f en bg cw 3)), (2, .ref wq2), (1, .null), (0, .ref (ad 6 0))]) hx hb d_Reader_takeIf_33 rfl hl (by decide) rfl (fun ls hl => ?_)
      refine lv_aload_n hx hb d_Reader_takeIf_34 rfl (lv_at hl 3 rfl) ?_
      refine mv_get C X (xr2.1.get (i := 6) (j := 0) h60) 1 f_5_21_5 (v := .ref (ad 7 0)) rfl d_Reader_takeIf_35 ?_
      refine mv_bi X (mv_rV (rest := []) (As := []) gt_good C X k_5_47 (cm_Line_wordCount hE (xr2.1.get (i := 7) (j := 0) h70)) (xr2.1.get (i := 7) (j := 0) h70) rfl rfl ⟨Nat.le_of_ble_eq_true rfl, Nat.le_of_ble_eq_true rfl⟩ rfl hl.1 rfl (Nat.le_of_ble_eq_true rfl) d_Reader_takeIf_38 ⟨by show ((0 + 2) + 0) + 0 ≤ 4; omega, by show ((0 + (4 + (wP f en bg (2 + 1) - nF f en (wP f en bg 2)))) + 0) + 0 ≤ (20 + (en - bg)); omega⟩) (fun r5 hN H locs hp X => ?_)
      obtain ⟨eh, er⟩ := hp
      replace eh := eh.symm
      replace er := er.symm
      subst eh er
      refine lv_iconst (v := 4) hx hb d_Reader_takeIf_41 (by decide) ?_
      refine lv_icmp_ne (tgt := 55) hx hb d_Reader_takeIf_42 (by decide) (fun c6 => ?_) (fun c6 => ?_)
      · skip
        refine lv_iconst (v := 0) hx hb d_Reader_takeIf_55 (by decide) ?_
        exact mq_iret hQ C X hr rfl hlk (tkP_no x hR fr2 (Bool.eq_false_iff.mpr (fun z => absurd ((okIf_c hf6 hW hb0 hRP.2.2.2.2.2.1).mp z).1 (fun y => c6 (by rw [y]; rfl))))) (by omega) (by omega) d_Reader_takeIf_56
      · skip
        refine lv_aload_nN hx hb d_Reader_takeIf_45 rfl (lv_at hl 2 rfl) ?_
        refine lv_ifnullN (tgt := 55) hx hb d_Reader_takeIf_46 (by decide) ?_
        refine lv_iconst (v := 0) hx hb d_Reader_takeIf_55 (by decide) ?_
        exact mq_iret hQ C X hr rfl hlk (tkP_no x hR fr2 (Bool.eq_false_iff.mpr (fun z => absurd hk ((okIf_c hf6 hW hb0 hRP.2.2.2.2.2.1).mp z).2.1))) (by omega) (by omega) d_Reader_takeIf_56
    · skip
      refine mv_bq X (mv_rV (rest := []) (As := [.int 2]) gt_good C X k_5_54 (cm_Line_wordAtF hE hW.1 (j := 2) (by decide) (by omega) hlt (x.get (i := 7) (j := 0) h70)) (x.get (i := 7) (j := 0) h70) rfl rfl ⟨Nat.le_of_ble_eq_true rfl, Nat.le_of_ble_eq_true rfl⟩ rfl hl.1 rfl (Nat.le_of_ble_eq_true rfl) d_Reader_takeIf_21 ⟨Nat.zero_le _, Nat.zero_le _⟩) (fun r7 hN H locs hp X => ?_)
      obtain ⟨eh, er⟩ := hp
      replace eh := eh.symm
      replace er := er.symm
      subst eh er
      change W _ _ _ _ _ _ _ _ _ _ _ _ _ _ _ (F0 _ _ _ (.ref lt :: _))
      refine lv_astore_n (lv' := [(2, .ref lt), (1, .null), (0, .ref (ad 6 0))]) hx hb d_Reader_takeIf_24 rfl hl (by decide) rfl (fun ls hl => ?_)
      refine lv_aload_n hx hb d_Reader_takeIf_25 rfl (lv_at hl 2 rfl) ?_
      refine mv_get C X (x.get (i := 6) (j := 0) h60) 1 f_5_21_5 (v := .ref (ad 7 0)) rfl d_Reader_takeIf_26 ?_
      refine lv_iconst (v := 3) hx hb d_Reader_takeIf_29 (by decide) ?_
      refine mv_bi X (mv_rV (rest := []) (As := [.int 3]) gt_good C X k_5_134 (cm_Line_numberAt hE hJ hW hb0 he hN0 hg (j := 3) (by decide) (x.get (i := 7) (j := 0) h70) (x.get (i := 7) (j := 1) h71) (x.get (i := 7) (j := 2) h72) kt ktv) (x.get (i := 7) (j := 0) h70) rfl rfl ⟨Nat.le_of_ble_eq_true rfl, Nat.le_of_ble_eq_true rfl⟩ rfl hl.1 rfl (Nat.le_of_ble_eq_true rfl) d_Reader_takeIf_30 ⟨Nat.zero_le _, Nat.zero_le _⟩) (fun r8 hN H locs hp X => ?_)
      obtain ⟨eh, er⟩ := hp
      replace eh := eh.symm
      replace er := er.symm
      subst eh er
      refine lv_istore_n (lv' := [(3, .int (cNi f en bg cw 3)), (2, .ref lt), (1, .null), (0, .ref (ad 6 0))]) hx hb d_Reader_takeIf_33 rfl hl (by decide) rfl (fun ls hl => ?_)
      refine lv_aload_n hx hb d_Reader_takeIf_34 rfl (lv_at hl 3 rfl) ?_
      refine mv_get C X (x.get (i := 6) (j := 0) h60) 1 f_5_21_5 (v := .ref (ad 7 0)) rfl d_Reader_takeIf_35 ?_
      refine mv_bi X (mv_rV (rest := []) (As := []) gt_good C X k_5_47 (cm_Line_wordCount hE (x.get (i := 7) (j := 0) h70)) (x.get (i := 7) (j := 0) h70) rfl rfl ⟨Nat.le_of_ble_eq_true rfl, Nat.le_of_ble_eq_true rfl⟩ rfl hl.1 rfl (Nat.le_of_ble_eq_true rfl) d_Reader_takeIf_38 ⟨Nat.zero_le _, Nat.zero_le _⟩) (fun r9 hN H locs hp X => ?_)
      obtain ⟨eh, er⟩ := hp
      replace eh := eh.symm
      replace er := er.symm
      subst eh er
      refine lv_iconst (v := 4) hx hb d_Reader_takeIf_41 (by decide) ?_
      refine lv_icmp_ne (tgt := 55) hx hb d_Reader_takeIf_42 (by decide) (fun c10 => ?_) (fun z => absurd (nI_eqI (a := cw) (b := 4) (by have := hW.1; omega) (by decide) z) (by omega))
      refine lv_iconst (v := 0) hx hb d_Reader_takeIf_55 (by decide) ?_
      exact mq_iret hQ C X hr rfl hlk (tkP_no x hR vfx.rf (Bool.eq_false_iff.mpr (fun z => absurd ((okIf_c hf6 hW hb0 hRP.2.2.2.2.2.1).mp z).1 (by omega)))) (by omega) (by omega) d_Reader_takeIf_56
  · rw [if_neg hk]
    change W _ _ _ _ _ _ _ _ _ _ _ _ _ _ _ (F0 _ _ _ (.ref (ad 10 (vfd (nmV A 13 14) nv (cNa f en bg cw 1) - 1)) :: _))
    refine lv_astore_n (lv' := [(1, .ref (ad 10 (vfd (nmV A 13 14) nv (cNa f en bg cw 1) - 1))), (0, .ref (ad 6 0))]) hx hb d_Reader_takeIf_15 rfl hl (by decide) rfl (fun ls hl => ?_)
    refine lv_aload_n hx hb d_Reader_takeIf_16 rfl (lv_at hl 1 rfl) ?_
    refine mv_get C X (x.get (i := 6) (j := 0) h60) 1 f_5_21_5 (v := .ref (ad 7 0)) rfl d_Reader_takeIf_17 ?_
    refine lv_iconst (v := 2) hx hb d_Reader_takeIf_20 (by decide) ?_
    have hB2 : wP f en bg (2 + 1) - nF f en (wP f en bg 2) ≤ en - bg := by
      have a1 := wP_in (f := f) hb0 2
      have a2 := nF_in f a1.2
      have a3 := (wP_in (f := f) hb0 (2 + 1)).2
      omega
    by_cases hw2 : 2 < cw
    · skip
      refine mv_bq X (mv_rV (rest := []) (As := [.int 2]) gt_good C X k_5_54 (cm_Line_wordAtT hE hJ hW hb0 he hN0 hg (j := 2) hw2 (x.get (i := 7) (j := 0) h70) (x.get (i := 7) (j := 1) h71) (x.get (i := 7) (j := 2) h72) kt ktv wtv) (x.get (i := 7) (j := 0) h70) rfl rfl ⟨Nat.le_of_ble_eq_true rfl, Nat.le_of_ble_eq_true rfl⟩ rfl hl.1 rfl (Nat.le_of_ble_eq_true rfl) d_Reader_takeIf_21 ⟨by show 0 + 2 ≤ 4; omega, by show 0 + (4 + (wP f en bg (2 + 1) - nF f en (wP f en bg 2))) ≤ (20 + (en - bg)); omega⟩) (fun r11 hN H locs hp X => ?_)
      obtain ⟨wq2, wa2, v22, v32, g2, er, fr2, hs2, hz2, eg2⟩ := hp
      subst er
      change W _ _ _ _ _ _ _ _ _ _ _ _ _ _ _ (F0 _ _ _ (.ref wq2 :: _))
      obtain ⟨k2, ek2⟩ : ∃ z, z = hN := ⟨_, rfl⟩
      rw [← ek2] at X fr2 hs2
      clear ek2
      have xr2 := (LR.of x).fx fr2
      have kt2 := fr2 _ _ kt (fun z => z)
      have ktv2 := fr2 _ _ ktv (fun z => z)
      refine lv_astore_n (lv' := [(2, .ref wq2), (1, .ref (ad 10 (vfd (nmV A 13 14) nv (cNa f en bg cw 1) - 1))), (0, .ref (ad 6 0))]) hx hb d_Reader_takeIf_24 rfl hl (by decide) rfl (fun ls hl => ?_)
      refine lv_aload_n hx hb d_Reader_takeIf_25 rfl (lv_at hl 2 rfl) ?_
      refine mv_get C X (xr2.1.get (i := 6) (j := 0) h60) 1 f_5_21_5 (v := .ref (ad 7 0)) rfl d_Reader_takeIf_26 ?_
      refine lv_iconst (v := 3) hx hb d_Reader_takeIf_29 (by decide) ?_
      refine mv_bi X (mv_rV (rest := []) (As := [.int 3]) gt_good C X k_5_134 (cm_Line_numberAt hE hJ hW hb0 he hN0 hg (j := 3) (by decide) (xr2.1.get (i := 7) (j := 0) h70) (xr2.1.get (i := 7) (j := 1) h71) (xr2.1.get (i := 7) (j := 2) h72) kt2 ktv2) (xr2.1.get (i := 7) (j := 0) h70) rfl rfl ⟨Nat.le_of_ble_eq_true rfl, Nat.le_of_ble_eq_true rfl⟩ rfl hl.1 rfl (Nat.le_of_ble_eq_true rfl) d_Reader_takeIf_30 ⟨by show (0 + 2) + 0 ≤ 4; omega, by show (0 + (4 + (wP f en bg (2 + 1) - nF f en (wP f en bg 2)))) + 0 ≤ (20 + (en - bg)); omega⟩) (fun r12 hN H locs hp X => ?_)
      obtain ⟨eh, er⟩ := hp
      replace eh := eh.symm
      replace er := er.symm
      subst eh er
      refine lv_istore_n (lv' := [(3, .int (cNi f en bg cw 3)), (2, .ref wq2), (1, .ref (ad 10 (vfd (nmV A 13 14) nv (cNa f en bg cw 1) - 1))), (0, .ref (ad 6 0))]) hx hb d_Reader_takeIf_33 rfl hl (by decide) rfl (fun ls hl => ?_)
      refine lv_aload_n hx hb d_Reader_takeIf_34 rfl (lv_at hl 3 rfl) ?_
      refine mv_get C X (xr2.1.get (i := 6) (j := 0) h60) 1 f_5_21_5 (v := .ref (ad 7 0)) rfl d_Reader_takeIf_35 ?_
      refine mv_bi X (mv_rV (rest := []) (As := []) gt_good C X k_5_47 (cm_Line_wordCount hE (xr2.1.get (i := 7) (j := 0) h70)) (xr2.1.get (i := 7) (j := 0) h70) rfl rfl ⟨Nat.le_of_ble_eq_true rfl, Nat.le_of_ble_eq_true rfl⟩ rfl hl.1 rfl (Nat.le_of_ble_eq_true rfl) d_Reader_takeIf_38 ⟨by show ((0 + 2) + 0) + 0 ≤ 4; omega, by show ((0 + (4 + (wP f en bg (2 + 1) - nF f en (wP f en bg 2)))) + 0) + 0 ≤ (20 + (en - bg)); omega⟩) (fun r13 hN H locs hp X => ?_)
      obtain ⟨eh, er⟩ := hp
      replace eh := eh.symm
      replace er := er.symm
      subst eh er
      refine lv_iconst (v := 4) hx hb d_Reader_takeIf_41 (by decide) ?_
      refine lv_icmp_ne (tgt := 55) hx hb d_Reader_takeIf_42 (by decide) (fun c14 => ?_) (fun c14 => ?_)
      · skip
        refine lv_iconst (v := 0) hx hb d_Reader_takeIf_55 (by decide) ?_
        exact mq_iret hQ C X hr rfl hlk (tkP_no x hR fr2 (Bool.eq_false_iff.mpr (fun z => absurd ((okIf_c hf6 hW hb0 hRP.2.2.2.2.2.1).mp z).1 (fun y => c14 (by rw [y]; rfl))))) (by omega) (by omega) d_Reader_takeIf_56
      · skip
        refine lv_aload_n hx hb d_Reader_takeIf_45 rfl (lv_at hl 2 rfl) ?_
        refine lv_ifnull hx hb d_Reader_takeIf_46 ?_
        refine lv_iload_n hx hb d_Reader_takeIf_49 rfl (lv_at hl 0 rfl) ?_
        refine lv_ldc (v := (-1000000)) hx hb C.1.2.2.2.1 (C.1.2.2.2.2 _ (gt_3 155 (by decide +kernel) rfl)) d_Reader_takeIf_50 ?_
        refine lv_icmp_ne (tgt := 57) hx hb d_Reader_takeIf_52 (by decide) (fun c15 => ?_) (fun c15 => ?_)
        · skip
          refine lv_aload_n hx hb d_Reader_takeIf_57 rfl (lv_at hl 1 rfl) ?_
          refine mv_ldcS C X hle d_Reader_takeIf_58 ?_
          have hb2 : wP f en bg (2 + 1) - nF f en (wP f en bg 2) < 2 ^ 30 := by omega
          refine mv_bi X (mv_rV (rest := []) (As := [.ref le]) gt_good C X k_5_60 (cm_String_equals hE hJ (by omega) (by decide) hs2.1 hs2.2 (xr2.1.old hle1) (xr2.1.old hle2)) hs2.1 rfl rfl ⟨Nat.le_of_ble_eq_true rfl, Nat.le_of_ble_eq_true rfl⟩ rfl hl.1 rfl (Nat.le_of_ble_eq_true rfl) d_Reader_takeIf_60 ⟨by show (((0 + 2) + 0) + 0) + 0 ≤ 4; omega, by show (((0 + (4 + (wP f en bg (2 + 1) - nF f en (wP f en bg 2)))) + 0) + 0) + 0 ≤ (20 + (en - bg)); omega⟩) (fun r16 hN H locs hp X => ?_)
          obtain ⟨eh, ee1⟩ := hp
          replace eh := eh.symm
          subst eh
          refine lv_if_ne (tgt := 86) hx hb d_Reader_takeIf_63 (by decide) (fun c17 => ?_) (fun c17 => ?_)
          · skip
            refine lv_aload_n hx hb d_Reader_takeIf_86 rfl (lv_at hl 3 rfl) ?_
            refine mv_new C X n_5_195 (by show ((((0 + 2) + 0) + 0) + 0) + 1 ≤ 4; omega) (by show ((((0 + (4 + (wP f en bg (2 + 1) - nF f en (wP f en bg 2)))) + 0) + 0) + 0) + 4 ≤ (20 + (en - bg)); omega) d_Reader_takeIf_87 (fun q18 H z_q18 w_q18 X => ?_)
            have n_t_q18 : t ≠ q18 := vnf kt2 z_q18
            have n_tv_q18 : tv ≠ q18 := vnf ktv2 z_q18
            have n__ad_2_0__q18 : (ad 2 0) ≠ q18 := vnf (xr2.1.get (i := 2) (j := 0) h20) z_q18
            have n__ad_6_0__q18 : (ad 6 0) ≠ q18 := vnf (xr2.1.get (i := 6) (j := 0) h60) z_q18
            have n__ad_7_0__q18 : (ad 7 0) ≠ q18 := vnf (xr2.1.get (i := 7) (j := 0) h70) z_q18
            have n__ad_7_1__q18 : (ad 7 1) ≠ q18 := vnf (xr2.1.get (i := 7) (j := 1) h71) z_q18
            have n__ad_7_2__q18 : (ad 7 2) ≠ q18 := vnf (xr2.1.get (i := 7) (j := 2) h72) z_q18
            have n_wq2_q18 : wq2 ≠ q18 := vnf hs2.1 z_q18
            have n_wa2_q18 : wa2 ≠ q18 := vnf hs2.2 z_q18
            have X : vO S0 D vcl (vup k2 q18 (.inr (12, [.null, .int 0, .int 0, .null]))) s H locs := X
            change W _ _ _ _ _ _ _ _ _ _ _ _ (((((0 + 2) + 0) + 0) + 0) + 1) (((((0 + (4 + (wP f en bg (2 + 1) - nF f en (wP f en bg 2)))) + 0) + 0) + 0) + 4) _ _
            refine lv_dup hx hb d_Reader_takeIf_90 rfl ?_
            refine lv_aload_n hx hb d_Reader_takeIf_91 rfl (lv_at hl 2 rfl) ?_
            refine lv_aload_n hx hb d_Reader_takeIf_92 rfl (lv_at hl 1 rfl) ?_
            refine lv_iconst (v := 0) hx hb d_Reader_takeIf_93 (by decide) ?_
            have hFT2 : nF f en (wP f en bg 2) < wP f en bg (2 + 1) := of_decide_eq_true (hW.2.1 2 hw2)
            have hTN2 := Nat.le_trans (wP_in (f := f) hb0 (2 + 1)).2 he
            obtain ⟨hc4, c1, hc5, hc6, hc7⟩ := hg (nF f en (wP f en bg 2)) (by omega)
            refine mv_bi X (mv_rV (rest := [.ref (ad 10 (vfd (nmV A 13 14) nv (cNa f en bg cw 1) - 1)), .ref q18, .ref q18, .ref (ad 6 0)]) (As := [.int 0]) gt_good C X k_5_39 (cm_String_charAt hE hJ (by omega) (j := 0) (by omega) ((eg2 0 (by omega)).trans hc7) hc6 ((vup_n _ _ n_wq2_q18).trans hs2.1) ((vup_n _ _ n_wa2_q18).trans hs2.2)) ((vup_n _ _ n_wq2_q18).trans hs2.1) rfl rfl ⟨Nat.le_of_ble_eq_true rfl, Nat.le_of_ble_eq_true rfl⟩ rfl hl.1 rfl (Nat.le_of_ble_eq_true rfl) d_Reader_takeIf_94 ⟨by show (((((0 + 2) + 0) + 0) + 0) + 1) + 0 ≤ 4; omega, by show (((((0 + (4 + (wP f en bg (2 + 1) - nF f en (wP f en bg 2)))) + 0) + 0) + 0) + 4) + 0 ≤ (20 + (en - bg)); omega⟩) (fun r19 hN H locs hp X => ?_)
            obtain ⟨eh, er⟩ := hp
            replace eh := eh.symm
            replace er := er.symm
            subst eh er
            refine lv_iload_n hx hb d_Reader_takeIf_97 rfl (lv_at hl 0 rfl) ?_
            refine lv_aload_n hx hb d_Reader_takeIf_98 rfl (lv_at hl 3 rfl) ?_
            refine mv_get C X ((vup_n _ _ n__ad_6_0__q18).trans (xr2.1.get (i := 6) (j := 0) h60)) 3 f_5_29_5 (v := va_rf (if c0 < nc then some (ad 17 (nc - 1)) else none)) rfl d_Reader_takeIf_99 ?_
            refine mv_bv X (mv_rI (rest := [.ref q18, .ref (ad 6 0)]) (As := [.ref (ad 10 (vfd (nmV A 13 14) nv (cNa f en bg cw 1) - 1)), .int (nI c1), .int (cNi f en bg cw 3), va_rf (if c0 < nc then some (ad 17 (nc - 1)) else none)]) gt_good C X k_5_197 (cm_Condition_init hE hc6 (vup_s _ _ _) w_q18) ⟨Nat.le_of_ble_eq_true rfl, Nat.le_of_ble_eq_true rfl⟩ rfl hl.1 rfl (Nat.le_of_ble_eq_true rfl) d_Reader_takeIf_102 ⟨by show ((((((0 + 2) + 0) + 0) + 0) + 1) + 0) + 0 ≤ 4; omega, by show ((((((0 + (4 + (wP f en bg (2 + 1) - nF f en (wP f en bg 2)))) + 0) + 0) + 0) + 4) + 0) + 0 ≤ (20 + (en - bg)); omega⟩) (fun hN H locs hp X => ?_)
            replace hp := hp.symm
            subst hp
            rw [vup_u] at X
            have X : vO S0 D vcl (vup k2 q18 (.inr (12, [.ref (ad 10 (vfd (nmV A 13 14) nv (cNa f en bg cw 1) - 1)), .int (nI c1), .int (cNi f en bg cw 3), va_rf (if c0 < nc then some (ad 17 (nc - 1)) else none)]))) s H locs := X
            refine mv_put C X ((vup_n _ _ n__ad_6_0__q18).trans (xr2.1.get (i := 6) (j := 0) h60)) (xr2.1.wr (i := 6) (j := 0) h60) 3 p_5_29_5 rfl rfl (Nat.le_of_ble_eq_true rfl) d_Reader_takeIf_105 (fun H locs X => ?_)
            have X : vO S0 D vcl (vup (vup k2 q18 (.inr (12, [.ref (ad 10 (vfd (nmV A 13 14) nv (cNa f en bg cw 1) - 1)), .int (nI c1), .int (cNi f en bg cw 3), va_rf (if c0 < nc then some (ad 17 (nc - 1)) else none)]))) (ad 6 0) (.inr (5, [.ref (ad 2 0), .ref (ad 7 0), va_rf (if 0 < ns then some (ad 11 (ns - 1)) else none), .ref q18]))) s H locs := X
            refine lv_iconst (v := 1) hx hb d_Reader_takeIf_108 (by decide) ?_
            exact mq_iret hQ C X hr rfl hlk (by
                have edB := eqB_at (bI_n (fun z => c17 (ee1.trans z)))
                have ed0 : f (nF f en (wP f en bg 2)) = 61 := by rw [← hle3, ← edB.2 0 (by omega), eg2 0 (by omega), Nat.add_zero]
                have g3 : cNi f en bg cw 3 ≠ -1000000 := c15
                have q3 := (cNi_lt g3).2.2.2
                have n1 : cNa f en bg cw 1 ≠ 0 := fun z => hk (by rw [z]; exact vfd_0 hRP.2.2.2.2.2.1)
                have hv := fV_c hf6 hRP.2.2.2.2.2.1 n1
                have hv2 : vfd (nmV A 13 14) nv (cNa f en bg cw 1) ≤ nv := by
                  rcases fnd_in (fun v => decide (nmV A 13 14 v = cNa f en bg cw 1)) nv 1 with z | z
                  · exact absurd z hk
                  · have z2 : vfd (nmV A 13 14) nv (cNa f en bg cw 1) < 1 + nv := z.2.1
                    omega
                have y2 : LR S0.heap.size hcv k2 ad L (vup k2 q18 (.inr (12, [.ref (ad 10 (vfd (nmV A 13 14) nv (cNa f en bg cw 1) - 1)), .int (nI c1), .int (cNi f en bg cw 3), va_rf (if c0 < nc then some (ad 17 (nc - 1)) else none)]))) (lput ad 17 nc q18) (lput L 17 nc (some (.inr (12, [.ref (ad 10 (vfd (nmV A 13 14) nv (cNa f en bg cw 1) - 1)), .int (nI c1), .int (cNi f en bg cw 3), va_rf (if c0 < nc then some (ad 17 (nc - 1)) else none)])))) := (LR.of xr2.1).new 17 nc z_q18 w_q18
                have y3 : LR S0.heap.size hcv k2 ad L (vup (vup k2 q18 (.inr (12, [.ref (ad 10 (vfd (nmV A 13 14) nv (cNa f en bg cw 1) - 1)), .int (nI c1), .int (cNi f en bg cw 3), va_rf (if c0 < nc then some (ad 17 (nc - 1)) else none)]))) (ad 6 0) (.inr (5, [.ref (ad 2 0), .ref (ad 7 0), va_rf (if 0 < ns then some (ad 11 (ns - 1)) else none), .ref q18]))) (lput ad 17 nc q18) (lput (lput L 17 nc (some (.inr (12, [.ref (ad 10 (vfd (nmV A 13 14) nv (cNa f en bg cw 1) - 1)), .int (nI c1), .int (cNi f en bg cw 3), va_rf (if c0 < nc then some (ad 17 (nc - 1)) else none)])))) 6 0 (some (.inr (5, [.ref (ad 2 0), .ref (ad 7 0), va_rf (if 0 < ns then some (ad 11 (ns - 1)) else none), .ref q18])))) := y2.put (i := 6) (j := 0) h60
                have xt := xr2.trans y3
                have eL : lput (lput L 17 nc (some (.inr (12, [.ref (ad 10 (vfd (nmV A 13 14) nv (cNa f en bg cw 1) - 1)), .int (nI c1), .int (cNi f en bg cw 3), va_rf (if c0 < nc then some (ad 17 (nc - 1)) else none)])))) 6 0 (some (.inr (5, [.ref (ad 2 0), .ref (ad 7 0), va_rf (if 0 < ns then some (ad 11 (ns - 1)) else none), .ref q18]))) = lput (lput L 6 0 (some (.inr (5, [.ref (ad 2 0), .ref (ad 7 0), va_rf (if 0 < ns then some (ad 11 (ns - 1)) else none), .ref q18])))) 17 nc (some (.inr (12, [.ref (ad 10 (vfd (nmV A 13 14) nv (cNa f en bg cw 1) - 1)), .int (nI c1), .int (cNi f en bg cw 3), va_rf (if c0 < nc then some (ad 17 (nc - 1)) else none)]))) := by
                  funext i j
                  simp only [lput]
                  by_cases h6 : i = 6 <;> simp [h6]
                have x6 : LX h0 ad (lput L 6 0 (some (.inr (5, [.ref (ad 2 0), .ref (ad 7 0), va_rf (if 0 < ns then some (ad 11 (ns - 1)) else none), .ref q18])))) (vup (vup k2 q18 (.inr (12, [.ref (ad 10 (vfd (nmV A 13 14) nv (cNa f en bg cw 1) - 1)), .int (nI c1), .int (cNi f en bg cw 3), va_rf (if c0 < nc then some (ad 17 (nc - 1)) else none)]))) (ad 6 0) (.inr (5, [.ref (ad 2 0), .ref (ad 7 0), va_rf (if 0 < ns then some (ad 11 (ns - 1)) else none), .ref q18]))) (lput ad 17 nc q18) (lput (lput L 17 nc (some (.inr (12, [.ref (ad 10 (vfd (nmV A 13 14) nv (cNa f en bg cw 1) - 1)), .int (nI c1), .int (cNi f en bg cw 3), va_rf (if c0 < nc then some (ad 17 (nc - 1)) else none)])))) 6 0 (some (.inr (5, [.ref (ad 2 0), .ref (ad 7 0), va_rf (if 0 < ns then some (ad 11 (ns - 1)) else none), .ref q18])))) := xt.2.base h60
                have r6 := hRP.to (LX_same (h := h0) (e' := .inr (5, [.ref (ad 2 0), .ref (ad 7 0), va_rf (if 0 < ns then some (ad 11 (ns - 1)) else none), .ref q18])) h60) (fun i hi => ⟨lput_k _ _ (by omega), rfl⟩)
                have hc0 := hRP.2.2.2.2.1.2.2.2.1.1
                subst hf6
                rw [eL] at x6
                have r2 := RP_co (L' := lput (lput L 6 0 (some (.inr (5, [.ref (ad 2 0), .ref (ad 7 0), va_rf (if 0 < ns then some (ad 11 (ns - 1)) else none), .ref q18])))) 17 nc (some (.inr (12, [.ref (ad 10 (vfd (nmV A 13 14) nv (cNa (A 6) en bg cw 1) - 1)), .int (nI c1), .int (cNi (A 6) en bg cw 3), va_rf (if c0 < nc then some (ad 17 (nc - 1)) else none)])))) (e := en) (T := wP (A 6) en bg 1) (q := q18) (v := vfd (nmV A 13 14) nv (cNa (A 6) en bg cw 1)) (op := nI c1) (nu := cNi (A 6) en bg cw 3) r6 hns hnc hnv hnp hv (Nat.pos_of_ne_zero hk) hv2 hc7 q3.2 q3.1.symm rfl rfl x6
                rw [← eL] at r2
                refine ⟨_, _, xt, fun i => ⟨fun hi => by rw [lput_k _ _ (kK_n hi (n := 6) (by decide)), lput_k _ _ (kK_n hi (n := 17) (by decide))], fun hi => by rw [lput_k _ _ (kA_n hi (n := 17) (by decide))]⟩, Or.inl ⟨(okIf_c rfl hW hb0 hRP.2.2.2.2.2.1).mpr ⟨nI_eqI (b := 4) (by have := hW.1; omega) (by decide) c14, hk, g3, edB.1, Or.inl ed0⟩, rfl, _, _, _, _, _, r2, h20, ?_⟩⟩
                rw [if_pos (show c0 < nc + 1 by omega), show nc + 1 - 1 = nc from rfl, lput_s ad 17 nc]; rfl) (by omega) (by omega) d_Reader_takeIf_109
          · skip
            refine lv_aload_n hx hb d_Reader_takeIf_66 rfl (lv_at hl 1 rfl) ?_
            refine mv_ldcS C X hll d_Reader_takeIf_67 ?_
            have hb2 : wP f en bg (2 + 1) - nF f en (wP f en bg 2) < 2 ^ 30 := by omega
            refine mv_bi X (mv_rV (rest := []) (As := [.ref ll]) gt_good C X k_5_60 (cm_String_equals hE hJ (by omega) (by decide) hs2.1 hs2.2 (xr2.1.old hll1) (xr2.1.old hll2)) hs2.1 rfl rfl ⟨Nat.le_of_ble_eq_true rfl, Nat.le_of_ble_eq_true rfl⟩ rfl hl.1 rfl (Nat.le_of_ble_eq_true rfl) d_Reader_takeIf_69 ⟨by show ((((0 + 2) + 0) + 0) + 0) + 0 ≤ 4; omega, by show ((((0 + (4 + (wP f en bg (2 + 1) - nF f en (wP f en bg 2)))) + 0) + 0) + 0) + 0 ≤ (20 + (en - bg)); omega⟩) (fun r21 hN H locs hp X => ?_)
            obtain ⟨eh, ee2⟩ := hp
            replace eh := eh.symm
            subst eh
            refine lv_if_ne (tgt := 86) hx hb d_Reader_takeIf_72 (by decide) (fun c22 => ?_) (fun c22 => ?_)
            · skip
              refine lv_aload_n hx hb d_Reader_takeIf_86 rfl (lv_at hl 3 rfl) ?_
              refine mv_new C X n_5_195 (by show (((((0 + 2) + 0) + 0) + 0) + 0) + 1 ≤ 4; omega) (by show (((((0 + (4 + (wP f en bg (2 + 1) - nF f en (wP f en bg 2)))) + 0) + 0) + 0) + 0) + 4 ≤ (20 + (en - bg)); omega) d_Reader_takeIf_87 (fun q23 H z_q23 w_q23 X => ?_)
              have n_t_q23 : t ≠ q23 := vnf kt2 z_q23
              have n_tv_q23 : tv ≠ q23 := vnf ktv2 z_q23
              have n__ad_2_0__q23 : (ad 2 0) ≠ q23 := vnf (xr2.1.get (i := 2) (j := 0) h20) z_q23
              have n__ad_6_0__q23 : (ad 6 0) ≠ q23 := vnf (xr2.1.get (i := 6) (j := 0) h60) z_q23
              have n__ad_7_0__q23 : (ad 7 0) ≠ q23 := vnf (xr2.1.get (i := 7) (j := 0) h70) z_q23
              have n__ad_7_1__q23 : (ad 7 1) ≠ q23 := vnf (xr2.1.get (i := 7) (j := 1) h71) z_q23
              have n__ad_7_2__q23 : (ad 7 2) ≠ q23 := vnf (xr2.1.get (i := 7) (j := 2) h72) z_q23
              have n_wq2_q23 : wq2 ≠ q23 := vnf hs2.1 z_q23
              have n_wa2_q23 : wa2 ≠ q23 := vnf hs2.2 z_q23
              have X : vO S0 D vcl (vup k2 q23 (.inr (12, [.null, .int 0, .int 0, .null]))) s H locs := X
              change W _ _ _ _ _ _ _ _ _ _ _ _ ((((((0 + 2) + 0) + 0) + 0) + 0) + 1) ((((((0 + (4 + (wP f en bg (2 + 1) - nF f en (wP f en bg 2)))) + 0) + 0) + 0) + 0) + 4) _ _
              refine lv_dup hx hb d_Reader_takeIf_90 rfl ?_
              refine lv_aload_n hx hb d_Reader_takeIf_91 rfl (lv_at hl 2 rfl) ?_
              refine lv_aload_n hx hb d_Reader_takeIf_92 rfl (lv_at hl 1 rfl) ?_
              refine lv_iconst (v := 0) hx hb d_Reader_takeIf_93 (by decide) ?_
              have hFT2 : nF f en (wP f en bg 2) < wP f en bg (2 + 1) := of_decide_eq_true (hW.2.1 2 hw2)
              have hTN2 := Nat.le_trans (wP_in (f := f) hb0 (2 + 1)).2 he
              obtain ⟨hc4, c1, hc5, hc6, hc7⟩ := hg (nF f en (wP f en bg 2)) (by omega)
              refine mv_bi X (mv_rV (rest := [.ref (ad 10 (vfd (nmV A 13 14) nv (cNa f en bg cw 1) - 1)), .ref q23, .ref q23, .ref (ad 6 0)]) (As := [.int 0]) gt_good C X k_5_39 (cm_String_charAt hE hJ (by omega) (j := 0) (by omega) ((eg2 0 (by omega)).trans hc7) hc6 ((vup_n _ _ n_wq2_q23).trans hs2.1) ((vup_n _ _ n_wa2_q23).trans hs2.2)) ((vup_n _ _ n_wq2_q23).trans hs2.1) rfl rfl ⟨Nat.le_of_ble_eq_true rfl, Nat.le_of_ble_eq_true rfl⟩ rfl hl.1 rfl (Nat.le_of_ble_eq_true rfl) d_Reader_takeIf_94 ⟨by show ((((((0 + 2) + 0) + 0) + 0) + 0) + 1) + 0 ≤ 4; omega, by show ((((((0 + (4 + (wP f en bg (2 + 1) - nF f en (wP f en bg 2)))) + 0) + 0) + 0) + 0) + 4) + 0 ≤ (20 + (en - bg)); omega⟩) (fun r24 hN H locs hp X => ?_)
              obtain ⟨eh, er⟩ := hp
              replace eh := eh.symm
              replace er := er.symm
              subst eh er
              refine lv_iload_n hx hb d_Reader_takeIf_97 rfl (lv_at hl 0 rfl) ?_
              refine lv_aload_n hx hb d_Reader_takeIf_98 rfl (lv_at hl 3 rfl) ?_
              refine mv_get C X ((vup_n _ _ n__ad_6_0__q23).trans (xr2.1.get (i := 6) (j := 0) h60)) 3 f_5_29_5 (v := va_rf (if c0 < nc then some (ad 17 (nc - 1)) else none)) rfl d_Reader_takeIf_99 ?_
              refine mv_bv X (mv_rI (rest := [.ref q23, .ref (ad 6 0)]) (As := [.ref (ad 10 (vfd (nmV A 13 14) nv (cNa f en bg cw 1) - 1)), .int (nI c1), .int (cNi f en bg cw 3), va_rf (if c0 < nc then some (ad 17 (nc - 1)) else none)]) gt_good C X k_5_197 (cm_Condition_init hE hc6 (vup_s _ _ _) w_q23) ⟨Nat.le_of_ble_eq_true rfl, Nat.le_of_ble_eq_true rfl⟩ rfl hl.1 rfl (Nat.le_of_ble_eq_true rfl) d_Reader_takeIf_102 ⟨by show (((((((0 + 2) + 0) + 0) + 0) + 0) + 1) + 0) + 0 ≤ 4; omega, by show (((((((0 + (4 + (wP f en bg (2 + 1) - nF f en (wP f en bg 2)))) + 0) + 0) + 0) + 0) + 4) + 0) + 0 ≤ (20 + (en - bg)); omega⟩) (fun hN H locs hp X => ?_)
              replace hp := hp.symm
              subst hp
              rw [vup_u] at X
              have X : vO S0 D vcl (vup k2 q23 (.inr (12, [.ref (ad 10 (vfd (nmV A 13 14) nv (cNa f en bg cw 1) - 1)), .int (nI c1), .int (cNi f en bg cw 3), va_rf (if c0 < nc then some (ad 17 (nc - 1)) else none)]))) s H locs := X
              refine mv_put C X ((vup_n _ _ n__ad_6_0__q23).trans (xr2.1.get (i := 6) (j := 0) h60)) (xr2.1.wr (i := 6) (j := 0) h60) 3 p_5_29_5 rfl rfl (Nat.le_of_ble_eq_true rfl) d_Reader_takeIf_105 (fun H locs X => ?_)
              have X : vO S0 D vcl (vup (vup k2 q23 (.inr (12, [.ref (ad 10 (vfd (nmV A 13 14) nv (cNa f en bg cw 1) - 1)), .int (nI c1), .int (cNi f en bg cw 3), va_rf (if c0 < nc then some (ad 17 (nc - 1)) else none)]))) (ad 6 0) (.inr (5, [.ref (ad 2 0), .ref (ad 7 0), va_rf (if 0 < ns then some (ad 11 (ns - 1)) else none), .ref q23]))) s H locs := X
              refine lv_iconst (v := 1) hx hb d_Reader_takeIf_108 (by decide) ?_
              exact mq_iret hQ C X hr rfl hlk (by
                  have edB := eqB_at (bI_n (fun z => c22 (ee2.trans z)))
                  have ed0 : f (nF f en (wP f en bg 2)) = 60 := by rw [← hll3, ← edB.2 0 (by omega), eg2 0 (by omega), Nat.add_zero]
                  have g3 : cNi f en bg cw 3 ≠ -1000000 := c15
                  have q3 := (cNi_lt g3).2.2.2
                  have n1 : cNa f en bg cw 1 ≠ 0 := fun z => hk (by rw [z]; exact vfd_0 hRP.2.2.2.2.2.1)
                  have hv := fV_c hf6 hRP.2.2.2.2.2.1 n1
                  have hv2 : vfd (nmV A 13 14) nv (cNa f en bg cw 1) ≤ nv := by
                    rcases fnd_in (fun v => decide (nmV A 13 14 v = cNa f en bg cw 1)) nv 1 with z | z
                    · exact absurd z hk
                    · have z2 : vfd (nmV A 13 14) nv (cNa f en bg cw 1) < 1 + nv := z.2.1
                      omega
                  have y2 : LR S0.heap.size hcv k2 ad L (vup k2 q23 (.inr (12, [.ref (ad 10 (vfd (nmV A 13 14) nv (cNa f en bg cw 1) - 1)), .int (nI c1), .int (cNi f en bg cw 3), va_rf (if c0 < nc then some (ad 17 (nc - 1)) else none)]))) (lput ad 17 nc q23) (lput L 17 nc (some (.inr (12, [.ref (ad 10 (vfd (nmV A 13 14) nv (cNa f en bg cw 1) - 1)), .int (nI c1), .int (cNi f en bg cw 3), va_rf (if c0 < nc then some (ad 17 (nc - 1)) else none)])))) := (LR.of xr2.1).new 17 nc z_q23 w_q23
                  have y3 : LR S0.heap.size hcv k2 ad L (vup (vup k2 q23 (.inr (12, [.ref (ad 10 (vfd (nmV A 13 14) nv (cNa f en bg cw 1) - 1)), .int (nI c1), .int (cNi f en bg cw 3), va_rf (if c0 < nc then some (ad 17 (nc - 1)) else none)]))) (ad 6 0) (.inr (5, [.ref (ad 2 0), .ref (ad 7 0), va_rf (if 0 < ns then some (ad 11 (ns - 1)) else none), .ref q23]))) (lput ad 17 nc q23) (lput (lput L 17 nc (some (.inr (12, [.ref (ad 10 (vfd (nmV A 13 14) nv (cNa f en bg cw 1) - 1)), .int (nI c1), .int (cNi f en bg cw 3), va_rf (if c0 < nc then some (ad 17 (nc - 1)) else none)])))) 6 0 (some (.inr (5, [.ref (ad 2 0), .ref (ad 7 0), va_rf (if 0 < ns then some (ad 11 (ns - 1)) else none), .ref q23])))) := y2.put (i := 6) (j := 0) h60
                  have xt := xr2.trans y3
                  have eL : lput (lput L 17 nc (some (.inr (12, [.ref (ad 10 (vfd (nmV A 13 14) nv (cNa f en bg cw 1) - 1)), .int (nI c1), .int (cNi f en bg cw 3), va_rf (if c0 < nc then some (ad 17 (nc - 1)) else none)])))) 6 0 (some (.inr (5, [.ref (ad 2 0), .ref (ad 7 0), va_rf (if 0 < ns then some (ad 11 (ns - 1)) else none), .ref q23]))) = lput (lput L 6 0 (some (.inr (5, [.ref (ad 2 0), .ref (ad 7 0), va_rf (if 0 < ns then some (ad 11 (ns - 1)) else none), .ref q23])))) 17 nc (some (.inr (12, [.ref (ad 10 (vfd (nmV A 13 14) nv (cNa f en bg cw 1) - 1)), .int (nI c1), .int (cNi f en bg cw 3), va_rf (if c0 < nc then some (ad 17 (nc - 1)) else none)]))) := by
                    funext i j
                    simp only [lput]
                    by_cases h6 : i = 6 <;> simp [h6]
                  have x6 : LX h0 ad (lput L 6 0 (some (.inr (5, [.ref (ad 2 0), .ref (ad 7 0), va_rf (if 0 < ns then some (ad 11 (ns - 1)) else none), .ref q23])))) (vup (vup k2 q23 (.inr (12, [.ref (ad 10 (vfd (nmV A 13 14) nv (cNa f en bg cw 1) - 1)), .int (nI c1), .int (cNi f en bg cw 3), va_rf (if c0 < nc then some (ad 17 (nc - 1)) else none)]))) (ad 6 0) (.inr (5, [.ref (ad 2 0), .ref (ad 7 0), va_rf (if 0 < ns then some (ad 11 (ns - 1)) else none), .ref q23]))) (lput ad 17 nc q23) (lput (lput L 17 nc (some (.inr (12, [.ref (ad 10 (vfd (nmV A 13 14) nv (cNa f en bg cw 1) - 1)), .int (nI c1), .int (cNi f en bg cw 3), va_rf (if c0 < nc then some (ad 17 (nc - 1)) else none)])))) 6 0 (some (.inr (5, [.ref (ad 2 0), .ref (ad 7 0), va_rf (if 0 < ns then some (ad 11 (ns - 1)) else none), .ref q23])))) := xt.2.base h60
                  have r6 := hRP.to (LX_same (h := h0) (e' := .inr (5, [.ref (ad 2 0), .ref (ad 7 0), va_rf (if 0 < ns then some (ad 11 (ns - 1)) else none), .ref q23])) h60) (fun i hi => ⟨lput_k _ _ (by omega), rfl⟩)
                  have hc0 := hRP.2.2.2.2.1.2.2.2.1.1
                  subst hf6
                  rw [eL] at x6
                  have r2 := RP_co (L' := lput (lput L 6 0 (some (.inr (5, [.ref (ad 2 0), .ref (ad 7 0), va_rf (if 0 < ns then some (ad 11 (ns - 1)) else none), .ref q23])))) 17 nc (some (.inr (12, [.ref (ad 10 (vfd (nmV A 13 14) nv (cNa (A 6) en bg cw 1) - 1)), .int (nI c1), .int (cNi (A 6) en bg cw 3), va_rf (if c0 < nc then some (ad 17 (nc - 1)) else none)])))) (e := en) (T := wP (A 6) en bg 1) (q := q23) (v := vfd (nmV A 13 14) nv (cNa (A 6) en bg cw 1)) (op := nI c1) (nu := cNi (A 6) en bg cw 3) r6 hns hnc hnv hnp hv (Nat.pos_of_ne_zero hk) hv2 hc7 q3.2 q3.1.symm rfl rfl x6
                  rw [← eL] at r2
                  refine ⟨_, _, xt, fun i => ⟨fun hi => by rw [lput_k _ _ (kK_n hi (n := 6) (by decide)), lput_k _ _ (kK_n hi (n := 17) (by decide))], fun hi => by rw [lput_k _ _ (kA_n hi (n := 17) (by decide))]⟩, Or.inl ⟨(okIf_c rfl hW hb0 hRP.2.2.2.2.2.1).mpr ⟨nI_eqI (b := 4) (by have := hW.1; omega) (by decide) c14, hk, g3, edB.1, Or.inr (Or.inl ed0)⟩, rfl, _, _, _, _, _, r2, h20, ?_⟩⟩
                  rw [if_pos (show c0 < nc + 1 by omega), show nc + 1 - 1 = nc from rfl, lput_s ad 17 nc]; rfl) (by omega) (by omega) d_Reader_takeIf_109
            · skip
              refine lv_aload_n hx hb d_Reader_takeIf_75 rfl (lv_at hl 1 rfl) ?_
              refine mv_ldcS C X hlg d_Reader_takeIf_76 ?_
              have hb2 : wP f en bg (2 + 1) - nF f en (wP f en bg 2) < 2 ^ 30 := by omega
              refine mv_bi X (mv_rV (rest := []) (As := [.ref lg]) gt_good C X k_5_60 (cm_String_equals hE hJ (by omega) (by decide) hs2.1 hs2.2 (xr2.1.old hlg1) (xr2.1.old hlg2)) hs2.1 rfl rfl ⟨Nat.le_of_ble_eq_true rfl, Nat.le_of_ble_eq_true rfl⟩ rfl hl.1 rfl (Nat.le_of_ble_eq_true rfl) d_Reader_takeIf_78 ⟨by show (((((0 + 2) + 0) + 0) + 0) + 0) + 0 ≤ 4; omega, by show (((((0 + (4 + (wP f en bg (2 + 1) - nF f en (wP f en bg 2)))) + 0) + 0) + 0) + 0) + 0 ≤ (20 + (en - bg)); omega⟩) (fun r26 hN H locs hp X => ?_)
              obtain ⟨eh, ee3⟩ := hp
              replace eh := eh.symm
              subst eh
              refine lv_if_ne (tgt := 86) hx hb d_Reader_takeIf_81 (by decide) (fun c27 => ?_) (fun c27 => ?_)
              · skip
                refine lv_aload_n hx hb d_Reader_takeIf_86 rfl (lv_at hl 3 rfl) ?_
                refine mv_new C X n_5_195 (by show ((((((0 + 2) + 0) + 0) + 0) + 0) + 0) + 1 ≤ 4; omega) (by show ((((((0 + (4 + (wP f en bg (2 + 1) - nF f en (wP f en bg 2)))) + 0) + 0) + 0) + 0) + 0) + 4 ≤ (20 + (en - bg)); omega) d_Reader_takeIf_87 (fun q28 H z_q28 w_q28 X => ?_)
                have n_t_q28 : t ≠ q28 := vnf kt2 z_q28
                have n_tv_q28 : tv ≠ q28 := vnf ktv2 z_q28
                have n__ad_2_0__q28 : (ad 2 0) ≠ q28 := vnf (xr2.1.get (i := 2) (j := 0) h20) z_q28
                have n__ad_6_0__q28 : (ad 6 0) ≠ q28 := vnf (xr2.1.get (i := 6) (j := 0) h60) z_q28
                have n__ad_7_0__q28 : (ad 7 0) ≠ q28 := vnf (xr2.1.get (i := 7) (j := 0) h70) z_q28
                have n__ad_7_1__q28 : (ad 7 1) ≠ q28 := vnf (xr2.1.get (i := 7) (j := 1) h71) z_q28
                have n__ad_7_2__q28 : (ad 7 2) ≠ q28 := vnf (xr2.1.get (i := 7) (j := 2) h72) z_q28
                have n_wq2_q28 : wq2 ≠ q28 := vnf hs2.1 z_q28
                have n_wa2_q28 : wa2 ≠ q28 := vnf hs2.2 z_q28
                have X : vO S0 D vcl (vup k2 q28 (.inr (12, [.null, .int 0, .int 0, .null]))) s H locs := X
                change W _ _ _ _ _ _ _ _ _ _ _ _ (((((((0 + 2) + 0) + 0) + 0) + 0) + 0) + 1) (((((((0 + (4 + (wP f en bg (2 + 1) - nF f en (wP f en bg 2)))) + 0) + 0) + 0) + 0) + 0) + 4) _ _
                refine lv_dup hx hb d_Reader_takeIf_90 rfl ?_
                refine lv_aload_n hx hb d_Reader_takeIf_91 rfl (lv_at hl 2 rfl) ?_
                refine lv_aload_n hx hb d_Reader_takeIf_92 rfl (lv_at hl 1 rfl) ?_
                refine lv_iconst (v := 0) hx hb d_Reader_takeIf_93 (by decide) ?_
                have hFT2 : nF f en (wP f en bg 2) < wP f en bg (2 + 1) := of_decide_eq_true (hW.2.1 2 hw2)
                have hTN2 := Nat.le_trans (wP_in (f := f) hb0 (2 + 1)).2 he
                obtain ⟨hc4, c1, hc5, hc6, hc7⟩ := hg (nF f en (wP f en bg 2)) (by omega)
                refine mv_bi X (mv_rV (rest := [.ref (ad 10 (vfd (nmV A 13 14) nv (cNa f en bg cw 1) - 1)), .ref q28, .ref q28, .ref (ad 6 0)]) (As := [.int 0]) gt_good C X k_5_39 (cm_String_charAt hE hJ (by omega) (j := 0) (by omega) ((eg2 0 (by omega)).trans hc7) hc6 ((vup_n _ _ n_wq2_q28).trans hs2.1) ((vup_n _ _ n_wa2_q28).trans hs2.2)) ((vup_n _ _ n_wq2_q28).trans hs2.1) rfl rfl ⟨Nat.le_of_ble_eq_true rfl, Nat.le_of_ble_eq_true rfl⟩ rfl hl.1 rfl (Nat.le_of_ble_eq_true rfl) d_Reader_takeIf_94 ⟨by show (((((((0 + 2) + 0) + 0) + 0) + 0) + 0) + 1) + 0 ≤ 4; omega, by show (((((((0 + (4 + (wP f en bg (2 + 1) - nF f en (wP f en bg 2)))) + 0) + 0) + 0) + 0) + 0) + 4) + 0 ≤ (20 + (en - bg)); omega⟩) (fun r29 hN H locs hp X => ?_)
                obtain ⟨eh, er⟩ := hp
                replace eh := eh.symm
                replace er := er.symm
                subst eh er
                refine lv_iload_n hx hb d_Reader_takeIf_97 rfl (lv_at hl 0 rfl) ?_
                refine lv_aload_n hx hb d_Reader_takeIf_98 rfl (lv_at hl 3 rfl) ?_
                refine mv_get C X ((vup_n _ _ n__ad_6_0__q28).trans (xr2.1.get (i := 6) (j := 0) h60)) 3 f_5_29_5 (v := va_rf (if c0 < nc then some (ad 17 (nc - 1)) else none)) rfl d_Reader_takeIf_99 ?_
                refine mv_bv X (mv_rI (rest := [.ref q28, .ref (ad 6 0)]) (As := [.ref (ad 10 (vfd (nmV A 13 14) nv (cNa f en bg cw 1) - 1)), .int (nI c1), .int (cNi f en bg cw 3), va_rf (if c0 < nc then some (ad 17 (nc - 1)) else none)]) gt_good C X k_5_197 (cm_Condition_init hE hc6 (vup_s _ _ _) w_q28) ⟨Nat.le_of_ble_eq_true rfl, Nat.le_of_ble_eq_true rfl⟩ rfl hl.1 rfl (Nat.le_of_ble_eq_true rfl) d_Reader_takeIf_102 ⟨by show ((((((((0 + 2) + 0) + 0) + 0) + 0) + 0) + 1) + 0) + 0 ≤ 4; omega, by show ((((((((0 + (4 + (wP f en bg (2 + 1) - nF f en (wP f en bg 2)))) + 0) + 0) + 0) + 0) + 0) + 4) + 0) + 0 ≤ (20 + (en - bg)); omega⟩) (fun hN H locs hp X => ?_)
                replace hp := hp.symm
                subst hp
                rw [vup_u] at X
                have X : vO S0 D vcl (vup k2 q28 (.inr (12, [.ref (ad 10 (vfd (nmV A 13 14) nv (cNa f en bg cw 1) - 1)), .int (nI c1), .int (cNi f en bg cw 3), va_rf (if c0 < nc then some (ad 17 (nc - 1)) else none)]))) s H locs := X
                refine mv_put C X ((vup_n _ _ n__ad_6_0__q28).trans (xr2.1.get (i := 6) (j := 0) h60)) (xr2.1.wr (i := 6) (j := 0) h60) 3 p_5_29_5 rfl rfl (Nat.le_of_ble_eq_true rfl) d_Reader_takeIf_105 (fun H locs X => ?_)
                have X : vO S0 D vcl (vup (vup k2 q28 (.inr (12, [.ref (ad 10 (vfd (nmV A 13 14) nv (cNa f en bg cw 1) - 1)), .int (nI c1), .int (cNi f en bg cw 3), va_rf (if c0 < nc then some (ad 17 (nc - 1)) else none)]))) (ad 6 0) (.inr (5, [.ref (ad 2 0), .ref (ad 7 0), va_rf (if 0 < ns then some (ad 11 (ns - 1)) else none), .ref q28]))) s H locs := X
                refine lv_iconst (v := 1) hx hb d_Reader_takeIf_108 (by decide) ?_
                exact mq_iret hQ C X hr rfl hlk (by
                    have edB := eqB_at (bI_n (fun z => c27 (ee3.trans z)))
                    have ed0 : f (nF f en (wP f en bg 2)) = 62 := by rw [← hlg3, ← edB.2 0 (by omega), eg2 0 (by omega), Nat.add_zero]
                    have g3 : cNi f en bg cw 3 ≠ -1000000 := c15
                    have q3 := (cNi_lt g3).2.2.2
                    have n1 : cNa f en bg cw 1 ≠ 0 := fun z => hk (by rw [z]; exact vfd_0 hRP.2.2.2.2.2.1)
                    have hv := fV_c hf6 hRP.2.2.2.2.2.1 n1
                    have hv2 : vfd (nmV A 13 14) nv (cNa f en bg cw 1) ≤ nv := by
                      rcases fnd_in (fun v => decide (nmV A 13 14 v = cNa f en bg cw 1)) nv 1 with z | z
                      · exact absurd z hk
                      · have z2 : vfd (nmV A 13 14) nv (cNa f en bg cw 1) < 1 + nv := z.2.1
                        omega
                    have y2 : LR S0.heap.size hcv k2 ad L (vup k2 q28 (.inr (12, [.ref (ad 10 (vfd (nmV A 13 14) nv (cNa f en bg cw 1) - 1)), .int (nI c1), .int (cNi f en bg cw 3), va_rf (if c0 < nc then some (ad 17 (nc - 1)) else none)]))) (lput ad 17 nc q28) (lput L 17 nc (some (.inr (12, [.ref (ad 10 (vfd (nmV A 13 14) nv (cNa f en bg cw 1) - 1)), .int (nI c1), .int (cNi f en bg cw 3), va_rf (if c0 < nc then some (ad 17 (nc - 1)) else none)])))) := (LR.of xr2.1).new 17 nc z_q28 w_q28
                    have y3 : LR S0.heap.size hcv k2 ad L (vup (vup k2 q28 (.inr (12, [.ref (ad 10 (vfd (nmV A 13 14) nv (cNa f en bg cw 1) - 1)), .int (nI c1), .int (cNi f en bg cw 3), va_rf (if c0 < nc then some (ad 17 (nc - 1)) else none)]))) (ad 6 0) (.inr (5, [.ref (ad 2 0), .ref (ad 7 0), va_rf (if 0 < ns then some (ad 11 (ns - 1)) else none), .ref q28]))) (lput ad 17 nc q28) (lput (lput L 17 nc (some (.inr (12, [.ref (ad 10 (vfd (nmV A 13 14) nv (cNa f en bg cw 1) - 1)), .int (nI c1), .int (cNi f en bg cw 3), va_rf (if c0 < nc then some (ad 17 (nc - 1)) else none)])))) 6 0 (some (.inr (5, [.ref (ad 2 0), .ref (ad 7 0), va_rf (if 0 < ns then some (ad 11 (ns - 1)) else none), .ref q28])))) := y2.put (i := 6) (j := 0) h60
                    have xt := xr2.trans y3
                    have eL : lput (lput L 17 nc (some (.inr (12, [.ref (ad 10 (vfd (nmV A 13 14) nv (cNa f en bg cw 1) - 1)), .int (nI c1), .int (cNi f en bg cw 3), va_rf (if c0 < nc then some (ad 17 (nc - 1)) else none)])))) 6 0 (some (.inr (5, [.ref (ad 2 0), .ref (ad 7 0), va_rf (if 0 < ns then some (ad 11 (ns - 1)) else none), .ref q28]))) = lput (lput L 6 0 (some (.inr (5, [.ref (ad 2 0), .ref (ad 7 0), va_rf (if 0 < ns then some (ad 11 (ns - 1)) else none), .ref q28])))) 17 nc (some (.inr (12, [.ref (ad 10 (vfd (nmV A 13 14) nv (cNa f en bg cw 1) - 1)), .int (nI c1), .int (cNi f en bg cw 3), va_rf (if c0 < nc then some (ad 17 (nc - 1)) else none)]))) := by
                      funext i j
                      simp only [lput]
                      by_cases h6 : i = 6 <;> simp [h6]
                    have x6 : LX h0 ad (lput L 6 0 (some (.inr (5, [.ref (ad 2 0), .ref (ad 7 0), va_rf (if 0 < ns then some (ad 11 (ns - 1)) else none), .ref q28])))) (vup (vup k2 q28 (.inr (12, [.ref (ad 10 (vfd (nmV A 13 14) nv (cNa f en bg cw 1) - 1)), .int (nI c1), .int (cNi f en bg cw 3), va_rf (if c0 < nc then some (ad 17 (nc - 1)) else none)]))) (ad 6 0) (.inr (5, [.ref (ad 2 0), .ref (ad 7 0), va_rf (if 0 < ns then some (ad 11 (ns - 1)) else none), .ref q28]))) (lput ad 17 nc q28) (lput (lput L 17 nc (some (.inr (12, [.ref (ad 10 (vfd (nmV A 13 14) nv (cNa f en bg cw 1) - 1)), .int (nI c1), .int (cNi f en bg cw 3), va_rf (if c0 < nc then some (ad 17 (nc - 1)) else none)])))) 6 0 (some (.inr (5, [.ref (ad 2 0), .ref (ad 7 0), va_rf (if 0 < ns then some (ad 11 (ns - 1)) else none), .ref q28])))) := xt.2.base h60
                    have r6 := hRP.to (LX_same (h := h0) (e' := .inr (5, [.ref (ad 2 0), .ref (ad 7 0), va_rf (if 0 < ns then some (ad 11 (ns - 1)) else none), .ref q28])) h60) (fun i hi => ⟨lput_k _ _ (by omega), rfl⟩)
                    have hc0 := hRP.2.2.2.2.1.2.2.2.1.1
                    subst hf6
                    rw [eL] at x6
                    have r2 := RP_co (L' := lput (lput L 6 0 (some (.inr (5, [.ref (ad 2 0), .ref (ad 7 0), va_rf (if 0 < ns then some (ad 11 (ns - 1)) else none), .ref q28])))) 17 nc (some (.inr (12, [.ref (ad 10 (vfd (nmV A 13 14) nv (cNa (A 6) en bg cw 1) - 1)), .int (nI c1), .int (cNi (A 6) en bg cw 3), va_rf (if c0 < nc then some (ad 17 (nc - 1)) else none)])))) (e := en) (T := wP (A 6) en bg 1) (q := q28) (v := vfd (nmV A 13 14) nv (cNa (A 6) en bg cw 1)) (op := nI c1) (nu := cNi (A 6) en bg cw 3) r6 hns hnc hnv hnp hv (Nat.pos_of_ne_zero hk) hv2 hc7 q3.2 q3.1.symm rfl rfl x6
                    rw [← eL] at r2
                    refine ⟨_, _, xt, fun i => ⟨fun hi => by rw [lput_k _ _ (kK_n hi (n := 6) (by decide)), lput_k _ _ (kK_n hi (n := 17) (by decide))], fun hi => by rw [lput_k _ _ (kA_n hi (n := 17) (by decide))]⟩, Or.inl ⟨(okIf_c rfl hW hb0 hRP.2.2.2.2.2.1).mpr ⟨nI_eqI (b := 4) (by have := hW.1; omega) (by decide) c14, hk, g3, edB.1, Or.inr (Or.inr ed0)⟩, rfl, _, _, _, _, _, r2, h20, ?_⟩⟩
                    rw [if_pos (show c0 < nc + 1 by omega), show nc + 1 - 1 = nc from rfl, lput_s ad 17 nc]; rfl) (by omega) (by omega) d_Reader_takeIf_109
              · skip
                refine lv_iconst (v := 0) hx hb d_Reader_takeIf_84 (by decide) ?_
                exact mq_iret hQ C X hr rfl hlk (tkP_no x hR fr2 (Bool.eq_false_iff.mpr (fun z => by
                    have y := ((okIf_c hf6 hW hb0 hRP.2.2.2.2.2.1).mp z).2.2.2
                    have n1 : ∀ (p : Nat → Int32) (v : Int32), p 0 = v → f (nF f en (wP f en bg 2)) = v → eqB g2 (wP f en bg (2 + 1) - nF f en (wP f en bg 2)) p 1 = true := fun p v h1 h2 => eqB_t y.1 (fun k hk => by
                      have y1 : wP f en bg (2 + 1) - nF f en (wP f en bg 2) = 1 := y.1
                      rw [show k = 0 by omega, eg2 0 (by omega), Nat.add_zero, h2, h1])
                    rcases y.2 with u | u | u
                    · rw [n1 _ _ hle3 u] at ee1; exact absurd (ee1.symm.trans c17) (by decide)
                    · rw [n1 _ _ hll3 u] at ee2; exact absurd (ee2.symm.trans c22) (by decide)
                    · rw [n1 _ _ hlg3 u] at ee3; exact absurd (ee3.symm.trans c27) (by decide)))) (by omega) (by omega) d_Reader_takeIf_85
        · skip
          refine lv_iconst (v := 0) hx hb d_Reader_takeIf_55 (by decide) ?_
          exact mq_iret hQ C X hr rfl hlk (tkP_no x hR fr2 (Bool.eq_false_iff.mpr (fun z => absurd c15 ((okIf_c hf6 hW hb0 hRP.2.2.2.2.2.1).mp z).2.2.1))) (by omega) (by omega) d_Reader_takeIf_56
    · skip
      refine mv_bq X (mv_rV (rest := []) (As := [.int 2]) gt_good C X k_5_54 (cm_Line_wordAtF hE hW.1 (j := 2) (by decide) (by omega) hlt (x.get (i := 7) (j := 0) h70)) (x.get (i := 7) (j := 0) h70) rfl rfl ⟨Nat.le_of_ble_eq_true rfl, Nat.le_of_ble_eq_true rfl⟩ rfl hl.1 rfl (Nat.le_of_ble_eq_true rfl) d_Reader_takeIf_21 ⟨Nat.zero_le _, Nat.zero_le _⟩) (fun r31 hN H locs hp X => ?_)
      obtain ⟨eh, er⟩ := hp
      replace eh := eh.symm
      replace er := er.symm
      subst eh er
      change W _ _ _ _ _ _ _ _ _ _ _ _ _ _ _ (F0 _ _ _ (.ref lt :: _))
      refine lv_astore_n (lv' := [(2, .ref lt), (1, .ref (ad 10 (vfd (nmV A 13 14) nv (cNa f en bg cw 1) - 1))), (0, .ref (ad 6 0))]) hx hb d_Reader_takeIf_24 rfl hl (by decide) rfl (fun ls hl => ?_)
      refine lv_aload_n hx hb d_Reader_takeIf_25 rfl (lv_at hl 2 rfl) ?_
      refine mv_get C X (x.get (i := 6) (j := 0) h60) 1 f_5_21_5 (v := .ref (ad 7 0)) rfl d_Reader_takeIf_26 ?_
      refine lv_iconst (v := 3) hx hb d_Reader_takeIf_29 (by decide) ?_
      refine mv_bi X (mv_rV (rest := []) (As := [.int 3]) gt_good C X k_5_134 (cm_Line_numberAt hE hJ hW hb0 he hN0 hg (j := 3) (by decide) (x.get (i := 7) (j := 0) h70) (x.get (i := 7) (j := 1) h71) (x.get (i := 7) (j := 2) h72) kt ktv) (x.get (i := 7) (j := 0) h70) rfl rfl ⟨Nat.le_of_ble_eq_true rfl, Nat.le_of_ble_eq_true rfl⟩ rfl hl.1 rfl (Nat.le_of_ble_eq_true rfl) d_Reader_takeIf_30 ⟨Nat.zero_le _, Nat.zero_le _⟩) (fun r32 hN H locs hp X => ?_)
      obtain ⟨eh, er⟩ := hp
      replace eh := eh.symm
      replace er := er.symm
      subst eh er
      refine lv_istore_n (lv' := [(3, .int (cNi f en bg cw 3)), (2, .ref lt), (1, .ref (ad 10 (vfd (nmV A 13 14) nv (cNa f en bg cw 1) - 1))), (0, .ref (ad 6 0))]) hx hb d_Reader_takeIf_33 rfl hl (by decide) rfl (fun ls hl => ?_)
      refine lv_aload_n hx hb d_Reader_takeIf_34 rfl (lv_at hl 3 rfl) ?_
      refine mv_get C X (x.get (i := 6) (j := 0) h60) 1 f_5_21_5 (v := .ref (ad 7 0)) rfl d_Reader_takeIf_35 ?_
      refine mv_bi X (mv_rV (rest := []) (As := []) gt_good C X k_5_47 (cm_Line_wordCount hE (x.get (i := 7) (j := 0) h70)) (x.get (i := 7) (j := 0) h70) rfl rfl ⟨Nat.le_of_ble_eq_true rfl, Nat.le_of_ble_eq_true rfl⟩ rfl hl.1 rfl (Nat.le_of_ble_eq_true rfl) d_Reader_takeIf_38 ⟨Nat.zero_le _, Nat.zero_le _⟩) (fun r33 hN H locs hp X => ?_)
      obtain ⟨eh, er⟩ := hp
      replace eh := eh.symm
      replace er := er.symm
      subst eh er
      refine lv_iconst (v := 4) hx hb d_Reader_takeIf_41 (by decide) ?_
      refine lv_icmp_ne (tgt := 55) hx hb d_Reader_takeIf_42 (by decide) (fun c34 => ?_) (fun z => absurd (nI_eqI (a := cw) (b := 4) (by have := hW.1; omega) (by decide) z) (by omega))
      refine lv_iconst (v := 0) hx hb d_Reader_takeIf_55 (by decide) ?_
      exact mq_iret hQ C X hr rfl hlk (tkP_no x hR vfx.rf (Bool.eq_false_iff.mpr (fun z => absurd ((okIf_c hf6 hW hb0 hRP.2.2.2.2.2.1).mp z).1 (by omega)))) (by omega) (by omega) d_Reader_takeIf_56
