theorem d_Reader_takeSay_0 : decode prog_6_method_10_code 0 = .ok (.aload_n 0, 1) := by decide +kernel
theorem d_Reader_takeSay_1 : decode prog_6_method_10_code 1 = .ok (.getfield 21, 3) := by decide +kernel
theorem d_Reader_takeSay_4 : decode prog_6_method_10_code 4 = .ok (.iconst 3, 1) := by decide +kernel
theorem d_Reader_takeSay_5 : decode prog_6_method_10_code 5 = .ok (.invokevirtual 54, 3) := by decide +kernel
theorem d_Reader_takeSay_8 : decode prog_6_method_10_code 8 = .ok (.astore_n 2, 1) := by decide +kernel
theorem d_Reader_takeSay_9 : decode prog_6_method_10_code 9 = .ok (.aload_n 0, 1) := by decide +kernel
theorem d_Reader_takeSay_10 : decode prog_6_method_10_code 10 = .ok (.getfield 21, 3) := by decide +kernel
theorem d_Reader_takeSay_13 : decode prog_6_method_10_code 13 = .ok (.iconst 4, 1) := by decide +kernel
theorem d_Reader_takeSay_14 : decode prog_6_method_10_code 14 = .ok (.invokevirtual 54, 3) := by decide +kernel
theorem d_Reader_takeSay_17 : decode prog_6_method_10_code 17 = .ok (.astore_n 3, 1) := by decide +kernel
theorem d_Reader_takeSay_18 : decode prog_6_method_10_code 18 = .ok (.aload_n 3, 1) := by decide +kernel
theorem d_Reader_takeSay_19 : decode prog_6_method_10_code 19 = .ok (.ldc 170, 2) := by decide +kernel
theorem d_Reader_takeSay_21 : decode prog_6_method_10_code 21 = .ok (.invokevirtual 60, 3) := by decide +kernel
theorem d_Reader_takeSay_24 : decode prog_6_method_10_code 24 = .ok (.ifCond .eq 5, 3) := by decide +kernel
theorem d_Reader_takeSay_27 : decode prog_6_method_10_code 27 = .ok (.aload_n 2, 1) := by decide +kernel
theorem d_Reader_takeSay_28 : decode prog_6_method_10_code 28 = .ok (.astore_n 3, 1) := by decide +kernel
theorem d_Reader_takeSay_29 : decode prog_6_method_10_code 29 = .ok (.aload_n 0, 1) := by decide +kernel
theorem d_Reader_takeSay_30 : decode prog_6_method_10_code 30 = .ok (.getfield 21, 3) := by decide +kernel
theorem d_Reader_takeSay_33 : decode prog_6_method_10_code 33 = .ok (.invokevirtual 47, 3) := by decide +kernel
theorem d_Reader_takeSay_36 : decode prog_6_method_10_code 36 = .ok (.iconst 5, 1) := by decide +kernel
theorem d_Reader_takeSay_37 : decode prog_6_method_10_code 37 = .ok (.if_icmp .ne 44, 3) := by decide +kernel
theorem d_Reader_takeSay_40 : decode prog_6_method_10_code 40 = .ok (.aload_n 0, 1) := by decide +kernel
theorem d_Reader_takeSay_41 : decode prog_6_method_10_code 41 = .ok (.aload_n 1, 1) := by decide +kernel
theorem d_Reader_takeSay_42 : decode prog_6_method_10_code 42 = .ok (.new 161, 3) := by decide +kernel
theorem d_Reader_takeSay_45 : decode prog_6_method_10_code 45 = .ok (.dup, 1) := by decide +kernel
theorem d_Reader_takeSay_46 : decode prog_6_method_10_code 46 = .ok (.aload_n 0, 1) := by decide +kernel
theorem d_Reader_takeSay_47 : decode prog_6_method_10_code 47 = .ok (.getfield 21, 3) := by decide +kernel
theorem d_Reader_takeSay_50 : decode prog_6_method_10_code 50 = .ok (.iconst 1, 1) := by decide +kernel
theorem d_Reader_takeSay_51 : decode prog_6_method_10_code 51 = .ok (.invokevirtual 134, 3) := by decide +kernel
theorem d_Reader_takeSay_54 : decode prog_6_method_10_code 54 = .ok (.aload_n 0, 1) := by decide +kernel
theorem d_Reader_takeSay_55 : decode prog_6_method_10_code 55 = .ok (.getfield 21, 3) := by decide +kernel
theorem d_Reader_takeSay_58 : decode prog_6_method_10_code 58 = .ok (.iconst 2, 1) := by decide +kernel
theorem d_Reader_takeSay_59 : decode prog_6_method_10_code 59 = .ok (.invokevirtual 134, 3) := by decide +kernel
theorem d_Reader_takeSay_62 : decode prog_6_method_10_code 62 = .ok (.aload_n 0, 1) := by decide +kernel
theorem d_Reader_takeSay_63 : decode prog_6_method_10_code 63 = .ok (.getfield 29, 3) := by decide +kernel
theorem d_Reader_takeSay_66 : decode prog_6_method_10_code 66 = .ok (.aload_n 2, 1) := by decide +kernel
theorem d_Reader_takeSay_67 : decode prog_6_method_10_code 67 = .ok (.aload_n 3, 1) := by decide +kernel
theorem d_Reader_takeSay_68 : decode prog_6_method_10_code 68 = .ok (.invokespecial 163, 3) := by decide +kernel
theorem d_Reader_takeSay_71 : decode prog_6_method_10_code 71 = .ok (.invokevirtual 166, 3) := by decide +kernel
theorem d_Reader_takeSay_74 : decode prog_6_method_10_code 74 = .ok (.ifCond .eq 7, 3) := by decide +kernel
theorem d_Reader_takeSay_77 : decode prog_6_method_10_code 77 = .ok (.iconst 1, 1) := by decide +kernel
theorem d_Reader_takeSay_78 : decode prog_6_method_10_code 78 = .ok (.goto 4, 3) := by decide +kernel
theorem d_Reader_takeSay_81 : decode prog_6_method_10_code 81 = .ok (.iconst 0, 1) := by decide +kernel
theorem d_Reader_takeSay_82 : decode prog_6_method_10_code 82 = .ok (.ireturn, 1) := by decide +kernel
set_option maxRecDepth 100000 in
set_option maxHeartbeats 4000000 in
theorem cm_Reader_takeSay {l : Launch} {S0 : State} {b : Nat} {D : va_G} {dT : Nat → ClassId} (hE : vEnv S0 b D dT) {dE mO : Nat} (hJ : vJ S0 dE mO) {h0 : vH} {hcv : vH} {ad : Nat → Nat → Nat} {L : vL} {rc : Int32} {A : Nat → Nat → Int32} {B : Nat → Nat → Int64} {nv ns np nc : Nat} {pf cb ce cs : Nat → Nat} {c0 : Nat} (x : LH S0.heap.size hcv h0 ad L) (hcE : ∃ fE, hcv dE = some (aR dT 0 fE)) (hR : PR dT dE h0 ad L A B nv ns np nc pf cb ce cs c0 rc) (hnv : nv ≤ 40) (hns : ns ≤ 30) (hnp : np ≤ 600) (hnc : nc ≤ 600) {f : Nat → Int32} {N en bg cw : Nat} (hT : PT dT S0.heap.size h0 ad L f N en bg cw) (hf6 : A 6 = f) (hns0 : 0 < ns) {lt ltv : Nat} {txl : String} {lz2 lz3 : Value} {fl0 : Nat → Int32} (hlt : vk_R "MenuScreens$Line" 18 txl lt S0) (hlt1 : hcv lt = some (.inr (0, [.ref ltv, .int 0, lz2, lz3]))) (hlt2 : hcv ltv = some (.inl (dT 2, 0, .inl fl0))) {dl dlv : Nat} {txdl : String} {dl2 dl3 : Value} {fdl : Nat → Int32} (hdl : vk_R "MenuScreens$Reader" 170 txdl dl S0) (hdl1 : hcv dl = some (.inr (0, [.ref dlv, .int 0, dl2, dl3]))) (hdl2 : hcv dlv = some (.inl (dT 2, 1, .inl fdl))) (hdl3 : fdl 0 = 45) : vMi l S0 D vcl GT y_Reader_takeSay prog_6_method_10_code 4 (some .boolean) 8 183 6 (40 + 2 * np + 2 * (en - bg)) [.ref (ad 6 0), .ref (ad 11 (ns - 1))] h0 (fun r h' => tkP dT dE S0.heap.size hcv h0 ad L rc A B nv ns np nc pf cb ce cs c0 (okPa A en (wP f en bg 1) nv 1) (paA A en (wP f en bg 1) nv np nc 1 (nI ns) (nI np)) (B) nv ns (np + 1) nc r h') := by
  unfold vMi
  refine vM_ofQ hE.1 (by decide) (Nat.le_of_ble_eq_true rfl) (fun p e s m args below meth c ls Q hQ C hr hlk hnm X hl => ?_)
  have C : vC p s m _ c _ _ "MenuScreens$Reader" GT D vcl (vty dT) := C
  have hx := C.1.1
  have hb := C.1.2.1
  obtain ⟨H, eH⟩ : ∃ z, z = s.heap := ⟨_, rfl⟩
  obtain ⟨locs, elocs⟩ : ∃ z : List Loc, z = [] := ⟨_, rfl⟩
  rw [← eH, ← elocs] at X
  rw [← eH, ← elocs]
  clear eH elocs
  have hl : lv_has ls 4 [(0, .ref (ad 6 0)), (1, .ref (ad 11 (ns - 1)))] := hl
  have hR0 := hR
  obtain ⟨hRP, h20, h60⟩ := hR0
  obtain ⟨t, tv, z2, z3, f8, fs, fe, ⟨kt, ot⟩, ⟨ktv, otv⟩, wtv, h70, h71, h72, hW, hb0, he, hN, hg⟩ := hT
  have hN0 := hN
  obtain ⟨hS, hps, ⟨gk, hkn, hgk⟩, -, -⟩ := hRP.2.1.2 (ns - 1) (by omega)
  have en1 : ns - 1 + 1 = ns := by omega
  rw [en1] at hS hgk
  refine lv_aload_n hx hb d_Reader_takeSay_0 rfl (lv_at hl 0 rfl) ?_
  refine mv_get C X (x.get (i := 6) (j := 0) h60) 1 f_5_21_5 (v := .ref (ad 7 0)) rfl d_Reader_takeSay_1 ?_
  refine lv_iconst (v := 3) hx hb d_Reader_takeSay_4 (by decide) ?_
  have hB3 : wP f en bg (3 + 1) - nF f en (wP f en bg 3) ≤ en - bg := by
    have a1 := wP_in (f := f) hb0 3
    have a2 := nF_in f a1.2
    have a3 := (wP_in (f := f) hb0 (3 + 1)).2
    omega
  by_cases hw3 : 3 < cw
  · skip
    refine mv_bq X (mv_rV (rest := []) (As := [.int 3]) gt_good C X k_5_54 (cm_Line_wordAtT hE hJ hW hb0 he hN0 hg (j := 3) hw3 (x.get (i := 7) (j := 0) h70) (x.get (i := 7) (j := 1) h71) (x.get (i := 7) (j := 2) h72) kt ktv wtv) (x.get (i := 7) (j := 0) h70) rfl rfl ⟨Nat.le_of_ble_eq_true rfl, Nat.le_of_ble_eq_true rfl⟩ rfl hl.1 rfl (Nat.le_of_ble_eq_true rfl) d_Reader_takeSay_5 ⟨by show 0 + 2 ≤ 6; omega, by show 0 + (4 + (wP f en bg (3 + 1) - nF f en (wP f en bg 3))) ≤ (40 + 2 * np + 2 * (en - bg)); omega⟩) (fun r1 hN H locs hp X => ?_)
    obtain ⟨wq3, wa3, v23, v33, g3, er, fr3, hs3, hz3, eg3⟩ := hp
    subst er
    change W _ _ _ _ _ _ _ _ _ _ _ _ _ _ _ (F0 _ _ _ (.ref wq3 :: _))
    obtain ⟨k3, ek3⟩ : ∃ z, z = hN := ⟨_, rfl⟩
    rw [← ek3] at X fr3 hs3
    clear ek3
    have xr3 := (LR.of x).fx fr3
    have kt3 := fr3 _ _ kt (fun z => z)
    have ktv3 := fr3 _ _ ktv (fun z => z)
    refine lv_astore_n (lv' := [(2, .ref wq3), (0, .ref (ad 6 0)), (1, .ref (ad 11 (ns - 1)))]) hx hb d_Reader_takeSay_8 rfl hl (by decide) rfl (fun ls hl => ?_)
    refine lv_aload_n hx hb d_Reader_takeSay_9 rfl (lv_at hl 1 rfl) ?_
    refine mv_get C X (xr3.1.get (i := 6) (j := 0) h60) 1 f_5_21_5 (v := .ref (ad 7 0)) rfl d_Reader_takeSay_10 ?_
    refine lv_iconst (v := 4) hx hb d_Reader_takeSay_13 (by decide) ?_
    have hB4 : wP f en bg (4 + 1) - nF f en (wP f en bg 4) ≤ en - bg := by
      have a1 := wP_in (f := f) hb0 4
      have a2 := nF_in f a1.2
      have a3 := (wP_in (f := f) hb0 (4 + 1)).2
      omega
    by_cases hw4 : 4 < cw
    · skip
      refine mv_bq X (mv_rV (rest := []) (As := [.int 4]) gt_good C X k_5_54 (cm_Line_wordAtT hE hJ hW hb0 he hN0 hg (j := 4) hw4 (xr3.1.get (i := 7) (j := 0) h70) (xr3.1.get (i := 7) (j := 1) h71) (xr3.1.get (i := 7) (j := 2) h72) kt3 ktv3 wtv) (xr3.1.get (i := 7) (j := 0) h70) rfl rfl ⟨Nat.le_of_ble_eq_true rfl, Nat.le_of_ble_eq_true rfl⟩ rfl hl.1 rfl (Nat.le_of_ble_eq_true rfl) d_Reader_takeSay_14 ⟨by show (0 + 2) + 2 ≤ 6; omega, by show (0 + (4 + (wP f en bg (3 + 1) - nF f en (wP f en bg 3)))) + (4 + (wP f en bg (4 + 1) - nF f en (wP f en bg 4))) ≤ (40 + 2 * np + 2 * (en - bg)); omega⟩) (fun r2 hN H locs hp X => ?_)
      obtain ⟨wq4, wa4, v24, v34, g4, er, fr4, hs4, hz4, eg4⟩ := hp
      subst er
      change W _ _ _ _ _ _ _ _ _ _ _ _ _ _ _ (F0 _ _ _ (.ref wq4 :: _))
      obtain ⟨k4, ek4⟩ : ∃ z, z = hN := ⟨_, rfl⟩
      rw [← ek4] at X fr4 hs4
      clear ek4
      have xr4 := xr3.fx fr4
      have kt4 := fr4 _ _ kt3 (fun z => z)
      have ktv4 := fr4 _ _ ktv3 (fun z => z)
      have kk_wq3_4 := fr4 _ _ hs3.1 (fun z => z)
      have kk_wa3_4 := fr4 _ _ hs3.2 (fun z => z)
      refine lv_astore_n (lv' := [(3, .ref wq4), (2, .ref wq3), (0, .ref (ad 6 0)), (1, .ref (ad 11 (ns - 1)))]) hx hb d_Reader_takeSay_17 rfl hl (by decide) rfl (fun ls hl => ?_)
      refine lv_aload_n hx hb d_Reader_takeSay_18 rfl (lv_at hl 0 rfl) ?_
      refine mv_ldcS C X hdl d_Reader_takeSay_19 ?_
      have hb4 : wP f en bg (4 + 1) - nF f en (wP f en bg 4) < 2 ^ 30 := by omega
      refine mv_bi X (mv_rV (rest := []) (As := [.ref dl]) gt_good C X k_5_60 (cm_String_equals hE hJ (by omega) (by decide) hs4.1 hs4.2 (xr4.1.old hdl1) (xr4.1.old hdl2)) hs4.1 rfl rfl ⟨Nat.le_of_ble_eq_true rfl, Nat.le_of_ble_eq_true rfl⟩ rfl hl.1 rfl (Nat.le_of_ble_eq_true rfl) d_Reader_takeSay_21 ⟨by show ((0 + 2) + 2) + 0 ≤ 6; omega, by show ((0 + (4 + (wP f en bg (3 + 1) - nF f en (wP f en bg 3)))) + (4 + (wP f en bg (4 + 1) - nF f en (wP f en bg 4)))) + 0 ≤ (40 + 2 * np + 2 * (en - bg)); omega⟩) (fun r3 hN H locs hp X => ?_)
      obtain ⟨eh, edl⟩ := hp
      replace eh := eh.symm
      subst eh
      refine lv_if_eq (tgt := 29) hx hb d_Reader_takeSay_24 (by decide) (fun c4 => ?_) (fun c4 => ?_)
      · skip
        refine lv_aload_n hx hb d_Reader_takeSay_29 rfl (lv_at hl 2 rfl) ?_
        refine mv_get C X (xr4.1.get (i := 6) (j := 0) h60) 1 f_5_21_5 (v := .ref (ad 7 0)) rfl d_Reader_takeSay_30 ?_
        refine mv_bi X (mv_rV (rest := []) (As := []) gt_good C X k_5_47 (cm_Line_wordCount hE (xr4.1.get (i := 7) (j := 0) h70)) (xr4.1.get (i := 7) (j := 0) h70) rfl rfl ⟨Nat.le_of_ble_eq_true rfl, Nat.le_of_ble_eq_true rfl⟩ rfl hl.1 rfl (Nat.le_of_ble_eq_true rfl) d_Reader_takeSay_33 ⟨by show (((0 + 2) + 2) + 0) + 0 ≤ 6; omega, by show (((0 + (4 + (wP f en bg (3 + 1) - nF f en (wP f en bg 3)))) + (4 + (wP f en bg (4 + 1) - nF f en (wP f en bg 4)))) + 0) + 0 ≤ (40 + 2 * np + 2 * (en - bg)); omega⟩) (fun r5 hN H locs hp X => ?_)
        obtain ⟨eh, er⟩ := hp
        replace eh := eh.symm
        replace er := er.symm
        subst eh er
        refine lv_iconst (v := 5) hx hb d_Reader_takeSay_36 (by decide) ?_
        refine lv_icmp_ne (tgt := 81) hx hb d_Reader_takeSay_37 (by decide) (fun c6 => ?_) (fun c6 => ?_)
        · skip
          refine lv_iconst (v := 0) hx hb d_Reader_takeSay_81 (by decide) ?_
          exact mq_iret hQ C X hr rfl hlk (tkP_no x hR (fr3.trans fr4) (Bool.eq_false_iff.mpr (fun z => absurd ((okPa_1 hf6 hW hb0 nv).mp z).1 (fun y => c6 (by rw [y]; rfl))))) (by omega) (by omega) d_Reader_takeSay_82
        · skip
          refine lv_aload_n hx hb d_Reader_takeSay_40 rfl (lv_at hl 2 rfl) ?_
          refine lv_aload_n hx hb d_Reader_takeSay_41 rfl (lv_at hl 3 rfl) ?_
          refine mv_new C X n_5_161 (by show ((((0 + 2) + 2) + 0) + 0) + 1 ≤ 6; omega) (by show ((((0 + (4 + (wP f en bg (3 + 1) - nF f en (wP f en bg 3)))) + (4 + (wP f en bg (4 + 1) - nF f en (wP f en bg 4)))) + 0) + 0) + 5 ≤ (40 + 2 * np + 2 * (en - bg)); omega) d_Reader_takeSay_42 (fun q7 H z_q7 w_q7 X => ?_)
          have n_t_q7 : t ≠ q7 := vnf kt4 z_q7
          have n_tv_q7 : tv ≠ q7 := vnf ktv4 z_q7
          have n__ad_2_0__q7 : (ad 2 0) ≠ q7 := vnf (xr4.1.get (i := 2) (j := 0) h20) z_q7
          have n__ad_6_0__q7 : (ad 6 0) ≠ q7 := vnf (xr4.1.get (i := 6) (j := 0) h60) z_q7
          have n__ad_7_0__q7 : (ad 7 0) ≠ q7 := vnf (xr4.1.get (i := 7) (j := 0) h70) z_q7
          have n__ad_7_1__q7 : (ad 7 1) ≠ q7 := vnf (xr4.1.get (i := 7) (j := 1) h71) z_q7
          have n__ad_7_2__q7 : (ad 7 2) ≠ q7 := vnf (xr4.1.get (i := 7) (j := 2) h72) z_q7
          have n__ad_11__ns___1___q7 : (ad 11 (ns - 1)) ≠ q7 := vnf (xr4.1.get (i := 11) (j := (ns - 1)) hS) z_q7
          have n_wq3_q7 : wq3 ≠ q7 := vnf kk_wq3_4 z_q7
          have n_wa3_q7 : wa3 ≠ q7 := vnf kk_wa3_4 z_q7
          have n_wq4_q7 : wq4 ≠ q7 := vnf hs4.1 z_q7
          have n_wa4_q7 : wa4 ≠ q7 := vnf hs4.2 z_q7
          have X : vO S0 D vcl (vup k4 q7 (.inr (10, [.null, .null, .int 0, .int 0, .null]))) s H locs := X
          change W _ _ _ _ _ _ _ _ _ _ _ _ (((((0 + 2) + 2) + 0) + 0) + 1) (((((0 + (4 + (wP f en bg (3 + 1) - nF f en (wP f en bg 3)))) + (4 + (wP f en bg (4 + 1) - nF f en (wP f en bg 4)))) + 0) + 0) + 5) _ _
          refine lv_dup hx hb d_Reader_takeSay_45 rfl ?_
          refine lv_aload_n hx hb d_Reader_takeSay_46 rfl (lv_at hl 2 rfl) ?_
          refine mv_get C X ((vup_n _ _ n__ad_6_0__q7).trans (xr4.1.get (i := 6) (j := 0) h60)) 1 f_5_21_5 (v := .ref (ad 7 0)) rfl d_Reader_takeSay_47 ?_
          refine lv_iconst (v := 1) hx hb d_Reader_takeSay_50 (by decide) ?_
          refine mv_bi X (mv_rV (rest := [.ref q7, .ref q7, .ref (ad 11 (ns - 1)), .ref (ad 6 0)]) (As := [.int 1]) gt_good C X k_5_134 (cm_Line_numberAt hE hJ hW hb0 he hN0 hg (j := 1) (by decide) ((vup_n _ _ n__ad_7_0__q7).trans (xr4.1.get (i := 7) (j := 0) h70)) ((vup_n _ _ n__ad_7_1__q7).trans (xr4.1.get (i := 7) (j := 1) h71)) ((vup_n _ _ n__ad_7_2__q7).trans (xr4.1.get (i := 7) (j := 2) h72)) ((vup_n _ _ n_t_q7).trans kt4) ((vup_n _ _ n_tv_q7).trans ktv4)) ((vup_n _ _ n__ad_7_0__q7).trans (xr4.1.get (i := 7) (j := 0) h70)) rfl rfl ⟨Nat.le_of_ble_eq_true rfl, Nat.le_of_ble_eq_true rfl⟩ rfl hl.1 rfl (Nat.le_of_ble_eq_true rfl) d_Reader_takeSay_51 ⟨by show (((((0 + 2) + 2) + 0) + 0) + 1) + 0 ≤ 6; omega, by show (((((0 + (4 + (wP f en bg (3 + 1) - nF f en (wP f en bg 3)))) + (4 + (wP f en bg (4 + 1) - nF f en (wP f en bg 4)))) + 0) + 0) + 5) + 0 ≤ (40 + 2 * np + 2 * (en - bg)); omega⟩) (fun r8 hN H locs hp X => ?_)
          obtain ⟨eh, er⟩ := hp
          replace eh := eh.symm
          replace er := er.symm
          subst eh er
          refine lv_aload_n hx hb d_Reader_takeSay_54 rfl (lv_at hl 2 rfl) ?_
          refine mv_get C X ((vup_n _ _ n__ad_6_0__q7).trans (xr4.1.get (i := 6) (j := 0) h60)) 1 f_5_21_5 (v := .ref (ad 7 0)) rfl d_Reader_takeSay_55 ?_
          refine lv_iconst (v := 2) hx hb d_Reader_takeSay_58 (by decide) ?_
          refine mv_bi X (mv_rV (rest := [.int (cNi f en bg cw 1), .ref q7, .ref q7, .ref (ad 11 (ns - 1)), .ref (ad 6 0)]) (As := [.int 2]) gt_good C X k_5_134 (cm_Line_numberAt hE hJ hW hb0 he hN0 hg (j := 2) (by decide) ((vup_n _ _ n__ad_7_0__q7).trans (xr4.1.get (i := 7) (j := 0) h70)) ((vup_n _ _ n__ad_7_1__q7).trans (xr4.1.get (i := 7) (j := 1) h71)) ((vup_n _ _ n__ad_7_2__q7).trans (xr4.1.get (i := 7) (j := 2) h72)) ((vup_n _ _ n_t_q7).trans kt4) ((vup_n _ _ n_tv_q7).trans ktv4)) ((vup_n _ _ n__ad_7_0__q7).trans (xr4.1.get (i := 7) (j := 0) h70)) rfl rfl ⟨Nat.le_of_ble_eq_true rfl, Nat.le_of_ble_eq_true rfl⟩ rfl hl.1 rfl (Nat.le_of_ble_eq_true rfl) d_Reader_takeSay_59 ⟨by show ((((((0 + 2) + 2) + 0) + 0) + 1) + 0) + 0 ≤ 6; omega, by show ((((((0 + (4 + (wP f en bg (3 + 1) - nF f en (wP f en bg 3)))) + (4 + (wP f en bg (4 + 1) - nF f en (wP f en bg 4)))) + 0) + 0) + 5) + 0) + 0 ≤ (40 + 2 * np + 2 * (en - bg)); omega⟩) (fun r9 hN H locs hp X => ?_)
          obtain ⟨eh, er⟩ := hp
          replace eh := eh.symm
          replace er := er.symm
          subst eh er
          refine lv_aload_n hx hb d_Reader_takeSay_62 rfl (lv_at hl 2 rfl) ?_
          refine mv_get C X ((vup_n _ _ n__ad_6_0__q7).trans (xr4.1.get (i := 6) (j := 0) h60)) 3 f_5_29_5 (v := va_rf (if c0 < nc then some (ad 17 (nc - 1)) else none)) rfl d_Reader_takeSay_63 ?_
          refine lv_aload_n hx hb d_Reader_takeSay_66 rfl (lv_at hl 1 rfl) ?_
          refine lv_aload_n hx hb d_Reader_takeSay_67 rfl (lv_at hl 0 rfl) ?_
          refine mv_bv X (mv_rI (rest := [.ref q7, .ref (ad 11 (ns - 1)), .ref (ad 6 0)]) (As := [.int (cNi f en bg cw 1), .int (cNi f en bg cw 2), va_rf (if c0 < nc then some (ad 17 (nc - 1)) else none), .ref wq3, .ref wq4]) gt_good C X k_5_163 (cm_WordPiece_init hE (vup_s _ _ _) w_q7) ⟨Nat.le_of_ble_eq_true rfl, Nat.le_of_ble_eq_true rfl⟩ rfl hl.1 rfl (Nat.le_of_ble_eq_true rfl) d_Reader_takeSay_68 ⟨by show (((((((0 + 2) + 2) + 0) + 0) + 1) + 0) + 0) + 0 ≤ 6; omega, by show (((((((0 + (4 + (wP f en bg (3 + 1) - nF f en (wP f en bg 3)))) + (4 + (wP f en bg (4 + 1) - nF f en (wP f en bg 4)))) + 0) + 0) + 5) + 0) + 0) + 0 ≤ (40 + 2 * np + 2 * (en - bg)); omega⟩) (fun hN H locs hp X => ?_)
          replace hp := hp.symm
          subst hp
          rw [vup_u] at X
          have X : vO S0 D vcl (vup k4 q7 (.inr (10, [.ref wq3, .ref wq4, .int (cNi f en bg cw 1), .int (cNi f en bg cw 2), va_rf (if c0 < nc then some (ad 17 (nc - 1)) else none)]))) s H locs := X
          have y2 : LR S0.heap.size hcv k4 ad L (vup k4 q7 (.inr (10, [.ref wq3, .ref wq4, .int (cNi f en bg cw 1), .int (cNi f en bg cw 2), va_rf (if c0 < nc then some (ad 17 (nc - 1)) else none)]))) (lput ad 16 np q7) (lput L 16 np (some (.inr (10, [.ref wq3, .ref wq4, .int (cNi f en bg cw 1), .int (cNi f en bg cw 2), va_rf (if c0 < nc then some (ad 17 (nc - 1)) else none)])))) := (LR.of xr4.1).new 16 np z_q7 w_q7
          have hR2 : PR dT dE (vup k4 q7 (.inr (10, [.ref wq3, .ref wq4, .int (cNi f en bg cw 1), .int (cNi f en bg cw 2), va_rf (if c0 < nc then some (ad 17 (nc - 1)) else none)]))) (lput ad 16 np q7) (lput L 16 np (some (.inr (10, [.ref wq3, .ref wq4, .int (cNi f en bg cw 1), .int (cNi f en bg cw 2), va_rf (if c0 < nc then some (ad 17 (nc - 1)) else none)])))) A B nv ns np nc pf cb ce cs c0 rc := ⟨(hRP.to xr4.2 (fun i _ => ⟨rfl, rfl⟩)).n16 y2.2, h20, h60⟩
          refine mv_bi X (mv_rV (rest := []) (As := [.ref (ad 11 (ns - 1)), .ref q7]) gt_good C X k_5_166 (cm_Reader_takePiece10 hE hJ y2.1 hcE hR2 hnv hns hnp hnc hns0 (lput_s _ _ _ _) (lput_s _ _ _ _)) ((vup_n _ _ n__ad_6_0__q7).trans (xr4.1.get (i := 6) (j := 0) h60)) rfl rfl ⟨Nat.le_of_ble_eq_true rfl, Nat.le_of_ble_eq_true rfl⟩ rfl hl.1 rfl (Nat.le_of_ble_eq_true rfl) d_Reader_takeSay_71 ⟨by show ((((((((0 + 2) + 2) + 0) + 0) + 1) + 0) + 0) + 0) + 1 ≤ 6; omega, by show ((((((((0 + (4 + (wP f en bg (3 + 1) - nF f en (wP f en bg 3)))) + (4 + (wP f en bg (4 + 1) - nF f en (wP f en bg 4)))) + 0) + 0) + 5) + 0) + 0) + 0) + (10 + 2 * (np - pf (ns - 1))) ≤ (40 + 2 * np + 2 * (en - bg)); omega⟩) (fun r11 hN H locs hp X => ?_)
          rcases hp with ⟨hro, er, eh⟩ | ⟨hro, er, b1, e1, e2, x4, kx⟩
          · subst er
            replace eh := eh.symm
            subst eh
            refine lv_if_eq (tgt := 81) hx hb d_Reader_takeSay_74 (by decide) (fun c12 => ?_) (fun z => absurd rfl z)
            refine lv_iconst (v := 0) hx hb d_Reader_takeSay_81 (by decide) ?_
            exact mq_iret hQ C X hr rfl hlk (tkP_no x hR ((fr3.trans fr4).new1 z_q7) (Bool.eq_false_iff.mpr (fun z => by
                have y := ((okPa_1 hf6 hW hb0 nv).mp z).2
                rcases hro with u | u
                · exact absurd (Int32.lt_iff_toInt_lt.mp u) (Int.not_lt.mpr y.1)
                · exact absurd (Int32.lt_iff_toInt_lt.mp u) (Int.not_lt.mpr y.2)))) (by omega) (by omega) d_Reader_takeSay_82
          · subst er
            refine lv_if_eq (tgt := 81) hx hb d_Reader_takeSay_74 (by decide) (fun z => absurd z (by decide)) (fun c13 => ?_)
            refine lv_iconst (v := 1) hx hb d_Reader_takeSay_77 (by decide) ?_
            refine lv_goto (tgt := 82) hx hb d_Reader_takeSay_78 (by decide) ?_
            exact mq_iret hQ C X hr rfl hlk (by
                have y3 : LR S0.heap.size hcv k4 ad L hN (lput (lput ad 16 np q7) 13 (ns - 1) b1) (lput (lput (lput (lput L 16 np (some (.inr (10, [.ref wq3, .ref wq4, .int (cNi f en bg cw 1), .int (cNi f en bg cw 2), va_rf (if c0 < nc then some (ad 17 (nc - 1)) else none)])))) 12 (ns - 1) (some e1)) 13 (ns - 1) (some e2)) 6 0 (some (.inr (5, [.ref (ad 2 0), .ref (ad 7 0), va_rf (if 0 < ns then some (ad 11 (ns - 1)) else none), .null])))) := y2.trans x4
                have xt := xr4.trans y3
                have l1 := i32_0 hro.1
                have l2 := i32_0 hro.2
                have g1 : cNi f en bg cw 1 ≠ -1000000 := fun z => by rw [z] at l1; exact absurd l1 (by decide)
                have g2 : cNi f en bg cw 2 ≠ -1000000 := fun z => by rw [z] at l2; exact absurd l2 (by decide)
                have q1 := (cNi_lt g1).2.2.2.2
                have q2 := (cNi_lt g2).2.2.2.2
                have wi3 := wP_in (f := f) hb0 3
                have wi4 := wP_in (f := f) hb0 4
                have wi5 := wP_in (f := f) hb0 5
                have nf3 := nF_in f wi3.2
                have nf4 := nF_in f wi4.2
                have eL : lput (lput (lput (lput L 16 np (some (.inr (10, [.ref wq3, .ref wq4, .int (cNi f en bg cw 1), .int (cNi f en bg cw 2), va_rf (if c0 < nc then some (ad 17 (nc - 1)) else none)])))) 12 (ns - 1) (some e1)) 13 (ns - 1) (some e2)) 6 0 (some (.inr (5, [.ref (ad 2 0), .ref (ad 7 0), va_rf (if 0 < ns then some (ad 11 (ns - 1)) else none), .null]))) = lput (lput (lput (lput L 6 0 (some (.inr (5, [.ref (ad 2 0), .ref (ad 7 0), va_rf (if 0 < ns then some (ad 11 (ns - 1)) else none), .null])))) 16 np (some (.inr (10, [.ref wq3, .ref wq4, .int (cNi f en bg cw 1), .int (cNi f en bg cw 2), va_rf (if c0 < nc then some (ad 17 (nc - 1)) else none)])))) 12 (ns - 1) (some e1)) 13 (ns - 1) (some e2) := by
                  funext i j
                  simp only [lput]
                  by_cases h6 : i = 6 <;> simp [h6]
                have x6 : LX h0 ad (lput L 6 0 (some (.inr (5, [.ref (ad 2 0), .ref (ad 7 0), va_rf (if 0 < ns then some (ad 11 (ns - 1)) else none), .null])))) hN (lput (lput ad 16 np q7) 13 (ns - 1) b1) (lput (lput (lput (lput L 16 np (some (.inr (10, [.ref wq3, .ref wq4, .int (cNi f en bg cw 1), .int (cNi f en bg cw 2), va_rf (if c0 < nc then some (ad 17 (nc - 1)) else none)])))) 12 (ns - 1) (some e1)) 13 (ns - 1) (some e2)) 6 0 (some (.inr (5, [.ref (ad 2 0), .ref (ad 7 0), va_rf (if 0 < ns then some (ad 11 (ns - 1)) else none), .null])))) := xt.2.base h60
                have r6 := hRP.to (LX_same (h := h0) (e' := .inr (5, [.ref (ad 2 0), .ref (ad 7 0), va_rf (if 0 < ns then some (ad 11 (ns - 1)) else none), .null])) h60) (fun i hi => ⟨lput_k _ _ (by omega), rfl⟩)
                have kx2 : ∃ ea' md' cap' f', e1 = eLst ea' (np - pf (ns - 1) + 1) md' ∧ b1 = ea' ∧ e2 = aR dT cap' f' ∧ (np - pf (ns - 1) + 1 ≤ cap' ∧ cap' ≤ 2000) ∧ (∀ k, k < np - pf (ns - 1) → f' k = some (ad 16 (pf (ns - 1) + k))) ∧ f' (np - pf (ns - 1)) = some q7 := by
                  obtain ⟨ea', md', cap', f', k1, k2, k3, k4, k5, k6⟩ := kx
                  exact ⟨ea', md', cap', f', k1, k2, k3, k4, fun k hk => (k5 k hk).trans (by rw [lput_j _ _ (show pf (ns - 1) + k ≠ np by omega)]), k6⟩
                have hF0 := nF_pos hW hb0 (j := 3) (by decide) hw3
                have s1 := (show wStr dT k4 ad L f wq3 (nF f en (wP f en bg 3)) (wP f en bg (3 + 1)) from ⟨g3, ⟨wa3, _, _, ⟨kk_wq3_4, own_no x (hz3 hF0).1⟩, kk_wa3_4, own_no x (hz3 hF0).2⟩, eg3⟩).lx y3.2
                have edB : ¬ (wP f en bg (4 + 1) - nF f en (wP f en bg 4) = 1 ∧ f (nF f en (wP f en bg 4)) = 45) := fun z => by
                  have y : eqB g4 (wP f en bg (4 + 1) - nF f en (wP f en bg 4)) fdl 1 = true := eqB_t z.1 (fun k hk => by rw [show k = 0 by omega, eg4 0 (by omega), Nat.add_zero, z.2, hdl3])
                  rw [y] at edl
                  exact absurd (edl.symm.trans c4) (by decide)
                have hF4 := nF_pos hW hb0 (j := 4) (by decide) hw4
                have s2 := (show wStr dT k4 ad L f wq4 (nF f en (wP f en bg 4)) (wP f en bg (4 + 1)) from ⟨g4, ⟨wa4, _, _, ⟨hs4.1, own_no xr3.1 (hz4 hF4).1⟩, hs4.2, own_no xr3.1 (hz4 hF4).2⟩, eg4⟩).lx y3.2
                subst hf6
                rw [eL] at x6 s1 s2
                have r2 := RP_paw (p1 := 1) (e := en) (T := wP (A 6) en bg 1) (q := q7) (b := b1) (w1 := wq3) (w2 := wq4) r6 hns0 hns hnc hnp hnv (Or.inr rfl) (show nF (A 6) en (wP (A 6) en bg 3) ≤ 4000 by omega) (show wP (A 6) en bg 4 ≤ 4000 by omega) (show nF (A 6) en (wP (A 6) en bg 4) ≤ 4000 by omega) (show wP (A 6) en bg 5 ≤ 4000 by omega) rfl (by rw [q1, show (vNu (A 6) en (nT (A 6) en (wP (A 6) en bg 1))).toInt32 = _ from q2]; rfl) x6 kx2 s1 (by rw [if_pos ⟨rfl, edB⟩]; exact s2)
                rw [← eL] at r2
                refine ⟨_, _, xt, fun i => ⟨fun hi => by rw [lput_k _ _ (kK_n hi (n := 6) (by decide)), lput_k _ _ (kK_n hi (n := 13) (by decide)), lput_k _ _ (kK_n hi (n := 12) (by decide)), lput_k _ _ (kK_n hi (n := 16) (by decide))], fun hi => by rw [lput_k _ _ (kA_n hi (n := 13) (by decide)), lput_k _ _ (kA_n hi (n := 16) (by decide))]⟩, Or.inl ⟨(okPa_1 rfl hW hb0 nv).mpr ⟨nI_eqI (b := 5) (by have := hW.1; omega) (by decide) c6, l1, l2⟩, rfl, _, _, _, _, _, r2, h20, ?_⟩⟩
                rw [if_neg (Nat.lt_irrefl nc)]; rfl) (by omega) (by omega) d_Reader_takeSay_82
      · skip
        refine lv_aload_n hx hb d_Reader_takeSay_27 rfl (lv_at hl 1 rfl) ?_
        refine lv_astore_n (lv' := [(3, .ref wq3), (2, .ref wq3), (0, .ref (ad 6 0)), (1, .ref (ad 11 (ns - 1)))]) hx hb d_Reader_takeSay_28 rfl hl (by decide) rfl (fun ls hl => ?_)
        refine lv_aload_n hx hb d_Reader_takeSay_29 rfl (lv_at hl 2 rfl) ?_
        refine mv_get C X (xr4.1.get (i := 6) (j := 0) h60) 1 f_5_21_5 (v := .ref (ad 7 0)) rfl d_Reader_takeSay_30 ?_
        refine mv_bi X (mv_rV (rest := []) (As := []) gt_good C X k_5_47 (cm_Line_wordCount hE (xr4.1.get (i := 7) (j := 0) h70)) (xr4.1.get (i := 7) (j := 0) h70) rfl rfl ⟨Nat.le_of_ble_eq_true rfl, Nat.le_of_ble_eq_true rfl⟩ rfl hl.1 rfl (Nat.le_of_ble_eq_true rfl) d_Reader_takeSay_33 ⟨by show (((0 + 2) + 2) + 0) + 0 ≤ 6; omega, by show (((0 + (4 + (wP f en bg (3 + 1) - nF f en (wP f en bg 3)))) + (4 + (wP f en bg (4 + 1) - nF f en (wP f en bg 4)))) + 0) + 0 ≤ (40 + 2 * np + 2 * (en - bg)); omega⟩) (fun r14 hN H locs hp X => ?_)
        obtain ⟨eh, er⟩ := hp
        replace eh := eh.symm
        replace er := er.symm
        subst eh er
        refine lv_iconst (v := 5) hx hb d_Reader_takeSay_36 (by decide) ?_
        refine lv_icmp_ne (tgt := 81) hx hb d_Reader_takeSay_37 (by decide) (fun c15 => ?_) (fun c15 => ?_)
        · skip
          refine lv_iconst (v := 0) hx hb d_Reader_takeSay_81 (by decide) ?_
          exact mq_iret hQ C X hr rfl hlk (tkP_no x hR (fr3.trans fr4) (Bool.eq_false_iff.mpr (fun z => absurd ((okPa_1 hf6 hW hb0 nv).mp z).1 (fun y => c15 (by rw [y]; rfl))))) (by omega) (by omega) d_Reader_takeSay_82
        · skip
          refine lv_aload_n hx hb d_Reader_takeSay_40 rfl (lv_at hl 2 rfl) ?_
          refine lv_aload_n hx hb d_Reader_takeSay_41 rfl (lv_at hl 3 rfl) ?_
          refine mv_new C X n_5_161 (by show ((((0 + 2) + 2) + 0) + 0) + 1 ≤ 6; omega) (by show ((((0 + (4 + (wP f en bg (3 + 1) - nF f en (wP f en bg 3)))) + (4 + (wP f en bg (4 + 1) - nF f en (wP f en bg 4)))) + 0) + 0) + 5 ≤ (40 + 2 * np + 2 * (en - bg)); omega) d_Reader_takeSay_42 (fun q16 H z_q16 w_q16 X => ?_)
          have n_t_q16 : t ≠ q16 := vnf kt4 z_q16
          have n_tv_q16 : tv ≠ q16 := vnf ktv4 z_q16
          have n__ad_2_0__q16 : (ad 2 0) ≠ q16 := vnf (xr4.1.get (i := 2) (j := 0) h20) z_q16
          have n__ad_6_0__q16 : (ad 6 0) ≠ q16 := vnf (xr4.1.get (i := 6) (j := 0) h60) z_q16
          have n__ad_7_0__q16 : (ad 7 0) ≠ q16 := vnf (xr4.1.get (i := 7) (j := 0) h70) z_q16
          have n__ad_7_1__q16 : (ad 7 1) ≠ q16 := vnf (xr4.1.get (i := 7) (j := 1) h71) z_q16
          have n__ad_7_2__q16 : (ad 7 2) ≠ q16 := vnf (xr4.1.get (i := 7) (j := 2) h72) z_q16
          have n__ad_11__ns___1___q16 : (ad 11 (ns - 1)) ≠ q16 := vnf (xr4.1.get (i := 11) (j := (ns - 1)) hS) z_q16
          have n_wq3_q16 : wq3 ≠ q16 := vnf kk_wq3_4 z_q16
          have n_wa3_q16 : wa3 ≠ q16 := vnf kk_wa3_4 z_q16
          have n_wq4_q16 : wq4 ≠ q16 := vnf hs4.1 z_q16
          have n_wa4_q16 : wa4 ≠ q16 := vnf hs4.2 z_q16
          have X : vO S0 D vcl (vup k4 q16 (.inr (10, [.null, .null, .int 0, .int 0, .null]))) s H locs := X
          change W _ _ _ _ _ _ _ _ _ _ _ _ (((((0 + 2) + 2) + 0) + 0) + 1) (((((0 + (4 + (wP f en bg (3 + 1) - nF f en (wP f en bg 3)))) + (4 + (wP f en bg (4 + 1) - nF f en (wP f en bg 4)))) + 0) + 0) + 5) _ _
          refine lv_dup hx hb d_Reader_takeSay_45 rfl ?_
          refine lv_aload_n hx hb d_Reader_takeSay_46 rfl (lv_at hl 2 rfl) ?_
          refine mv_get C X ((vup_n _ _ n__ad_6_0__q16).trans (xr4.1.get (i := 6) (j := 0) h60)) 1 f_5_21_5 (v := .ref (ad 7 0)) rfl d_Reader_takeSay_47 ?_
          refine lv_iconst (v := 1) hx hb d_Reader_takeSay_50 (by decide) ?_
          refine mv_bi X (mv_rV (rest := [.ref q16, .ref q16, .ref (ad 11 (ns - 1)), .ref (ad 6 0)]) (As := [.int 1]) gt_good C X k_5_134 (cm_Line_numberAt hE hJ hW hb0 he hN0 hg (j := 1) (by decide) ((vup_n _ _ n__ad_7_0__q16).trans (xr4.1.get (i := 7) (j := 0) h70)) ((vup_n _ _ n__ad_7_1__q16).trans (xr4.1.get (i := 7) (j := 1) h71)) ((vup_n _ _ n__ad_7_2__q16).trans (xr4.1.get (i := 7) (j := 2) h72)) ((vup_n _ _ n_t_q16).trans kt4) ((vup_n _ _ n_tv_q16).trans ktv4)) ((vup_n _ _ n__ad_7_0__q16).trans (xr4.1.get (i := 7) (j := 0) h70)) rfl rfl ⟨Nat.le_of_ble_eq_true rfl, Nat.le_of_ble_eq_true rfl⟩ rfl hl.1 rfl (Nat.le_of_ble_eq_true rfl) d_Reader_takeSay_51 ⟨by show (((((0 + 2) + 2) + 0) + 0) + 1) + 0 ≤ 6; omega, by show (((((0 + (4 + (wP f en bg (3 + 1) - nF f en (wP f en bg 3)))) + (4 + (wP f en bg (4 + 1) - nF f en (wP f en bg 4)))) + 0) + 0) + 5) + 0 ≤ (40 + 2 * np + 2 * (en - bg)); omega⟩) (fun r17 hN H locs hp X => ?_)
          obtain ⟨eh, er⟩ := hp
          replace eh := eh.symm
          replace er := er.symm
          subst eh er
          refine lv_aload_n hx hb d_Reader_takeSay_54 rfl (lv_at hl 2 rfl) ?_
          refine mv_get C X ((vup_n _ _ n__ad_6_0__q16).trans (xr4.1.get (i := 6) (j := 0) h60)) 1 f_5_21_5 (v := .ref (ad 7 0)) rfl d_Reader_takeSay_55 ?_
          refine lv_iconst (v := 2) hx hb d_Reader_takeSay_58 (by decide) ?_
          refine mv_bi X (mv_rV (rest := [.int (cNi f en bg cw 1), .ref q16, .ref q16, .ref (ad 11 (ns - 1)), .ref (ad 6 0)]) (As := [.int 2]) gt_good C X k_5_134 (cm_Line_numberAt hE hJ hW hb0 he hN0 hg (j := 2) (by decide) ((vup_n _ _ n__ad_7_0__q16).trans (xr4.1.get (i := 7) (j := 0) h70)) ((vup_n _ _ n__ad_7_1__q16).trans (xr4.1.get (i := 7) (j := 1) h71)) ((vup_n _ _ n__ad_7_2__q16).trans (xr4.1.get (i := 7) (j := 2) h72)) ((vup_n _ _ n_t_q16).trans kt4) ((vup_n _ _ n_tv_q16).trans ktv4)) ((vup_n _ _ n__ad_7_0__q16).trans (xr4.1.get (i := 7) (j := 0) h70)) rfl rfl ⟨Nat.le_of_ble_eq_true rfl, Nat.le_of_ble_eq_true rfl⟩ rfl hl.1 rfl (Nat.le_of_ble_eq_true rfl) d_Reader_takeSay_59 ⟨by show ((((((0 + 2) + 2) + 0) + 0) + 1) + 0) + 0 ≤ 6; omega, by show ((((((0 + (4 + (wP f en bg (3 + 1) - nF f en (wP f en bg 3)))) + (4 + (wP f en bg (4 + 1) - nF f en (wP f en bg 4)))) + 0) + 0) + 5) + 0) + 0 ≤ (40 + 2 * np + 2 * (en - bg)); omega⟩) (fun r18 hN H locs hp X => ?_)
          obtain ⟨eh, er⟩ := hp
          replace eh := eh.symm
          replace er := er.symm
          subst eh er
          refine lv_aload_n hx hb d_Reader_takeSay_62 rfl (lv_at hl 2 rfl) ?_
          refine mv_get C X ((vup_n _ _ n__ad_6_0__q16).trans (xr4.1.get (i := 6) (j := 0) h60)) 3 f_5_29_5 (v := va_rf (if c0 < nc then some (ad 17 (nc - 1)) else none)) rfl d_Reader_takeSay_63 ?_
          refine lv_aload_n hx hb d_Reader_takeSay_66 rfl (lv_at hl 1 rfl) ?_
          refine lv_aload_n hx hb d_Reader_takeSay_67 rfl (lv_at hl 0 rfl) ?_
          refine mv_bv X (mv_rI (rest := [.ref q16, .ref (ad 11 (ns - 1)), .ref (ad 6 0)]) (As := [.int (cNi f en bg cw 1), .int (cNi f en bg cw 2), va_rf (if c0 < nc then some (ad 17 (nc - 1)) else none), .ref wq3, .ref wq3]) gt_good C X k_5_163 (cm_WordPiece_init hE (vup_s _ _ _) w_q16) ⟨Nat.le_of_ble_eq_true rfl, Nat.le_of_ble_eq_true rfl⟩ rfl hl.1 rfl (Nat.le_of_ble_eq_true rfl) d_Reader_takeSay_68 ⟨by show (((((((0 + 2) + 2) + 0) + 0) + 1) + 0) + 0) + 0 ≤ 6; omega, by show (((((((0 + (4 + (wP f en bg (3 + 1) - nF f en (wP f en bg 3)))) + (4 + (wP f en bg (4 + 1) - nF f en (wP f en bg 4)))) + 0) + 0) + 5) + 0) + 0) + 0 ≤ (40 + 2 * np + 2 * (en - bg)); omega⟩) (fun hN H locs hp X => ?_)
          replace hp := hp.symm
          subst hp
          rw [vup_u] at X
          have X : vO S0 D vcl (vup k4 q16 (.inr (10, [.ref wq3, .ref wq3, .int (cNi f en bg cw 1), .int (cNi f en bg cw 2), va_rf (if c0 < nc then some (ad 17 (nc - 1)) else none)]))) s H locs := X
          have y2 : LR S0.heap.size hcv k4 ad L (vup k4 q16 (.inr (10, [.ref wq3, .ref wq3, .int (cNi f en bg cw 1), .int (cNi f en bg cw 2), va_rf (if c0 < nc then some (ad 17 (nc - 1)) else none)]))) (lput ad 16 np q16) (lput L 16 np (some (.inr (10, [.ref wq3, .ref wq3, .int (cNi f en bg cw 1), .int (cNi f en bg cw 2), va_rf (if c0 < nc then some (ad 17 (nc - 1)) else none)])))) := (LR.of xr4.1).new 16 np z_q16 w_q16
          have hR2 : PR dT dE (vup k4 q16 (.inr (10, [.ref wq3, .ref wq3, .int (cNi f en bg cw 1), .int (cNi f en bg cw 2), va_rf (if c0 < nc then some (ad 17 (nc - 1)) else none)]))) (lput ad 16 np q16) (lput L 16 np (some (.inr (10, [.ref wq3, .ref wq3, .int (cNi f en bg cw 1), .int (cNi f en bg cw 2), va_rf (if c0 < nc then some (ad 17 (nc - 1)) else none)])))) A B nv ns np nc pf cb ce cs c0 rc := ⟨(hRP.to xr4.2 (fun i _ => ⟨rfl, rfl⟩)).n16 y2.2, h20, h60⟩
          refine mv_bi X (mv_rV (rest := []) (As := [.ref (ad 11 (ns - 1)), .ref q16]) gt_good C X k_5_166 (cm_Reader_takePiece10 hE hJ y2.1 hcE hR2 hnv hns hnp hnc hns0 (lput_s _ _ _ _) (lput_s _ _ _ _)) ((vup_n _ _ n__ad_6_0__q16).trans (xr4.1.get (i := 6) (j := 0) h60)) rfl rfl ⟨Nat.le_of_ble_eq_true rfl, Nat.le_of_ble_eq_true rfl⟩ rfl hl.1 rfl (Nat.le_of_ble_eq_true rfl) d_Reader_takeSay_71 ⟨by show ((((((((0 + 2) + 2) + 0) + 0) + 1) + 0) + 0) + 0) + 1 ≤ 6; omega, by show ((((((((0 + (4 + (wP f en bg (3 + 1) - nF f en (wP f en bg 3)))) + (4 + (wP f en bg (4 + 1) - nF f en (wP f en bg 4)))) + 0) + 0) + 5) + 0) + 0) + 0) + (10 + 2 * (np - pf (ns - 1))) ≤ (40 + 2 * np + 2 * (en - bg)); omega⟩) (fun r20 hN H locs hp X => ?_)
          rcases hp with ⟨hro, er, eh⟩ | ⟨hro, er, b1, e1, e2, x4, kx⟩
          · subst er
            replace eh := eh.symm
            subst eh
            refine lv_if_eq (tgt := 81) hx hb d_Reader_takeSay_74 (by decide) (fun c21 => ?_) (fun z => absurd rfl z)
            refine lv_iconst (v := 0) hx hb d_Reader_takeSay_81 (by decide) ?_
            exact mq_iret hQ C X hr rfl hlk (tkP_no x hR ((fr3.trans fr4).new1 z_q16) (Bool.eq_false_iff.mpr (fun z => by
                have y := ((okPa_1 hf6 hW hb0 nv).mp z).2
                rcases hro with u | u
                · exact absurd (Int32.lt_iff_toInt_lt.mp u) (Int.not_lt.mpr y.1)
                · exact absurd (Int32.lt_iff_toInt_lt.mp u) (Int.not_lt.mpr y.2)))) (by omega) (by omega) d_Reader_takeSay_82
          · subst er
            refine lv_if_eq (tgt := 81) hx hb d_Reader_takeSay_74 (by decide) (fun z => absurd z (by decide)) (fun c22 => ?_)
            refine lv_iconst (v := 1) hx hb d_Reader_takeSay_77 (by decide) ?_
            refine lv_goto (tgt := 82) hx hb d_Reader_takeSay_78 (by decide) ?_
            exact mq_iret hQ C X hr rfl hlk (by
                have y3 : LR S0.heap.size hcv k4 ad L hN (lput (lput ad 16 np q16) 13 (ns - 1) b1) (lput (lput (lput (lput L 16 np (some (.inr (10, [.ref wq3, .ref wq3, .int (cNi f en bg cw 1), .int (cNi f en bg cw 2), va_rf (if c0 < nc then some (ad 17 (nc - 1)) else none)])))) 12 (ns - 1) (some e1)) 13 (ns - 1) (some e2)) 6 0 (some (.inr (5, [.ref (ad 2 0), .ref (ad 7 0), va_rf (if 0 < ns then some (ad 11 (ns - 1)) else none), .null])))) := y2.trans x4
                have xt := xr4.trans y3
                have l1 := i32_0 hro.1
                have l2 := i32_0 hro.2
                have g1 : cNi f en bg cw 1 ≠ -1000000 := fun z => by rw [z] at l1; exact absurd l1 (by decide)
                have g2 : cNi f en bg cw 2 ≠ -1000000 := fun z => by rw [z] at l2; exact absurd l2 (by decide)
                have q1 := (cNi_lt g1).2.2.2.2
                have q2 := (cNi_lt g2).2.2.2.2
                have wi3 := wP_in (f := f) hb0 3
                have wi4 := wP_in (f := f) hb0 4
                have wi5 := wP_in (f := f) hb0 5
                have nf3 := nF_in f wi3.2
                have nf4 := nF_in f wi4.2
                have eL : lput (lput (lput (lput L 16 np (some (.inr (10, [.ref wq3, .ref wq3, .int (cNi f en bg cw 1), .int (cNi f en bg cw 2), va_rf (if c0 < nc then some (ad 17 (nc - 1)) else none)])))) 12 (ns - 1) (some e1)) 13 (ns - 1) (some e2)) 6 0 (some (.inr (5, [.ref (ad 2 0), .ref (ad 7 0), va_rf (if 0 < ns then some (ad 11 (ns - 1)) else none), .null]))) = lput (lput (lput (lput L 6 0 (some (.inr (5, [.ref (ad 2 0), .ref (ad 7 0), va_rf (if 0 < ns then some (ad 11 (ns - 1)) else none), .null])))) 16 np (some (.inr (10, [.ref wq3, .ref wq3, .int (cNi f en bg cw 1), .int (cNi f en bg cw 2), va_rf (if c0 < nc then some (ad 17 (nc - 1)) else none)])))) 12 (ns - 1) (some e1)) 13 (ns - 1) (some e2) := by
                  funext i j
                  simp only [lput]
                  by_cases h6 : i = 6 <;> simp [h6]
                have x6 : LX h0 ad (lput L 6 0 (some (.inr (5, [.ref (ad 2 0), .ref (ad 7 0), va_rf (if 0 < ns then some (ad 11 (ns - 1)) else none), .null])))) hN (lput (lput ad 16 np q16) 13 (ns - 1) b1) (lput (lput (lput (lput L 16 np (some (.inr (10, [.ref wq3, .ref wq3, .int (cNi f en bg cw 1), .int (cNi f en bg cw 2), va_rf (if c0 < nc then some (ad 17 (nc - 1)) else none)])))) 12 (ns - 1) (some e1)) 13 (ns - 1) (some e2)) 6 0 (some (.inr (5, [.ref (ad 2 0), .ref (ad 7 0), va_rf (if 0 < ns then some (ad 11 (ns - 1)) else none), .null])))) := xt.2.base h60
                have r6 := hRP.to (LX_same (h := h0) (e' := .inr (5, [.ref (ad 2 0), .ref (ad 7 0), va_rf (if 0 < ns then some (ad 11 (ns - 1)) else none), .null])) h60) (fun i hi => ⟨lput_k _ _ (by omega), rfl⟩)
                have kx2 : ∃ ea' md' cap' f', e1 = eLst ea' (np - pf (ns - 1) + 1) md' ∧ b1 = ea' ∧ e2 = aR dT cap' f' ∧ (np - pf (ns - 1) + 1 ≤ cap' ∧ cap' ≤ 2000) ∧ (∀ k, k < np - pf (ns - 1) → f' k = some (ad 16 (pf (ns - 1) + k))) ∧ f' (np - pf (ns - 1)) = some q16 := by
                  obtain ⟨ea', md', cap', f', k1, k2, k3, k4, k5, k6⟩ := kx
                  exact ⟨ea', md', cap', f', k1, k2, k3, k4, fun k hk => (k5 k hk).trans (by rw [lput_j _ _ (show pf (ns - 1) + k ≠ np by omega)]), k6⟩
                have hF0 := nF_pos hW hb0 (j := 3) (by decide) hw3
                have s1 := (show wStr dT k4 ad L f wq3 (nF f en (wP f en bg 3)) (wP f en bg (3 + 1)) from ⟨g3, ⟨wa3, _, _, ⟨kk_wq3_4, own_no x (hz3 hF0).1⟩, kk_wa3_4, own_no x (hz3 hF0).2⟩, eg3⟩).lx y3.2
                have edB := eqB_at (bI_n (fun z => c4 (edl.trans z)))
                have ed0 : f (nF f en (wP f en bg 4)) = 45 := by rw [← hdl3, ← edB.2 0 (by omega), eg4 0 (by omega), Nat.add_zero]
                subst hf6
                rw [eL] at x6 s1
                have r2 := RP_paw (p1 := 1) (e := en) (T := wP (A 6) en bg 1) (q := q16) (b := b1) (w1 := wq3) (w2 := wq3) r6 hns0 hns hnc hnp hnv (Or.inr rfl) (show nF (A 6) en (wP (A 6) en bg 3) ≤ 4000 by omega) (show wP (A 6) en bg 4 ≤ 4000 by omega) (show nF (A 6) en (wP (A 6) en bg 4) ≤ 4000 by omega) (show wP (A 6) en bg 5 ≤ 4000 by omega) rfl (by rw [q1, show (vNu (A 6) en (nT (A 6) en (wP (A 6) en bg 1))).toInt32 = _ from q2]; rfl) x6 kx2 s1 (by rw [if_neg (fun z => z.2 ⟨edB.1, ed0⟩)])
                rw [← eL] at r2
                refine ⟨_, _, xt, fun i => ⟨fun hi => by rw [lput_k _ _ (kK_n hi (n := 6) (by decide)), lput_k _ _ (kK_n hi (n := 13) (by decide)), lput_k _ _ (kK_n hi (n := 12) (by decide)), lput_k _ _ (kK_n hi (n := 16) (by decide))], fun hi => by rw [lput_k _ _ (kA_n hi (n := 13) (by decide)), lput_k _ _ (kA_n hi (n := 16) (by decide))]⟩, Or.inl ⟨(okPa_1 rfl hW hb0 nv).mpr ⟨nI_eqI (b := 5) (by have := hW.1; omega) (by decide) c15, l1, l2⟩, rfl, _, _, _, _, _, r2, h20, ?_⟩⟩
                rw [if_neg (Nat.lt_irrefl nc)]; rfl) (by omega) (by omega) d_Reader_takeSay_82
    · skip
      refine mv_bq X (mv_rV (rest := []) (As := [.int 4]) gt_good C X k_5_54 (cm_Line_wordAtF hE hW.1 (j := 4) (by decide) (by omega) hlt (xr3.1.get (i := 7) (j := 0) h70)) (xr3.1.get (i := 7) (j := 0) h70) rfl rfl ⟨Nat.le_of_ble_eq_true rfl, Nat.le_of_ble_eq_true rfl⟩ rfl hl.1 rfl (Nat.le_of_ble_eq_true rfl) d_Reader_takeSay_14 ⟨by show (0 + 2) + 0 ≤ 6; omega, by show (0 + (4 + (wP f en bg (3 + 1) - nF f en (wP f en bg 3)))) + 0 ≤ (40 + 2 * np + 2 * (en - bg)); omega⟩) (fun r23 hN H locs hp X => ?_)
      obtain ⟨eh, er⟩ := hp
      replace eh := eh.symm
      replace er := er.symm
      subst eh er
      change W _ _ _ _ _ _ _ _ _ _ _ _ _ _ _ (F0 _ _ _ (.ref lt :: _))
      refine lv_astore_n (lv' := [(3, .ref lt), (2, .ref wq3), (0, .ref (ad 6 0)), (1, .ref (ad 11 (ns - 1)))]) hx hb d_Reader_takeSay_17 rfl hl (by decide) rfl (fun ls hl => ?_)
      refine lv_aload_n hx hb d_Reader_takeSay_18 rfl (lv_at hl 0 rfl) ?_
      refine mv_ldcS C X hdl d_Reader_takeSay_19 ?_
      refine mv_bi X (mv_rV (rest := []) (As := [.ref dl]) gt_good C X k_5_60 (cm_String_equals hE hJ (by decide) (by decide) (xr3.1.old hlt1) (xr3.1.old hlt2) (xr3.1.old hdl1) (xr3.1.old hdl2)) (xr3.1.old hlt1) rfl rfl ⟨Nat.le_of_ble_eq_true rfl, Nat.le_of_ble_eq_true rfl⟩ rfl hl.1 rfl (Nat.le_of_ble_eq_true rfl) d_Reader_takeSay_21 ⟨by show ((0 + 2) + 0) + 0 ≤ 6; omega, by show ((0 + (4 + (wP f en bg (3 + 1) - nF f en (wP f en bg 3)))) + 0) + 0 ≤ (40 + 2 * np + 2 * (en - bg)); omega⟩) (fun r24 hN H locs hp X => ?_)
      obtain ⟨eh, edl⟩ := hp
      replace eh := eh.symm
      subst eh
      refine lv_if_eq (tgt := 29) hx hb d_Reader_takeSay_24 (by decide) (fun c25 => ?_) (fun c25 => ?_)
      · skip
        refine lv_aload_n hx hb d_Reader_takeSay_29 rfl (lv_at hl 2 rfl) ?_
        refine mv_get C X (xr3.1.get (i := 6) (j := 0) h60) 1 f_5_21_5 (v := .ref (ad 7 0)) rfl d_Reader_takeSay_30 ?_
        refine mv_bi X (mv_rV (rest := []) (As := []) gt_good C X k_5_47 (cm_Line_wordCount hE (xr3.1.get (i := 7) (j := 0) h70)) (xr3.1.get (i := 7) (j := 0) h70) rfl rfl ⟨Nat.le_of_ble_eq_true rfl, Nat.le_of_ble_eq_true rfl⟩ rfl hl.1 rfl (Nat.le_of_ble_eq_true rfl) d_Reader_takeSay_33 ⟨by show (((0 + 2) + 0) + 0) + 0 ≤ 6; omega, by show (((0 + (4 + (wP f en bg (3 + 1) - nF f en (wP f en bg 3)))) + 0) + 0) + 0 ≤ (40 + 2 * np + 2 * (en - bg)); omega⟩) (fun r26 hN H locs hp X => ?_)
        obtain ⟨eh, er⟩ := hp
        replace eh := eh.symm
        replace er := er.symm
        subst eh er
        refine lv_iconst (v := 5) hx hb d_Reader_takeSay_36 (by decide) ?_
        refine lv_icmp_ne (tgt := 81) hx hb d_Reader_takeSay_37 (by decide) (fun c27 => ?_) (fun z => absurd (nI_eqI (a := cw) (b := 5) (by have := hW.1; omega) (by decide) z) (by omega))
        refine lv_iconst (v := 0) hx hb d_Reader_takeSay_81 (by decide) ?_
        exact mq_iret hQ C X hr rfl hlk (tkP_no x hR fr3 (Bool.eq_false_iff.mpr (fun z => absurd ((okPa_1 hf6 hW hb0 nv).mp z).1 (by omega)))) (by omega) (by omega) d_Reader_takeSay_82
      · skip
        refine lv_aload_n hx hb d_Reader_takeSay_27 rfl (lv_at hl 1 rfl) ?_
        refine lv_astore_n (lv' := [(3, .ref wq3), (2, .ref wq3), (0, .ref (ad 6 0)), (1, .ref (ad 11 (ns - 1)))]) hx hb d_Reader_takeSay_28 rfl hl (by decide) rfl (fun ls hl => ?_)
        refine lv_aload_n hx hb d_Reader_takeSay_29 rfl (lv_at hl 2 rfl) ?_
        refine mv_get C X (xr3.1.get (i := 6) (j := 0) h60) 1 f_5_21_5 (v := .ref (ad 7 0)) rfl d_Reader_takeSay_30 ?_
        refine mv_bi X (mv_rV (rest := []) (As := []) gt_good C X k_5_47 (cm_Line_wordCount hE (xr3.1.get (i := 7) (j := 0) h70)) (xr3.1.get (i := 7) (j := 0) h70) rfl rfl ⟨Nat.le_of_ble_eq_true rfl, Nat.le_of_ble_eq_true rfl⟩ rfl hl.1 rfl (Nat.le_of_ble_eq_true rfl) d_Reader_takeSay_33 ⟨by show (((0 + 2) + 0) + 0) + 0 ≤ 6; omega, by show (((0 + (4 + (wP f en bg (3 + 1) - nF f en (wP f en bg 3)))) + 0) + 0) + 0 ≤ (40 + 2 * np + 2 * (en - bg)); omega⟩) (fun r28 hN H locs hp X => ?_)
        obtain ⟨eh, er⟩ := hp
        replace eh := eh.symm
        replace er := er.symm
        subst eh er
        refine lv_iconst (v := 5) hx hb d_Reader_takeSay_36 (by decide) ?_
        refine lv_icmp_ne (tgt := 81) hx hb d_Reader_takeSay_37 (by decide) (fun c29 => ?_) (fun z => absurd (nI_eqI (a := cw) (b := 5) (by have := hW.1; omega) (by decide) z) (by omega))
        refine lv_iconst (v := 0) hx hb d_Reader_takeSay_81 (by decide) ?_
        exact mq_iret hQ C X hr rfl hlk (tkP_no x hR fr3 (Bool.eq_false_iff.mpr (fun z => absurd ((okPa_1 hf6 hW hb0 nv).mp z).1 (by omega)))) (by omega) (by omega) d_Reader_takeSay_82
  · skip
    refine mv_bq X (mv_rV (rest := []) (As := [.int 3]) gt_good C X k_5_54 (cm_Line_wordAtF hE hW.1 (j := 3) (by decide) (by omega) hlt (x.get (i := 7) (j := 0) h70)) (x.get (i := 7) (j := 0) h70) rfl rfl ⟨Nat.le_of_ble_eq_true rfl, Nat.le_of_ble_eq_true rfl⟩ rfl hl.1 rfl (Nat.le_of_ble_eq_true rfl) d_Reader_takeSay_5 ⟨Nat.zero_le _, Nat.zero_le _⟩) (fun r30 hN H locs hp X => ?_)
    obtain ⟨eh, er⟩ := hp
    replace eh := eh.symm
    replace er := er.symm
    subst eh er
    change W _ _ _ _ _ _ _ _ _ _ _ _ _ _ _ (F0 _ _ _ (.ref lt :: _))
    refine lv_astore_n (lv' := [(2, .ref lt), (0, .ref (ad 6 0)), (1, .ref (ad 11 (ns - 1)))]) hx hb d_Reader_takeSay_8 rfl hl (by decide) rfl (fun ls hl => ?_)
    refine lv_aload_n hx hb d_Reader_takeSay_9 rfl (lv_at hl 1 rfl) ?_
    refine mv_get C X (x.get (i := 6) (j := 0) h60) 1 f_5_21_5 (v := .ref (ad 7 0)) rfl d_Reader_takeSay_10 ?_
    refine lv_iconst (v := 4) hx hb d_Reader_takeSay_13 (by decide) ?_
    have hw4 : ¬ 4 < cw := by omega
    refine mv_bq X (mv_rV (rest := []) (As := [.int 4]) gt_good C X k_5_54 (cm_Line_wordAtF hE hW.1 (j := 4) (by decide) (by omega) hlt (x.get (i := 7) (j := 0) h70)) (x.get (i := 7) (j := 0) h70) rfl rfl ⟨Nat.le_of_ble_eq_true rfl, Nat.le_of_ble_eq_true rfl⟩ rfl hl.1 rfl (Nat.le_of_ble_eq_true rfl) d_Reader_takeSay_14 ⟨Nat.zero_le _, Nat.zero_le _⟩) (fun r31 hN H locs hp X => ?_)
    obtain ⟨eh, er⟩ := hp
    replace eh := eh.symm
    replace er := er.symm
    subst eh er
    change W _ _ _ _ _ _ _ _ _ _ _ _ _ _ _ (F0 _ _ _ (.ref lt :: _))
    refine lv_astore_n (lv' := [(3, .ref lt), (2, .ref lt), (0, .ref (ad 6 0)), (1, .ref (ad 11 (ns - 1)))]) hx hb d_Reader_takeSay_17 rfl hl (by decide) rfl (fun ls hl => ?_)
    refine lv_aload_n hx hb d_Reader_takeSay_18 rfl (lv_at hl 0 rfl) ?_
    refine mv_ldcS C X hdl d_Reader_takeSay_19 ?_
    refine mv_bi X (mv_rV (rest := []) (As := [.ref dl]) gt_good C X k_5_60 (cm_String_equals hE hJ (by decide) (by decide) (x.old hlt1) (x.old hlt2) (x.old hdl1) (x.old hdl2)) (x.old hlt1) rfl rfl ⟨Nat.le_of_ble_eq_true rfl, Nat.le_of_ble_eq_true rfl⟩ rfl hl.1 rfl (Nat.le_of_ble_eq_true rfl) d_Reader_takeSay_21 ⟨Nat.zero_le _, Nat.zero_le _⟩) (fun r32 hN H locs hp X => ?_)
    obtain ⟨eh, edl⟩ := hp
    replace eh := eh.symm
    subst eh
    refine lv_if_eq (tgt := 29) hx hb d_Reader_takeSay_24 (by decide) (fun c33 => ?_) (fun c33 => ?_)
    · skip
      refine lv_aload_n hx hb d_Reader_takeSay_29 rfl (lv_at hl 2 rfl) ?_
      refine mv_get C X (x.get (i := 6) (j := 0) h60) 1 f_5_21_5 (v := .ref (ad 7 0)) rfl d_Reader_takeSay_30 ?_
      refine mv_bi X (mv_rV (rest := []) (As := []) gt_good C X k_5_47 (cm_Line_wordCount hE (x.get (i := 7) (j := 0) h70)) (x.get (i := 7) (j := 0) h70) rfl rfl ⟨Nat.le_of_ble_eq_true rfl, Nat.le_of_ble_eq_true rfl⟩ rfl hl.1 rfl (Nat.le_of_ble_eq_true rfl) d_Reader_takeSay_33 ⟨Nat.zero_le _, Nat.zero_le _⟩) (fun r34 hN H locs hp X => ?_)
      obtain ⟨eh, er⟩ := hp
      replace eh := eh.symm
      replace er := er.symm
      subst eh er
      refine lv_iconst (v := 5) hx hb d_Reader_takeSay_36 (by decide) ?_
      refine lv_icmp_ne (tgt := 81) hx hb d_Reader_takeSay_37 (by decide) (fun c35 => ?_) (fun z => absurd (nI_eqI (a := cw) (b := 5) (by have := hW.1; omega) (by decide) z) (by omega))
      refine lv_iconst (v := 0) hx hb d_Reader_takeSay_81 (by decide) ?_
      exact mq_iret hQ C X hr rfl hlk (tkP_no x hR vfx.rf (Bool.eq_false_iff.mpr (fun z => absurd ((okPa_1 hf6 hW hb0 nv).mp z).1 (by omega)))) (by omega) (by omega) d_Reader_takeSay_82
    · skip
      refine lv_aload_n hx hb d_Reader_takeSay_27 rfl (lv_at hl 1 rfl) ?_
      refine lv_astore_n (lv' := [(3, .ref lt), (2, .ref lt), (0, .ref (ad 6 0)), (1, .ref (ad 11 (ns - 1)))]) hx hb d_Reader_takeSay_28 rfl hl (by decide) rfl (fun ls hl => ?_)
      refine lv_aload_n hx hb d_Reader_takeSay_29 rfl (lv_at hl 2 rfl) ?_
      refine mv_get C X (x.get (i := 6) (j := 0) h60) 1 f_5_21_5 (v := .ref (ad 7 0)) rfl d_Reader_takeSay_30 ?_
      refine mv_bi X (mv_rV (rest := []) (As := []) gt_good C X k_5_47 (cm_Line_wordCount hE (x.get (i := 7) (j := 0) h70)) (x.get (i := 7) (j := 0) h70) rfl rfl ⟨Nat.le_of_ble_eq_true rfl, Nat.le_of_ble_eq_true rfl⟩ rfl hl.1 rfl (Nat.le_of_ble_eq_true rfl) d_Reader_takeSay_33 ⟨Nat.zero_le _, Nat.zero_le _⟩) (fun r36 hN H locs hp X => ?_)
      obtain ⟨eh, er⟩ := hp
      replace eh := eh.symm
      replace er := er.symm
      subst eh er
      refine lv_iconst (v := 5) hx hb d_Reader_takeSay_36 (by decide) ?_
      refine lv_icmp_ne (tgt := 81) hx hb d_Reader_takeSay_37 (by decide) (fun c37 => ?_) (fun z => absurd (nI_eqI (a := cw) (b := 5) (by have := hW.1; omega) (by decide) z) (by omega))
      refine lv_iconst (v := 0) hx hb d_Reader_takeSay_81 (by decide) ?_
      exact mq_iret hQ C X hr rfl hlk (tkP_no x hR vfx.rf (Bool.eq_false_iff.mpr (fun z => absurd ((okPa_1 hf6 hW hb0 nv).mp z).1 (by omega)))) (by omega) (by omega) d_Reader_takeSay_82
theorem d_Reader_takeShow_0 : decode prog_6_method_11_code 0 = .ok (.aload_n 0, 1) := by decide +kernel
theorem d_Reader_takeShow_1 : decode prog_6_method_11_code 1 = .ok (.getfield 21, 3) := by decide +kernel
theorem d_Reader_takeShow_4 : decode prog_6_method_11_code 4 = .ok (.iconst 3, 1) := by decide +kernel
theorem d_Reader_takeShow_5 : decode prog_6_method_11_code 5 = .ok (.invokevirtual 134, 3) := by decide +kernel
theorem d_Reader_takeShow_8 : decode prog_6_method_11_code 8 = .ok (.istore_n 2, 1) := by decide +kernel
theorem d_Reader_takeShow_9 : decode prog_6_method_11_code 9 = .ok (.aload_n 0, 1) := by decide +kernel
theorem d_Reader_takeShow_10 : decode prog_6_method_11_code 10 = .ok (.getfield 12, 3) := by decide +kernel
theorem d_Reader_takeShow_13 : decode prog_6_method_11_code 13 = .ok (.aload_n 0, 1) := by decide +kernel
theorem d_Reader_takeShow_14 : decode prog_6_method_11_code 14 = .ok (.getfield 21, 3) := by decide +kernel
theorem d_Reader_takeShow_17 : decode prog_6_method_11_code 17 = .ok (.iconst 4, 1) := by decide +kernel
theorem d_Reader_takeShow_18 : decode prog_6_method_11_code 18 = .ok (.invokevirtual 112, 3) := by decide +kernel
theorem d_Reader_takeShow_21 : decode prog_6_method_11_code 21 = .ok (.invokevirtual 145, 3) := by decide +kernel
theorem d_Reader_takeShow_24 : decode prog_6_method_11_code 24 = .ok (.astore_n 3, 1) := by decide +kernel
theorem d_Reader_takeShow_25 : decode prog_6_method_11_code 25 = .ok (.aload_n 0, 1) := by decide +kernel
theorem d_Reader_takeShow_26 : decode prog_6_method_11_code 26 = .ok (.getfield 21, 3) := by decide +kernel
theorem d_Reader_takeShow_29 : decode prog_6_method_11_code 29 = .ok (.invokevirtual 47, 3) := by decide +kernel
theorem d_Reader_takeShow_32 : decode prog_6_method_11_code 32 = .ok (.iconst 5, 1) := by decide +kernel
theorem d_Reader_takeShow_33 : decode prog_6_method_11_code 33 = .ok (.if_icmp .ne 18, 3) := by decide +kernel
theorem d_Reader_takeShow_36 : decode prog_6_method_11_code 36 = .ok (.iload_n 2, 1) := by decide +kernel
theorem d_Reader_takeShow_37 : decode prog_6_method_11_code 37 = .ok (.iconst 1, 1) := by decide +kernel
theorem d_Reader_takeShow_38 : decode prog_6_method_11_code 38 = .ok (.if_icmp .lt 13, 3) := by decide +kernel
theorem d_Reader_takeShow_41 : decode prog_6_method_11_code 41 = .ok (.iload_n 2, 1) := by decide +kernel
theorem d_Reader_takeShow_42 : decode prog_6_method_11_code 42 = .ok (.bipush 9, 2) := by decide +kernel
theorem d_Reader_takeShow_44 : decode prog_6_method_11_code 44 = .ok (.if_icmp .gt 7, 3) := by decide +kernel
theorem d_Reader_takeShow_47 : decode prog_6_method_11_code 47 = .ok (.aload_n 3, 1) := by decide +kernel
theorem d_Reader_takeShow_48 : decode prog_6_method_11_code 48 = .ok (.ifnonnull 5, 3) := by decide +kernel
theorem d_Reader_takeShow_51 : decode prog_6_method_11_code 51 = .ok (.iconst 0, 1) := by decide +kernel
theorem d_Reader_takeShow_52 : decode prog_6_method_11_code 52 = .ok (.ireturn, 1) := by decide +kernel
theorem d_Reader_takeShow_53 : decode prog_6_method_11_code 53 = .ok (.aload_n 0, 1) := by decide +kernel
theorem d_Reader_takeShow_54 : decode prog_6_method_11_code 54 = .ok (.aload_n 1, 1) := by decide +kernel
theorem d_Reader_takeShow_55 : decode prog_6_method_11_code 55 = .ok (.new 172, 3) := by decide +kernel
theorem d_Reader_takeShow_58 : decode prog_6_method_11_code 58 = .ok (.dup, 1) := by decide +kernel
theorem d_Reader_takeShow_59 : decode prog_6_method_11_code 59 = .ok (.aload_n 0, 1) := by decide +kernel
theorem d_Reader_takeShow_60 : decode prog_6_method_11_code 60 = .ok (.getfield 21, 3) := by decide +kernel
theorem d_Reader_takeShow_63 : decode prog_6_method_11_code 63 = .ok (.iconst 1, 1) := by decide +kernel
theorem d_Reader_takeShow_64 : decode prog_6_method_11_code 64 = .ok (.invokevirtual 134, 3) := by decide +kernel
theorem d_Reader_takeShow_67 : decode prog_6_method_11_code 67 = .ok (.aload_n 0, 1) := by decide +kernel
theorem d_Reader_takeShow_68 : decode prog_6_method_11_code 68 = .ok (.getfield 21, 3) := by decide +kernel
theorem d_Reader_takeShow_71 : decode prog_6_method_11_code 71 = .ok (.iconst 2, 1) := by decide +kernel
theorem d_Reader_takeShow_72 : decode prog_6_method_11_code 72 = .ok (.invokevirtual 134, 3) := by decide +kernel
theorem d_Reader_takeShow_75 : decode prog_6_method_11_code 75 = .ok (.aload_n 0, 1) := by decide +kernel
theorem d_Reader_takeShow_76 : decode prog_6_method_11_code 76 = .ok (.getfield 29, 3) := by decide +kernel
theorem d_Reader_takeShow_79 : decode prog_6_method_11_code 79 = .ok (.aload_n 3, 1) := by decide +kernel
theorem d_Reader_takeShow_80 : decode prog_6_method_11_code 80 = .ok (.iload_n 2, 1) := by decide +kernel
theorem d_Reader_takeShow_81 : decode prog_6_method_11_code 81 = .ok (.invokespecial 174, 3) := by decide +kernel
theorem d_Reader_takeShow_84 : decode prog_6_method_11_code 84 = .ok (.invokevirtual 166, 3) := by decide +kernel
theorem d_Reader_takeShow_87 : decode prog_6_method_11_code 87 = .ok (.ireturn, 1) := by decide +kernel
set_option maxRecDepth 100000 in
set_option maxHeartbeats 4000000 in
theorem cm_Reader_takeShow {l : Launch} {S0 : State} {b : Nat} {D : va_G} {dT : Nat → ClassId} (hE : vEnv S0 b D dT) {dE mO : Nat} (hJ : vJ S0 dE mO) {h0 : vH} {hcv : vH} {ad : Nat → Nat → Nat} {L : vL} {rc : Int32} {A : Nat → Nat → Int32} {B : Nat → Nat → Int64} {nv ns np nc : Nat} {pf cb ce cs : Nat → Nat} {c0 : Nat} (x : LH S0.heap.size hcv h0 ad L) (hcE : ∃ fE, hcv dE = some (aR dT 0 fE)) (hR : PR dT dE h0 ad L A B nv ns np nc pf cb ce cs c0 rc) (hnv : nv ≤ 40) (hns : ns ≤ 30) (hnp : np ≤ 600) (hnc : nc ≤ 600) {f : Nat → Int32} {N en bg cw : Nat} (hT : PT dT S0.heap.size h0 ad L f N en bg cw) (hf6 : A 6 = f) (hns0 : 0 < ns) : vMi l S0 D vcl GT y_Reader_takeShow prog_6_method_11_code 4 (some .boolean) 8 183 2 (20 + 2 * np) [.ref (ad 6 0), .ref (ad 11 (ns - 1))] h0 (fun r h' => tkP dT dE S0.heap.size hcv h0 ad L rc A B nv ns np nc pf cb ce cs c0 (okPa A en (wP f en bg 1) nv 2) (paA A en (wP f en bg 1) nv np nc 2 (nI ns) (nI np)) (B) nv ns (np + 1) nc r h') := by
  unfold vMi
  refine vM_ofQ hE.1 (by decide) (Nat.le_of_ble_eq_true rfl) (fun p e s m args below meth c ls Q hQ C hr hlk hnm X hl => ?_)
  have C : vC p s m _ c _ _ "MenuScreens$Reader" GT D vcl (vty dT) := C
  have hx := C.1.1
  have hb := C.1.2.1
  obtain ⟨H, eH⟩ : ∃ z, z = s.heap := ⟨_, rfl⟩
  obtain ⟨locs, elocs⟩ : ∃ z : List Loc, z = [] := ⟨_, rfl⟩
  rw [← eH, ← elocs] at X
  rw [← eH, ← elocs]
  clear eH elocs
  have hl : lv_has ls 4 [(0, .ref (ad 6 0)), (1, .ref (ad 11 (ns - 1)))] := hl
  have hR0 := hR
  obtain ⟨hRP, h20, h60⟩ := hR0
  obtain ⟨t, tv, z2, z3, f8, fs, fe, ⟨kt, ot⟩, ⟨ktv, otv⟩, wtv, h70, h71, h72, hW, hb0, he, hN, hg⟩ := hT
  have hN0 := hN
  obtain ⟨hS, hps, ⟨gk, hkn, hgk⟩, -, -⟩ := hRP.2.1.2 (ns - 1) (by omega)
  have en1 : ns - 1 + 1 = ns := by omega
  rw [en1] at hS hgk
  have hcE9 := hcE
  obtain ⟨fE, hcE2⟩ := hcE
  obtain ⟨ea, cap, fl, md, hL, hfl, hLL, hea⟩ := hRP.1.1.hp x hcE2
  obtain ⟨kl, wl, ke, ⟨hncap, hcap⟩, hd⟩ := hL
  replace hcE := hcE9
  refine lv_aload_n hx hb d_Reader_takeShow_0 rfl (lv_at hl 0 rfl) ?_
  refine mv_get C X (x.get (i := 6) (j := 0) h60) 1 f_5_21_5 (v := .ref (ad 7 0)) rfl d_Reader_takeShow_1 ?_
  refine lv_iconst (v := 3) hx hb d_Reader_takeShow_4 (by decide) ?_
  refine mv_bi X (mv_rV (rest := []) (As := [.int 3]) gt_good C X k_5_134 (cm_Line_numberAt hE hJ hW hb0 he hN0 hg (j := 3) (by decide) (x.get (i := 7) (j := 0) h70) (x.get (i := 7) (j := 1) h71) (x.get (i := 7) (j := 2) h72) kt ktv) (x.get (i := 7) (j := 0) h70) rfl rfl ⟨Nat.le_of_ble_eq_true rfl, Nat.le_of_ble_eq_true rfl⟩ rfl hl.1 rfl (Nat.le_of_ble_eq_true rfl) d_Reader_takeShow_5 ⟨Nat.zero_le _, Nat.zero_le _⟩) (fun r1 hN H locs hp X => ?_)
  obtain ⟨eh, er⟩ := hp
  replace eh := eh.symm
  replace er := er.symm
  subst eh er
  refine lv_istore_n (lv' := [(2, .int (cNi f en bg cw 3)), (0, .ref (ad 6 0)), (1, .ref (ad 11 (ns - 1)))]) hx hb d_Reader_takeShow_8 rfl hl (by decide) rfl (fun ls hl => ?_)
  refine lv_aload_n hx hb d_Reader_takeShow_9 rfl (lv_at hl 1 rfl) ?_
  refine mv_get C X (x.get (i := 6) (j := 0) h60) 0 f_5_12_5 (v := .ref (ad 2 0)) rfl d_Reader_takeShow_10 ?_
  refine lv_aload_n hx hb d_Reader_takeShow_13 rfl (lv_at hl 1 rfl) ?_
  refine mv_get C X (x.get (i := 6) (j := 0) h60) 1 f_5_21_5 (v := .ref (ad 7 0)) rfl d_Reader_takeShow_14 ?_
  refine lv_iconst (v := 4) hx hb d_Reader_takeShow_17 (by decide) ?_
  refine mv_bl X (mv_rV (rest := [.ref (ad 2 0)]) (As := [.int 4]) gt_good C X k_5_112 (cm_Line_nameAt hE hJ hW hb0 he hN0 hg (j := 4) (by decide) (x.get (i := 7) (j := 0) h70) (x.get (i := 7) (j := 1) h71) (x.get (i := 7) (j := 2) h72) kt ktv) (x.get (i := 7) (j := 0) h70) rfl rfl ⟨Nat.le_of_ble_eq_true rfl, Nat.le_of_ble_eq_true rfl⟩ rfl hl.1 rfl (Nat.le_of_ble_eq_true rfl) d_Reader_takeShow_18 ⟨Nat.zero_le _, Nat.zero_le _⟩) (fun r2 hN H locs hp X => ?_)
  obtain ⟨eh, er⟩ := hp
  replace eh := eh.symm
  replace er := er.symm
  subst eh er
  refine mv_bq X (mv_rV (rest := []) (As := [.long (cNa f en bg cw 4)]) gt_good C X k_5_145 (cm_Plan_valueNamed hE (nf := nmV A 13 14) (g := ad 10) hncap (by omega) hfl (fun k hk => x.get (hRP.1.2 k hk)) (x.get h20) kl ke) (x.get (i := 2) (j := 0) h20) rfl rfl ⟨Nat.le_of_ble_eq_true rfl, Nat.le_of_ble_eq_true rfl⟩ rfl hl.1 rfl (Nat.le_of_ble_eq_true rfl) d_Reader_takeShow_21 ⟨Nat.zero_le _, Nat.zero_le _⟩) (fun r3 hN H locs hp X => ?_)
  obtain ⟨eh, er⟩ := hp
  replace eh := eh.symm
  replace er := er.symm
  subst eh er
  by_cases hk : vfd (nmV A 13 14) nv (cNa f en bg cw 4) = 0
  · rw [if_pos hk]
    change W _ _ _ _ _ _ _ _ _ _ _ _ _ _ _ (F0 _ _ _ (.null :: _))
    refine lv_astore_nN (lv' := [(3, .null), (2, .int (cNi f en bg cw 3)), (0, .ref (ad 6 0)), (1, .ref (ad 11 (ns - 1)))]) hx hb d_Reader_takeShow_24 rfl hl (by decide) rfl (fun ls hl => ?_)
    refine lv_aload_n hx hb d_Reader_takeShow_25 rfl (lv_at hl 2 rfl) ?_
    refine mv_get C X (x.get (i := 6) (j := 0) h60) 1 f_5_21_5 (v := .ref (ad 7 0)) rfl d_Reader_takeShow_26 ?_
    refine mv_bi X (mv_rV (rest := []) (As := []) gt_good C X k_5_47 (cm_Line_wordCount hE (x.get (i := 7) (j := 0) h70)) (x.get (i := 7) (j := 0) h70) rfl rfl ⟨Nat.le_of_ble_eq_true rfl, Nat.le_of_ble_eq_true rfl⟩ rfl hl.1 rfl (Nat.le_of_ble_eq_true rfl) d_Reader_takeShow_29 ⟨Nat.zero_le _, Nat.zero_le _⟩) (fun r4 hN H locs hp X => ?_)
    obtain ⟨eh, er⟩ := hp
    replace eh := eh.symm
    replace er := er.symm
    subst eh er
    refine lv_iconst (v := 5) hx hb d_Reader_takeShow_32 (by decide) ?_
    refine lv_icmp_ne (tgt := 51) hx hb d_Reader_takeShow_33 (by decide) (fun c5 => ?_) (fun c5 => ?_)
    · skip
      refine lv_iconst (v := 0) hx hb d_Reader_takeShow_51 (by decide) ?_
      exact mq_iret hQ C X hr rfl hlk (tkP_no x hR vfx.rf (Bool.eq_false_iff.mpr (fun z => absurd ((okPa_2 hf6 hW hb0 hRP.2.2.2.2.2.1).mp z).1 (fun y => c5 (by rw [y]; rfl))))) (by omega) (by omega) d_Reader_takeShow_52
    · skip
      refine lv_iload_n hx hb d_Reader_takeShow_36 rfl (lv_at hl 1 rfl) ?_
      refine lv_iconst (v := 1) hx hb d_Reader_takeShow_37 (by decide) ?_
      refine lv_icmp_lt (tgt := 51) hx hb d_Reader_takeShow_38 (by decide) (fun c6 => ?_) (fun c6 => ?_)
      · skip
        refine lv_iconst (v := 0) hx hb d_Reader_takeShow_51 (by decide) ?_
        exact mq_iret hQ C X hr rfl hlk (tkP_no x hR vfx.rf (Bool.eq_false_iff.mpr (fun z => absurd (Int32.lt_iff_toInt_lt.mp c6) (Int.not_lt.mpr ((okPa_2 hf6 hW hb0 hRP.2.2.2.2.2.1).mp z).2.1.1)))) (by omega) (by omega) d_Reader_takeShow_52
      · skip
        refine lv_iload_n hx hb d_Reader_takeShow_41 rfl (lv_at hl 1 rfl) ?_
        refine lv_bipush (v := 9) hx hb d_Reader_takeShow_42 (by decide) ?_
        refine lv_icmp_gt (tgt := 51) hx hb d_Reader_takeShow_44 (by decide) (fun c7 => ?_) (fun c7 => ?_)
        · skip
          refine lv_iconst (v := 0) hx hb d_Reader_takeShow_51 (by decide) ?_
          exact mq_iret hQ C X hr rfl hlk (tkP_no x hR vfx.rf (Bool.eq_false_iff.mpr (fun z => absurd (Int32.lt_iff_toInt_lt.mp c7) (Int.not_lt.mpr ((okPa_2 hf6 hW hb0 hRP.2.2.2.2.2.1).mp z).2.1.2)))) (by omega) (by omega) d_Reader_takeShow_52
        · skip
          refine lv_aload_nN hx hb d_Reader_takeShow_47 rfl (lv_at hl 0 rfl) ?_
          refine lv_ifnonnullN hx hb d_Reader_takeShow_48 ?_
          refine lv_iconst (v := 0) hx hb d_Reader_takeShow_51 (by decide) ?_
          exact mq_iret hQ C X hr rfl hlk (tkP_no x hR vfx.rf (Bool.eq_false_iff.mpr (fun z => absurd hk ((okPa_2 hf6 hW hb0 hRP.2.2.2.2.2.1).mp z).2.2.1))) (by omega) (by omega) d_Reader_takeShow_52
  · rw [if_neg hk]
    change W _ _ _ _ _ _ _ _ _ _ _ _ _ _ _ (F0 _ _ _ (.ref (ad 10 (vfd (nmV A 13 14) nv (cNa f en bg cw 4) - 1)) :: _))
    refine lv_astore_n (lv' := [(3, .ref (ad 10 (vfd (nmV A 13 14) nv (cNa f en bg cw 4) - 1))), (2, .int (cNi f en bg cw 3)), (0, .ref (ad 6 0)), (1, .ref (ad 11 (ns - 1)))]) hx hb d_Reader_takeShow_24 rfl hl (by decide) rfl (fun ls hl => ?_)
    refine lv_aload_n hx hb d_Reader_takeShow_25 rfl (lv_at hl 2 rfl) ?_
    refine mv_get C X (x.get (i := 6) (j := 0) h60) 1 f_5_21_5 (v := .ref (ad 7 0)) rfl d_Reader_takeShow_26 ?_
    refine mv_bi X (mv_rV (rest := []) (As := []) gt_good C X k_5_47 (cm_Line_wordCount hE (x.get (i := 7) (j := 0) h70)) (x.get (i := 7) (j := 0) h70) rfl rfl ⟨Nat.le_of_ble_eq_true rfl, Nat.le_of_ble_eq_true rfl⟩ rfl hl.1 rfl (Nat.le_of_ble_eq_true rfl) d_Reader_takeShow_29 ⟨Nat.zero_le _, Nat.zero_le _⟩) (fun r8 hN H locs hp X => ?_)
    obtain ⟨eh, er⟩ := hp
    replace eh := eh.symm
    replace er := er.symm
    subst eh er
    refine lv_iconst (v := 5) hx hb d_Reader_takeShow_32 (by decide) ?_
    refine lv_icmp_ne (tgt := 51) hx hb d_Reader_takeShow_33 (by decide) (fun c9 => ?_) (fun c9 => ?_)
    · skip
      refine lv_iconst (v := 0) hx hb d_Reader_takeShow_51 (by decide) ?_
      exact mq_iret hQ C X hr rfl hlk (tkP_no x hR vfx.rf (Bool.eq_false_iff.mpr (fun z => absurd ((okPa_2 hf6 hW hb0 hRP.2.2.2.2.2.1).mp z).1 (fun y => c9 (by rw [y]; rfl))))) (by omega) (by omega) d_Reader_takeShow_52
    · skip
      refine lv_iload_n hx hb d_Reader_takeShow_36 rfl (lv_at hl 1 rfl) ?_
      refine lv_iconst (v := 1) hx hb d_Reader_takeShow_37 (by decide) ?_
      refine lv_icmp_lt (tgt := 51) hx hb d_Reader_takeShow_38 (by decide) (fun c10 => ?_) (fun c10 => ?_)
      · skip
        refine lv_iconst (v := 0) hx hb d_Reader_takeShow_51 (by decide) ?_
        exact mq_iret hQ C X hr rfl hlk (tkP_no x hR vfx.rf (Bool.eq_false_iff.mpr (fun z => absurd (Int32.lt_iff_toInt_lt.mp c10) (Int.not_lt.mpr ((okPa_2 hf6 hW hb0 hRP.2.2.2.2.2.1).mp z).2.1.1)))) (by omega) (by omega) d_Reader_takeShow_52
      · skip
        refine lv_iload_n hx hb d_Reader_takeShow_41 rfl (lv_at hl 1 rfl) ?_
        refine lv_bipush (v := 9) hx hb d_Reader_takeShow_42 (by decide) ?_
        refine lv_icmp_gt (tgt := 51) hx hb d_Reader_takeShow_44 (by decide) (fun c11 => ?_) (fun c11 => ?_)
        · skip
          refine lv_iconst (v := 0) hx hb d_Reader_takeShow_51 (by decide) ?_
          exact mq_iret hQ C X hr rfl hlk (tkP_no x hR vfx.rf (Bool.eq_false_iff.mpr (fun z => absurd (Int32.lt_iff_toInt_lt.mp c11) (Int.not_lt.mpr ((okPa_2 hf6 hW hb0 hRP.2.2.2.2.2.1).mp z).2.1.2)))) (by omega) (by omega) d_Reader_takeShow_52
        · skip
          refine lv_aload_n hx hb d_Reader_takeShow_47 rfl (lv_at hl 0 rfl) ?_
          refine lv_ifnonnull (tgt := 53) hx hb d_Reader_takeShow_48 (by decide) ?_
          refine lv_aload_n hx hb d_Reader_takeShow_53 rfl (lv_at hl 2 rfl) ?_
          refine lv_aload_n hx hb d_Reader_takeShow_54 rfl (lv_at hl 3 rfl) ?_
          refine mv_new C X n_5_172 (by show 0 + 1 ≤ 2; omega) (by show 0 + 5 ≤ (20 + 2 * np); omega) d_Reader_takeShow_55 (fun q12 H z_q12 w_q12 X => ?_)
          have n_t_q12 : t ≠ q12 := vnf kt z_q12
          have n_tv_q12 : tv ≠ q12 := vnf ktv z_q12
          have n__ad_2_0__q12 : (ad 2 0) ≠ q12 := vnf (x.get (i := 2) (j := 0) h20) z_q12
          have n__ad_6_0__q12 : (ad 6 0) ≠ q12 := vnf (x.get (i := 6) (j := 0) h60) z_q12
          have n__ad_7_0__q12 : (ad 7 0) ≠ q12 := vnf (x.get (i := 7) (j := 0) h70) z_q12
          have n__ad_7_1__q12 : (ad 7 1) ≠ q12 := vnf (x.get (i := 7) (j := 1) h71) z_q12
          have n__ad_7_2__q12 : (ad 7 2) ≠ q12 := vnf (x.get (i := 7) (j := 2) h72) z_q12
          have n__ad_11__ns___1___q12 : (ad 11 (ns - 1)) ≠ q12 := vnf (x.get (i := 11) (j := (ns - 1)) hS) z_q12
          have n__ad_3_0__q12 : (ad 3 0) ≠ q12 := vnf kl z_q12
          have n_ea_q12 : ea ≠ q12 := vnf ke z_q12
          have X : vO S0 D vcl (vup h0 q12 (.inr (11, [.null, .int 0, .int 0, .int 0, .null]))) s H locs := X
          change W _ _ _ _ _ _ _ _ _ _ _ _ (0 + 1) (0 + 5) _ _
          refine lv_dup hx hb d_Reader_takeShow_58 rfl ?_
          refine lv_aload_n hx hb d_Reader_takeShow_59 rfl (lv_at hl 2 rfl) ?_
          refine mv_get C X ((vup_n _ _ n__ad_6_0__q12).trans (x.get (i := 6) (j := 0) h60)) 1 f_5_21_5 (v := .ref (ad 7 0)) rfl d_Reader_takeShow_60 ?_
          refine lv_iconst (v := 1) hx hb d_Reader_takeShow_63 (by decide) ?_
          refine mv_bi X (mv_rV (rest := [.ref q12, .ref q12, .ref (ad 11 (ns - 1)), .ref (ad 6 0)]) (As := [.int 1]) gt_good C X k_5_134 (cm_Line_numberAt hE hJ hW hb0 he hN0 hg (j := 1) (by decide) ((vup_n _ _ n__ad_7_0__q12).trans (x.get (i := 7) (j := 0) h70)) ((vup_n _ _ n__ad_7_1__q12).trans (x.get (i := 7) (j := 1) h71)) ((vup_n _ _ n__ad_7_2__q12).trans (x.get (i := 7) (j := 2) h72)) ((vup_n _ _ n_t_q12).trans kt) ((vup_n _ _ n_tv_q12).trans ktv)) ((vup_n _ _ n__ad_7_0__q12).trans (x.get (i := 7) (j := 0) h70)) rfl rfl ⟨Nat.le_of_ble_eq_true rfl, Nat.le_of_ble_eq_true rfl⟩ rfl hl.1 rfl (Nat.le_of_ble_eq_true rfl) d_Reader_takeShow_64 ⟨by show (0 + 1) + 0 ≤ 2; omega, by show (0 + 5) + 0 ≤ (20 + 2 * np); omega⟩) (fun r13 hN H locs hp X => ?_)
          obtain ⟨eh, er⟩ := hp
          replace eh := eh.symm
          replace er := er.symm
          subst eh er
          refine lv_aload_n hx hb d_Reader_takeShow_67 rfl (lv_at hl 2 rfl) ?_
          refine mv_get C X ((vup_n _ _ n__ad_6_0__q12).trans (x.get (i := 6) (j := 0) h60)) 1 f_5_21_5 (v := .ref (ad 7 0)) rfl d_Reader_takeShow_68 ?_
          refine lv_iconst (v := 2) hx hb d_Reader_takeShow_71 (by decide) ?_
          refine mv_bi X (mv_rV (rest := [.int (cNi f en bg cw 1), .ref q12, .ref q12, .ref (ad 11 (ns - 1)), .ref (ad 6 0)]) (As := [.int 2]) gt_good C X k_5_134 (cm_Line_numberAt hE hJ hW hb0 he hN0 hg (j := 2) (by decide) ((vup_n _ _ n__ad_7_0__q12).trans (x.get (i := 7) (j := 0) h70)) ((vup_n _ _ n__ad_7_1__q12).trans (x.get (i := 7) (j := 1) h71)) ((vup_n _ _ n__ad_7_2__q12).trans (x.get (i := 7) (j := 2) h72)) ((vup_n _ _ n_t_q12).trans kt) ((vup_n _ _ n_tv_q12).trans ktv)) ((vup_n _ _ n__ad_7_0__q12).trans (x.get (i := 7) (j := 0) h70)) rfl rfl ⟨Nat.le_of_ble_eq_true rfl, Nat.le_of_ble_eq_true rfl⟩ rfl hl.1 rfl (Nat.le_of_ble_eq_true rfl) d_Reader_takeShow_72 ⟨by show ((0 + 1) + 0) + 0 ≤ 2; omega, by show ((0 + 5) + 0) + 0 ≤ (20 + 2 * np); omega⟩) (fun r14 hN H locs hp X => ?_)
          obtain ⟨eh, er⟩ := hp
          replace eh := eh.symm
          replace er := er.symm
          subst eh er
          refine lv_aload_n hx hb d_Reader_takeShow_75 rfl (lv_at hl 2 rfl) ?_
          refine mv_get C X ((vup_n _ _ n__ad_6_0__q12).trans (x.get (i := 6) (j := 0) h60)) 3 f_5_29_5 (v := va_rf (if c0 < nc then some (ad 17 (nc - 1)) else none)) rfl d_Reader_takeShow_76 ?_
          refine lv_aload_n hx hb d_Reader_takeShow_79 rfl (lv_at hl 0 rfl) ?_
          refine lv_iload_n hx hb d_Reader_takeShow_80 rfl (lv_at hl 1 rfl) ?_
          refine mv_bv X (mv_rI (rest := [.ref q12, .ref (ad 11 (ns - 1)), .ref (ad 6 0)]) (As := [.int (cNi f en bg cw 1), .int (cNi f en bg cw 2), va_rf (if c0 < nc then some (ad 17 (nc - 1)) else none), .ref (ad 10 (vfd (nmV A 13 14) nv (cNa f en bg cw 4) - 1)), .int (cNi f en bg cw 3)]) gt_good C X k_5_174 (cm_ValuePiece_init hE (vup_s _ _ _) w_q12) ⟨Nat.le_of_ble_eq_true rfl, Nat.le_of_ble_eq_true rfl⟩ rfl hl.1 rfl (Nat.le_of_ble_eq_true rfl) d_Reader_takeShow_81 ⟨by show (((0 + 1) + 0) + 0) + 0 ≤ 2; omega, by show (((0 + 5) + 0) + 0) + 0 ≤ (20 + 2 * np); omega⟩) (fun hN H locs hp X => ?_)
          replace hp := hp.symm
          subst hp
          rw [vup_u] at X
          have X : vO S0 D vcl (vup h0 q12 (.inr (11, [.ref (ad 10 (vfd (nmV A 13 14) nv (cNa f en bg cw 4) - 1)), .int (cNi f en bg cw 3), .int (cNi f en bg cw 1), .int (cNi f en bg cw 2), va_rf (if c0 < nc then some (ad 17 (nc - 1)) else none)]))) s H locs := X
          have y2 : LR S0.heap.size hcv h0 ad L (vup h0 q12 (.inr (11, [.ref (ad 10 (vfd (nmV A 13 14) nv (cNa f en bg cw 4) - 1)), .int (cNi f en bg cw 3), .int (cNi f en bg cw 1), .int (cNi f en bg cw 2), va_rf (if c0 < nc then some (ad 17 (nc - 1)) else none)]))) (lput ad 16 np q12) (lput L 16 np (some (.inr (11, [.ref (ad 10 (vfd (nmV A 13 14) nv (cNa f en bg cw 4) - 1)), .int (cNi f en bg cw 3), .int (cNi f en bg cw 1), .int (cNi f en bg cw 2), va_rf (if c0 < nc then some (ad 17 (nc - 1)) else none)])))) := (LR.of (LR.of x).1).new 16 np z_q12 w_q12
          have hR2 : PR dT dE (vup h0 q12 (.inr (11, [.ref (ad 10 (vfd (nmV A 13 14) nv (cNa f en bg cw 4) - 1)), .int (cNi f en bg cw 3), .int (cNi f en bg cw 1), .int (cNi f en bg cw 2), va_rf (if c0 < nc then some (ad 17 (nc - 1)) else none)]))) (lput ad 16 np q12) (lput L 16 np (some (.inr (11, [.ref (ad 10 (vfd (nmV A 13 14) nv (cNa f en bg cw 4) - 1)), .int (cNi f en bg cw 3), .int (cNi f en bg cw 1), .int (cNi f en bg cw 2), va_rf (if c0 < nc then some (ad 17 (nc - 1)) else none)])))) A B nv ns np nc pf cb ce cs c0 rc := ⟨(hRP.to (LR.of x).2 (fun i _ => ⟨rfl, rfl⟩)).n16 y2.2, h20, h60⟩
          refine mv_bi X (mv_rV (rest := []) (As := [.ref (ad 11 (ns - 1)), .ref q12]) gt_good C X k_5_166 (cm_Reader_takePiece11 hE hJ y2.1 hcE hR2 hnv hns hnp hnc hns0 (lput_s _ _ _ _) (lput_s _ _ _ _)) ((vup_n _ _ n__ad_6_0__q12).trans (x.get (i := 6) (j := 0) h60)) rfl rfl ⟨Nat.le_of_ble_eq_true rfl, Nat.le_of_ble_eq_true rfl⟩ rfl hl.1 rfl (Nat.le_of_ble_eq_true rfl) d_Reader_takeShow_84 ⟨by show ((((0 + 1) + 0) + 0) + 0) + 1 ≤ 2; omega, by show ((((0 + 5) + 0) + 0) + 0) + (10 + 2 * (np - pf (ns - 1))) ≤ (20 + 2 * np); omega⟩) (fun r16 hN H locs hp X => ?_)
          rcases hp with ⟨hro, er, eh⟩ | ⟨hro, er, b1, e1, e2, x4, kx⟩
          · subst er
            replace eh := eh.symm
            subst eh
            exact mq_iret hQ C X hr rfl hlk (tkP_no x hR (vfx.rf.new1 z_q12) (Bool.eq_false_iff.mpr (fun z => by
                have y := ((okPa_2 hf6 hW hb0 hRP.2.2.2.2.2.1).mp z).2.2.2
                rcases hro with u | u
                · exact absurd (Int32.lt_iff_toInt_lt.mp u) (Int.not_lt.mpr y.1)
                · exact absurd (Int32.lt_iff_toInt_lt.mp u) (Int.not_lt.mpr y.2)))) (by omega) (by omega) d_Reader_takeShow_87
          · subst er
            exact mq_iret hQ C X hr rfl hlk (by
                have y3 : LR S0.heap.size hcv h0 ad L hN (lput (lput ad 16 np q12) 13 (ns - 1) b1) (lput (lput (lput (lput L 16 np (some (.inr (11, [.ref (ad 10 (vfd (nmV A 13 14) nv (cNa f en bg cw 4) - 1)), .int (cNi f en bg cw 3), .int (cNi f en bg cw 1), .int (cNi f en bg cw 2), va_rf (if c0 < nc then some (ad 17 (nc - 1)) else none)])))) 12 (ns - 1) (some e1)) 13 (ns - 1) (some e2)) 6 0 (some (.inr (5, [.ref (ad 2 0), .ref (ad 7 0), va_rf (if 0 < ns then some (ad 11 (ns - 1)) else none), .null])))) := y2.trans x4
                have xt := (LR.of x).trans y3
                have l1 := i32_0 hro.1
                have l2 := i32_0 hro.2
                have g1 : cNi f en bg cw 1 ≠ -1000000 := fun z => by rw [z] at l1; exact absurd l1 (by decide)
                have g2 : cNi f en bg cw 2 ≠ -1000000 := fun z => by rw [z] at l2; exact absurd l2 (by decide)
                have q1 := (cNi_lt g1).2.2.2.2
                have q2 := (cNi_lt g2).2.2.2.2
                have wi3 := wP_in (f := f) hb0 3
                have wi4 := wP_in (f := f) hb0 4
                have wi5 := wP_in (f := f) hb0 5
                have nf3 := nF_in f wi3.2
                have nf4 := nF_in f wi4.2
                have eL : lput (lput (lput (lput L 16 np (some (.inr (11, [.ref (ad 10 (vfd (nmV A 13 14) nv (cNa f en bg cw 4) - 1)), .int (cNi f en bg cw 3), .int (cNi f en bg cw 1), .int (cNi f en bg cw 2), va_rf (if c0 < nc then some (ad 17 (nc - 1)) else none)])))) 12 (ns - 1) (some e1)) 13 (ns - 1) (some e2)) 6 0 (some (.inr (5, [.ref (ad 2 0), .ref (ad 7 0), va_rf (if 0 < ns then some (ad 11 (ns - 1)) else none), .null]))) = lput (lput (lput (lput L 6 0 (some (.inr (5, [.ref (ad 2 0), .ref (ad 7 0), va_rf (if 0 < ns then some (ad 11 (ns - 1)) else none), .null])))) 16 np (some (.inr (11, [.ref (ad 10 (vfd (nmV A 13 14) nv (cNa f en bg cw 4) - 1)), .int (cNi f en bg cw 3), .int (cNi f en bg cw 1), .int (cNi f en bg cw 2), va_rf (if c0 < nc then some (ad 17 (nc - 1)) else none)])))) 12 (ns - 1) (some e1)) 13 (ns - 1) (some e2) := by
                  funext i j
                  simp only [lput]
                  by_cases h6 : i = 6 <;> simp [h6]
                have x6 : LX h0 ad (lput L 6 0 (some (.inr (5, [.ref (ad 2 0), .ref (ad 7 0), va_rf (if 0 < ns then some (ad 11 (ns - 1)) else none), .null])))) hN (lput (lput ad 16 np q12) 13 (ns - 1) b1) (lput (lput (lput (lput L 16 np (some (.inr (11, [.ref (ad 10 (vfd (nmV A 13 14) nv (cNa f en bg cw 4) - 1)), .int (cNi f en bg cw 3), .int (cNi f en bg cw 1), .int (cNi f en bg cw 2), va_rf (if c0 < nc then some (ad 17 (nc - 1)) else none)])))) 12 (ns - 1) (some e1)) 13 (ns - 1) (some e2)) 6 0 (some (.inr (5, [.ref (ad 2 0), .ref (ad 7 0), va_rf (if 0 < ns then some (ad 11 (ns - 1)) else none), .null])))) := xt.2.base h60
                have r6 := hRP.to (LX_same (h := h0) (e' := .inr (5, [.ref (ad 2 0), .ref (ad 7 0), va_rf (if 0 < ns then some (ad 11 (ns - 1)) else none), .null])) h60) (fun i hi => ⟨lput_k _ _ (by omega), rfl⟩)
                have kx2 : ∃ ea' md' cap' f', e1 = eLst ea' (np - pf (ns - 1) + 1) md' ∧ b1 = ea' ∧ e2 = aR dT cap' f' ∧ (np - pf (ns - 1) + 1 ≤ cap' ∧ cap' ≤ 2000) ∧ (∀ k, k < np - pf (ns - 1) → f' k = some (ad 16 (pf (ns - 1) + k))) ∧ f' (np - pf (ns - 1)) = some q12 := by
                  obtain ⟨ea', md', cap', f', k1, k2, k3, k4, k5, k6⟩ := kx
                  exact ⟨ea', md', cap', f', k1, k2, k3, k4, fun k hk => (k5 k hk).trans (by rw [lput_j _ _ (show pf (ns - 1) + k ≠ np by omega)]), k6⟩
                have l3 : 1 ≤ (cNi f en bg cw 3).toInt := Int.not_lt.mp (fun y => c10 (Int32.lt_iff_toInt_lt.mpr y))
                have l4 : (cNi f en bg cw 3).toInt ≤ 9 := Int.not_lt.mp (fun y => c11 (Int32.lt_iff_toInt_lt.mpr y))
                have g3 : cNi f en bg cw 3 ≠ -1000000 := fun z => by rw [z] at l3; exact absurd l3 (by decide)
                have q3 := (cNi_lt g3).2.2.2.2
                have n4 : cNa f en bg cw 4 ≠ 0 := fun z => hk (by rw [z]; exact vfd_0 hRP.2.2.2.2.2.1)
                have hv := fV_c hf6 hRP.2.2.2.2.2.1 n4
                have hv2 : vfd (nmV A 13 14) nv (cNa f en bg cw 4) ≤ nv := by
                  rcases fnd_in (fun v => decide (nmV A 13 14 v = cNa f en bg cw 4)) nv 1 with z | z
                  · exact absurd z hk
                  · have z2 : vfd (nmV A 13 14) nv (cNa f en bg cw 4) < 1 + nv := z.2.1
                    omega
                subst hf6
                rw [eL] at x6
                have r2 := RP_pa2 (e := en) (T := wP (A 6) en bg 1) (q := q12) (b := b1) (v := vfd (nmV A 13 14) nv (cNa (A 6) en bg cw 4)) r6 hns0 hns hnc hnp hnv hv (Nat.pos_of_ne_zero hk) hv2 rfl (by rw [q1, show (vNu (A 6) en (nT (A 6) en (wP (A 6) en bg 1))).toInt32 = _ from q2, show (vNu (A 6) en (nT2 (A 6) en (wP (A 6) en bg 1))).toInt32 = _ from q3]; rfl) x6 kx2
                rw [← eL] at r2
                refine ⟨_, _, xt, fun i => ⟨fun hi => by rw [lput_k _ _ (kK_n hi (n := 6) (by decide)), lput_k _ _ (kK_n hi (n := 13) (by decide)), lput_k _ _ (kK_n hi (n := 12) (by decide)), lput_k _ _ (kK_n hi (n := 16) (by decide))], fun hi => by rw [lput_k _ _ (kA_n hi (n := 13) (by decide)), lput_k _ _ (kA_n hi (n := 16) (by decide))]⟩, Or.inl ⟨(okPa_2 rfl hW hb0 hRP.2.2.2.2.2.1).mpr ⟨nI_eqI (b := 5) (by have := hW.1; omega) (by decide) c9, ⟨l3, l4⟩, hk, l1, l2⟩, rfl, _, _, _, _, _, r2, h20, ?_⟩⟩
                rw [if_neg (Nat.lt_irrefl nc)]; rfl) (by omega) (by omega) d_Reader_takeShow_87
