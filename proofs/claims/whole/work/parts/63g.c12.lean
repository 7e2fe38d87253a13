theorem d_Reader_takePut_0 : decode prog_6_method_9_code 0 = .ok (.aload_n 0, 1) := by decide +kernel
theorem d_Reader_takePut_1 : decode prog_6_method_9_code 1 = .ok (.getfield 21, 3) := by decide +kernel
theorem d_Reader_takePut_4 : decode prog_6_method_9_code 4 = .ok (.iconst 3, 1) := by decide +kernel
theorem d_Reader_takePut_5 : decode prog_6_method_9_code 5 = .ok (.invokevirtual 54, 3) := by decide +kernel
theorem d_Reader_takePut_8 : decode prog_6_method_9_code 8 = .ok (.astore_n 2, 1) := by decide +kernel
theorem d_Reader_takePut_9 : decode prog_6_method_9_code 9 = .ok (.aload_n 0, 1) := by decide +kernel
theorem d_Reader_takePut_10 : decode prog_6_method_9_code 10 = .ok (.getfield 21, 3) := by decide +kernel
theorem d_Reader_takePut_13 : decode prog_6_method_9_code 13 = .ok (.invokevirtual 47, 3) := by decide +kernel
theorem d_Reader_takePut_16 : decode prog_6_method_9_code 16 = .ok (.iconst 4, 1) := by decide +kernel
theorem d_Reader_takePut_17 : decode prog_6_method_9_code 17 = .ok (.if_icmp .ne 44, 3) := by decide +kernel
theorem d_Reader_takePut_20 : decode prog_6_method_9_code 20 = .ok (.aload_n 0, 1) := by decide +kernel
theorem d_Reader_takePut_21 : decode prog_6_method_9_code 21 = .ok (.aload_n 1, 1) := by decide +kernel
theorem d_Reader_takePut_22 : decode prog_6_method_9_code 22 = .ok (.new 161, 3) := by decide +kernel
theorem d_Reader_takePut_25 : decode prog_6_method_9_code 25 = .ok (.dup, 1) := by decide +kernel
theorem d_Reader_takePut_26 : decode prog_6_method_9_code 26 = .ok (.aload_n 0, 1) := by decide +kernel
theorem d_Reader_takePut_27 : decode prog_6_method_9_code 27 = .ok (.getfield 21, 3) := by decide +kernel
theorem d_Reader_takePut_30 : decode prog_6_method_9_code 30 = .ok (.iconst 1, 1) := by decide +kernel
theorem d_Reader_takePut_31 : decode prog_6_method_9_code 31 = .ok (.invokevirtual 134, 3) := by decide +kernel
theorem d_Reader_takePut_34 : decode prog_6_method_9_code 34 = .ok (.aload_n 0, 1) := by decide +kernel
theorem d_Reader_takePut_35 : decode prog_6_method_9_code 35 = .ok (.getfield 21, 3) := by decide +kernel
theorem d_Reader_takePut_38 : decode prog_6_method_9_code 38 = .ok (.iconst 2, 1) := by decide +kernel
theorem d_Reader_takePut_39 : decode prog_6_method_9_code 39 = .ok (.invokevirtual 134, 3) := by decide +kernel
theorem d_Reader_takePut_42 : decode prog_6_method_9_code 42 = .ok (.aload_n 0, 1) := by decide +kernel
theorem d_Reader_takePut_43 : decode prog_6_method_9_code 43 = .ok (.getfield 29, 3) := by decide +kernel
theorem d_Reader_takePut_46 : decode prog_6_method_9_code 46 = .ok (.aload_n 2, 1) := by decide +kernel
theorem d_Reader_takePut_47 : decode prog_6_method_9_code 47 = .ok (.aload_n 2, 1) := by decide +kernel
theorem d_Reader_takePut_48 : decode prog_6_method_9_code 48 = .ok (.invokespecial 163, 3) := by decide +kernel
theorem d_Reader_takePut_51 : decode prog_6_method_9_code 51 = .ok (.invokevirtual 166, 3) := by decide +kernel
theorem d_Reader_takePut_54 : decode prog_6_method_9_code 54 = .ok (.ifCond .eq 7, 3) := by decide +kernel
theorem d_Reader_takePut_57 : decode prog_6_method_9_code 57 = .ok (.iconst 1, 1) := by decide +kernel
theorem d_Reader_takePut_58 : decode prog_6_method_9_code 58 = .ok (.goto 4, 3) := by decide +kernel
theorem d_Reader_takePut_61 : decode prog_6_method_9_code 61 = .ok (.iconst 0, 1) := by decide +kernel
theorem d_Reader_takePut_62 : decode prog_6_method_9_code 62 = .ok (.ireturn, 1) := by decide +kernel
set_option maxRecDepth 100000 in
set_option maxHeartbeats 4000000 in
theorem cm_Reader_takePut {l : Launch} {S0 : State} {b : Nat} {D : va_G} {dT : Nat → ClassId} (hE : vEnv S0 b D dT) {dE mO : Nat} (hJ : vJ S0 dE mO) {h0 : vH} {hcv : vH} {ad : Nat → Nat → Nat} {L : vL} {rc : Int32} {A : Nat → Nat → Int32} {B : Nat → Nat → Int64} {nv ns np nc : Nat} {pf cb ce cs : Nat → Nat} {c0 : Nat} (x : LH S0.heap.size hcv h0 ad L) (hcE : ∃ fE, hcv dE = some (aR dT 0 fE)) (hR : PR dT dE h0 ad L A B nv ns np nc pf cb ce cs c0 rc) (hnv : nv ≤ 40) (hns : ns ≤ 30) (hnp : np ≤ 600) (hnc : nc ≤ 600) {f : Nat → Int32} {N en bg cw : Nat} (hT : PT dT S0.heap.size h0 ad L f N en bg cw) (hf6 : A 6 = f) (hns0 : 0 < ns) {lt ltv : Nat} {txl : String} {lz2 lz3 : Value} {fl0 : Nat → Int32} (hlt : vk_R "MenuScreens$Line" 18 txl lt S0) (hlt1 : hcv lt = some (.inr (0, [.ref ltv, .int 0, lz2, lz3]))) (hlt2 : hcv ltv = some (.inl (dT 2, 0, .inl fl0))) : vMi l S0 D vcl GT y_Reader_takePut prog_6_method_9_code 3 (some .boolean) 8 183 4 (30 + 2 * np + (en - bg)) [.ref (ad 6 0), .ref (ad 11 (ns - 1))] h0 (fun r h' => tkP dT dE S0.heap.size hcv h0 ad L rc A B nv ns np nc pf cb ce cs c0 (okPa A en (wP f en bg 1) nv 0) (paA A en (wP f en bg 1) nv np nc 0 (nI ns) (nI np)) (B) nv ns (np + 1) nc r h') := by
  unfold vMi
  refine vM_ofQ hE.1 (by decide) (Nat.le_of_ble_eq_true rfl) (fun p e s m args below meth c ls Q hQ C hr hlk hnm X hl => ?_)
  have C : vC p s m _ c _ _ "MenuScreens$Reader" GT D vcl (vty dT) := C
  have hx := C.1.1
  have hb := C.1.2.1
  obtain ⟨H, eH⟩ : ∃ z, z = s.heap := ⟨_, rfl⟩
  obtain ⟨locs, elocs⟩ : ∃ z : List Loc, z = [] := ⟨_, rfl⟩
  rw [← eH, ← elocs] at X
  rw [← eH, ← elocs]
  clear eH elocs
  have hl : lv_has ls 3 [(0, .ref (ad 6 0)), (1, .ref (ad 11 (ns - 1)))] := hl
  have hR0 := hR
  obtain ⟨hRP, h20, h60⟩ := hR0
  obtain ⟨t, tv, z2, z3, f8, fs, fe, ⟨kt, ot⟩, ⟨ktv, otv⟩, wtv, h70, h71, h72, hW, hb0, he, hN, hg⟩ := hT
  have hN0 := hN
  obtain ⟨hS, hps, ⟨gk, hkn, hgk⟩, -, -⟩ := hRP.2.1.2 (ns - 1) (by omega)
  have en1 : ns - 1 + 1 = ns := by omega
  rw [en1] at hS hgk
  refine lv_aload_n hx hb d_Reader_takePut_0 rfl (lv_at hl 0 rfl) ?_
  refine mv_get C X (x.get (i := 6) (j := 0) h60) 1 f_5_21_5 (v := .ref (ad 7 0)) rfl d_Reader_takePut_1 ?_
  refine lv_iconst (v := 3) hx hb d_Reader_takePut_4 (by decide) ?_
  have hB3 : wP f en bg (3 + 1) - nF f en (wP f en bg 3) ≤ en - bg := by
    have a1 := wP_in (f := f) hb0 3
    have a2 := nF_in f a1.2
    have a3 := (wP_in (f := f) hb0 (3 + 1)).2
    omega
  by_cases hw3 : 3 < cw
  · skip
    refine mv_bq X (mv_rV (rest := []) (As := [.int 3]) gt_good C X k_5_54 (cm_Line_wordAtT hE hJ hW hb0 he hN0 hg (j := 3) hw3 (x.get (i := 7) (j := 0) h70) (x.get (i := 7) (j := 1) h71) (x.get (i := 7) (j := 2) h72) kt ktv wtv) (x.get (i := 7) (j := 0) h70) rfl rfl ⟨Nat.le_of_ble_eq_true rfl, Nat.le_of_ble_eq_true rfl⟩ rfl hl.1 rfl (Nat.le_of_ble_eq_true rfl) d_Reader_takePut_5 ⟨by show 0 + 2 ≤ 4; omega, by show 0 + (4 + (wP f en bg (3 + 1) - nF f en (wP f en bg 3))) ≤ (30 + 2 * np + (en - bg)); omega⟩) (fun r1 hN H locs hp X => ?_)
    obtain ⟨wq3, wa3, v23, v33, g3, er, fr3, hs3, hz3, eg3⟩ := hp
    subst er
    change W _ _ _ _ _ _ _ _ _ _ _ _ _ _ _ (F0 _ _ _ (.ref wq3 :: _))
    obtain ⟨k3, ek3⟩ : ∃ z, z = hN := ⟨_, rfl⟩
    rw [← ek3] at X fr3 hs3
    clear ek3
    have xr3 := (LR.of x).fx fr3
    have kt3 := fr3 _ _ kt (fun z => z)
    have ktv3 := fr3 _ _ ktv (fun z => z)
    refine lv_astore_n (lv' := [(2, .ref wq3), (0, .ref (ad 6 0)), (1, .ref (ad 11 (ns - 1)))]) hx hb d_Reader_takePut_8 rfl hl (by decide) rfl (fun ls hl => ?_)
    refine lv_aload_n hx hb d_Reader_takePut_9 rfl (lv_at hl 1 rfl) ?_
    refine mv_get C X (xr3.1.get (i := 6) (j := 0) h60) 1 f_5_21_5 (v := .ref (ad 7 0)) rfl d_Reader_takePut_10 ?_
    refine mv_bi X (mv_rV (rest := []) (As := []) gt_good C X k_5_47 (cm_Line_wordCount hE (xr3.1.get (i := 7) (j := 0) h70)) (xr3.1.get (i := 7) (j := 0) h70) rfl rfl ⟨Nat.le_of_ble_eq_true rfl, Nat.le_of_ble_eq_true rfl⟩ rfl hl.1 rfl (Nat.le_of_ble_eq_true rfl) d_Reader_takePut_13 ⟨by show (0 + 2) + 0 ≤ 4; omega, by show (0 + (4 + (wP f en bg (3 + 1) - nF f en (wP f en bg 3)))) + 0 ≤ (30 + 2 * np + (en - bg)); omega⟩) (fun r2 hN H locs hp X => ?_)
    obtain ⟨eh, er⟩ := hp
    replace eh := eh.symm
    replace er := er.symm
    subst eh er
    refine lv_iconst (v := 4) hx hb d_Reader_takePut_16 (by decide) ?_
    refine lv_icmp_ne (tgt := 61) hx hb d_Reader_takePut_17 (by decide) (fun c3 => ?_) (fun c3 => ?_)
    · skip
      refine lv_iconst (v := 0) hx hb d_Reader_takePut_61 (by decide) ?_
      exact mq_iret hQ C X hr rfl hlk (tkP_no x hR fr3 (Bool.eq_false_iff.mpr (fun z => absurd ((okPa_0 hf6 hW hb0 nv).mp z).1 (fun y => c3 (by rw [y]; rfl))))) (by omega) (by omega) d_Reader_takePut_62
    · skip
      refine lv_aload_n hx hb d_Reader_takePut_20 rfl (lv_at hl 1 rfl) ?_
      refine lv_aload_n hx hb d_Reader_takePut_21 rfl (lv_at hl 2 rfl) ?_
      refine mv_new C X n_5_161 (by show ((0 + 2) + 0) + 1 ≤ 4; omega) (by show ((0 + (4 + (wP f en bg (3 + 1) - nF f en (wP f en bg 3)))) + 0) + 5 ≤ (30 + 2 * np + (en - bg)); omega) d_Reader_takePut_22 (fun q4 H z_q4 w_q4 X => ?_)
      have n_t_q4 : t ≠ q4 := vnf kt3 z_q4
      have n_tv_q4 : tv ≠ q4 := vnf ktv3 z_q4
      have n__ad_2_0__q4 : (ad 2 0) ≠ q4 := vnf (xr3.1.get (i := 2) (j := 0) h20) z_q4
      have n__ad_6_0__q4 : (ad 6 0) ≠ q4 := vnf (xr3.1.get (i := 6) (j := 0) h60) z_q4
      have n__ad_7_0__q4 : (ad 7 0) ≠ q4 := vnf (xr3.1.get (i := 7) (j := 0) h70) z_q4
      have n__ad_7_1__q4 : (ad 7 1) ≠ q4 := vnf (xr3.1.get (i := 7) (j := 1) h71) z_q4
      have n__ad_7_2__q4 : (ad 7 2) ≠ q4 := vnf (xr3.1.get (i := 7) (j := 2) h72) z_q4
      have n__ad_11__ns___1___q4 : (ad 11 (ns - 1)) ≠ q4 := vnf (xr3.1.get (i := 11) (j := (ns - 1)) hS) z_q4
      have n_wq3_q4 : wq3 ≠ q4 := vnf hs3.1 z_q4
      have n_wa3_q4 : wa3 ≠ q4 := vnf hs3.2 z_q4
      have X : vO S0 D vcl (vup k3 q4 (.inr (10, [.null, .null, .int 0, .int 0, .null]))) s H locs := X
      change W _ _ _ _ _ _ _ _ _ _ _ _ (((0 + 2) + 0) + 1) (((0 + (4 + (wP f en bg (3 + 1) - nF f en (wP f en bg 3)))) + 0) + 5) _ _
      refine lv_dup hx hb d_Reader_takePut_25 rfl ?_
      refine lv_aload_n hx hb d_Reader_takePut_26 rfl (lv_at hl 1 rfl) ?_
      refine mv_get C X ((vup_n _ _ n__ad_6_0__q4).trans (xr3.1.get (i := 6) (j := 0) h60)) 1 f_5_21_5 (v := .ref (ad 7 0)) rfl d_Reader_takePut_27 ?_
      refine lv_iconst (v := 1) hx hb d_Reader_takePut_30 (by decide) ?_
      refine mv_bi X (mv_rV (rest := [.ref q4, .ref q4, .ref (ad 11 (ns - 1)), .ref (ad 6 0)]) (As := [.int 1]) gt_good C X k_5_134 (cm_Line_numberAt hE hJ hW hb0 he hN0 hg (j := 1) (by decide) ((vup_n _ _ n__ad_7_0__q4).trans (xr3.1.get (i := 7) (j := 0) h70)) ((vup_n _ _ n__ad_7_1__q4).trans (xr3.1.get (i := 7) (j := 1) h71)) ((vup_n _ _ n__ad_7_2__q4).trans (xr3.1.get (i := 7) (j := 2) h72)) ((vup_n _ _ n_t_q4).trans kt3) ((vup_n _ _ n_tv_q4).trans ktv3)) ((vup_n _ _ n__ad_7_0__q4).trans (xr3.1.get (i := 7) (j := 0) h70)) rfl rfl ⟨Nat.le_of_ble_eq_true rfl, Nat.le_of_ble_eq_true rfl⟩ rfl hl.1 rfl (Nat.le_of_ble_eq_true rfl) d_Reader_takePut_31 ⟨by show (((0 + 2) + 0) + 1) + 0 ≤ 4; omega, by show (((0 + (4 + (wP f en bg (3 + 1) - nF f en (wP f en bg 3)))) + 0) + 5) + 0 ≤ (30 + 2 * np + (en - bg)); omega⟩) (fun r5 hN H locs hp X => ?_)
      obtain ⟨eh, er⟩ := hp
      replace eh := eh.symm
      replace er := er.symm
      subst eh er
      refine lv_aload_n hx hb d_Reader_takePut_34 rfl (lv_at hl 1 rfl) ?_
      refine mv_get C X ((vup_n _ _ n__ad_6_0__q4).trans (xr3.1.get (i := 6) (j := 0) h60)) 1 f_5_21_5 (v := .ref (ad 7 0)) rfl d_Reader_takePut_35 ?_
      refine lv_iconst (v := 2) hx hb d_Reader_takePut_38 (by decide) ?_
      refine mv_bi X (mv_rV (rest := [.int (cNi f en bg cw 1), .ref q4, .ref q4, .ref (ad 11 (ns - 1)), .ref (ad 6 0)]) (As := [.int 2]) gt_good C X k_5_134 (cm_Line_numberAt hE hJ hW hb0 he hN0 hg (j := 2) (by decide) ((vup_n _ _ n__ad_7_0__q4).trans (xr3.1.get (i := 7) (j := 0) h70)) ((vup_n _ _ n__ad_7_1__q4).trans (xr3.1.get (i := 7) (j := 1) h71)) ((vup_n _ _ n__ad_7_2__q4).trans (xr3.1.get (i := 7) (j := 2) h72)) ((vup_n _ _ n_t_q4).trans kt3) ((vup_n _ _ n_tv_q4).trans ktv3)) ((vup_n _ _ n__ad_7_0__q4).trans (xr3.1.get (i := 7) (j := 0) h70)) rfl rfl ⟨Nat.le_of_ble_eq_true rfl, Nat.le_of_ble_eq_true rfl⟩ rfl hl.1 rfl (Nat.le_of_ble_eq_true rfl) d_Reader_takePut_39 ⟨by show ((((0 + 2) + 0) + 1) + 0) + 0 ≤ 4; omega, by show ((((0 + (4 + (wP f en bg (3 + 1) - nF f en (wP f en bg 3)))) + 0) + 5) + 0) + 0 ≤ (30 + 2 * np + (en - bg)); omega⟩) (fun r6 hN H locs hp X => ?_)
      obtain ⟨eh, er⟩ := hp
      replace eh := eh.symm
      replace er := er.symm
      subst eh er
      refine lv_aload_n hx hb d_Reader_takePut_42 rfl (lv_at hl 1 rfl) ?_
      refine mv_get C X ((vup_n _ _ n__ad_6_0__q4).trans (xr3.1.get (i := 6) (j := 0) h60)) 3 f_5_29_5 (v := va_rf (if c0 < nc then some (ad 17 (nc - 1)) else none)) rfl d_Reader_takePut_43 ?_
      refine lv_aload_n hx hb d_Reader_takePut_46 rfl (lv_at hl 0 rfl) ?_
      refine lv_aload_n hx hb d_Reader_takePut_47 rfl (lv_at hl 0 rfl) ?_
      refine mv_bv X (mv_rI (rest := [.ref q4, .ref (ad 11 (ns - 1)), .ref (ad 6 0)]) (As := [.int (cNi f en bg cw 1), .int (cNi f en bg cw 2), va_rf (if c0 < nc then some (ad 17 (nc - 1)) else none), .ref wq3, .ref wq3]) gt_good C X k_5_163 (cm_WordPiece_init hE (vup_s _ _ _) w_q4) ⟨Nat.le_of_ble_eq_true rfl, Nat.le_of_ble_eq_true rfl⟩ rfl hl.1 rfl (Nat.le_of_ble_eq_true rfl) d_Reader_takePut_48 ⟨by show (((((0 + 2) + 0) + 1) + 0) + 0) + 0 ≤ 4; omega, by show (((((0 + (4 + (wP f en bg (3 + 1) - nF f en (wP f en bg 3)))) + 0) + 5) + 0) + 0) + 0 ≤ (30 + 2 * np + (en - bg)); omega⟩) (fun hN H locs hp X => ?_)
      replace hp := hp.symm
      subst hp
      rw [vup_u] at X
      have X : vO S0 D vcl (vup k3 q4 (.inr (10, [.ref wq3, .ref wq3, .int (cNi f en bg cw 1), .int (cNi f en bg cw 2), va_rf (if c0 < nc then some (ad 17 (nc - 1)) else none)]))) s H locs := X
      have y2 : LR S0.heap.size hcv k3 ad L (vup k3 q4 (.inr (10, [.ref wq3, .ref wq3, .int (cNi f en bg cw 1), .int (cNi f en bg cw 2), va_rf (if c0 < nc then some (ad 17 (nc - 1)) else none)]))) (lput ad 16 np q4) (lput L 16 np (some (.inr (10, [.ref wq3, .ref wq3, .int (cNi f en bg cw 1), .int (cNi f en bg cw 2), va_rf (if c0 < nc then some (ad 17 (nc - 1)) else none)])))) := (LR.of xr3.1).new 16 np z_q4 w_q4
      have hR2 : PR dT dE (vup k3 q4 (.inr (10, [.ref wq3, .ref wq3, .int (cNi f en bg cw 1), .int (cNi f en bg cw 2), va_rf (if c0 < nc then some (ad 17 (nc - 1)) else none)]))) (lput ad 16 np q4) (lput L 16 np (some (.inr (10, [.ref wq3, .ref wq3, .int (cNi f en bg cw 1), .int (cNi f en bg cw 2), va_rf (if c0 < nc then some (ad 17 (nc - 1)) else none)])))) A B nv ns np nc pf cb ce cs c0 rc := ⟨(hRP.to xr3.2 (fun i _ => ⟨rfl, rfl⟩)).n16 y2.2, h20, h60⟩
      refine mv_bi X (mv_rV (rest := []) (As := [.ref (ad 11 (ns - 1)), .ref q4]) gt_good C X k_5_166 (cm_Reader_takePiece10 hE hJ y2.1 hcE hR2 hnv hns hnp hnc hns0 (lput_s _ _ _ _) (lput_s _ _ _ _)) ((vup_n _ _ n__ad_6_0__q4).trans (xr3.1.get (i := 6) (j := 0) h60)) rfl rfl ⟨Nat.le_of_ble_eq_true rfl, Nat.le_of_ble_eq_true rfl⟩ rfl hl.1 rfl (Nat.le_of_ble_eq_true rfl) d_Reader_takePut_51 ⟨by show ((((((0 + 2) + 0) + 1) + 0) + 0) + 0) + 1 ≤ 4; omega, by show ((((((0 + (4 + (wP f en bg (3 + 1) - nF f en (wP f en bg 3)))) + 0) + 5) + 0) + 0) + 0) + (10 + 2 * (np - pf (ns - 1))) ≤ (30 + 2 * np + (en - bg)); omega⟩) (fun r8 hN H locs hp X => ?_)
      rcases hp with ⟨hro, er, eh⟩ | ⟨hro, er, b1, e1, e2, x4, kx⟩
      · subst er
        replace eh := eh.symm
        subst eh
        refine lv_if_eq (tgt := 61) hx hb d_Reader_takePut_54 (by decide) (fun c9 => ?_) (fun z => absurd rfl z)
        refine lv_iconst (v := 0) hx hb d_Reader_takePut_61 (by decide) ?_
        exact mq_iret hQ C X hr rfl hlk (tkP_no x hR (fr3.new1 z_q4) (Bool.eq_false_iff.mpr (fun z => by
            have y := ((okPa_0 hf6 hW hb0 nv).mp z).2
            rcases hro with u | u
            · exact absurd (Int32.lt_iff_toInt_lt.mp u) (Int.not_lt.mpr y.1)
            · exact absurd (Int32.lt_iff_toInt_lt.mp u) (Int.not_lt.mpr y.2)))) (by omega) (by omega) d_Reader_takePut_62
      · subst er
        refine lv_if_eq (tgt := 61) hx hb d_Reader_takePut_54 (by decide) (fun z => absurd z (by decide)) (fun c10 => ?_)
        refine lv_iconst (v := 1) hx hb d_Reader_takePut_57 (by decide) ?_
        refine lv_goto (tgt := 62) hx hb d_Reader_takePut_58 (by decide) ?_
        exact mq_iret hQ C X hr rfl hlk (by
            have y3 : LR S0.heap.size hcv k3 ad L hN (lput (lput ad 16 np q4) 13 (ns - 1) b1) (lput (lput (lput (lput L 16 np (some (.inr (10, [.ref wq3, .ref wq3, .int (cNi f en bg cw 1), .int (cNi f en bg cw 2), va_rf (if c0 < nc then some (ad 17 (nc - 1)) else none)])))) 12 (ns - 1) (some e1)) 13 (ns - 1) (some e2)) 6 0 (some (.inr (5, [.ref (ad 2 0), .ref (ad 7 0), va_rf (if 0 < ns then some (ad 11 (ns - 1)) else none), .null])))) := y2.trans x4
            have xt := xr3.trans y3
            have l1 := i32_0 hro.1
            have l2 := i32_0 hro.2
            have g1 : cNi f en bg cw 1 ≠ -1000000 := fun z => by rw [z] at l1; exact absurd l1 (by decide)
            have g2 : cNi f en bg cw 2 ≠ -1000000 := fun z => by rw [z] at l2; exact absurd l2 (by decide)
            have q1 := (cNi_lt g1).2.2.2.2
            have q2 := (cNi_lt g2).2.2.2.2
            have wi3 := wP_in (f := f) hb0 3
            have wi4 := wP_in (f := f) hb0 4
            have wi5 := wP_in (f := f) hb0 5
            have nf3 := nF_in f wi3.2
            have nf4 := nF_in f wi4.2
            have eL : lput (lput (lput (lput L 16 np (some (.inr (10, [.ref wq3, .ref wq3, .int (cNi f en bg cw 1), .int (cNi f en bg cw 2), va_rf (if c0 < nc then some (ad 17 (nc - 1)) else none)])))) 12 (ns - 1) (some e1)) 13 (ns - 1) (some e2)) 6 0 (some (.inr (5, [.ref (ad 2 0), .ref (ad 7 0), va_rf (if 0 < ns then some (ad 11 (ns - 1)) else none), .null]))) = lput (lput (lput (lput L 6 0 (some (.inr (5, [.ref (ad 2 0), .ref (ad 7 0), va_rf (if 0 < ns then some (ad 11 (ns - 1)) else none), .null])))) 16 np (some (.inr (10, [.ref wq3, .ref wq3, .int (cNi f en bg cw 1), .int (cNi f en bg cw 2), va_rf (if c0 < nc then some (ad 17 (nc - 1)) else none)])))) 12 (ns - 1) (some e1)) 13 (ns - 1) (some e2) := by
              funext i j
              simp only [lput]
              by_cases h6 : i = 6 <;> simp [h6]
            have x6 : LX h0 ad (lput L 6 0 (some (.inr (5, [.ref (ad 2 0), .ref (ad 7 0), va_rf (if 0 < ns then some (ad 11 (ns - 1)) else none), .null])))) hN (lput (lput ad 16 np q4) 13 (ns - 1) b1) (lput (lput (lput (lput L 16 np (some (.inr (10, [.ref wq3, .ref wq3, .int (cNi f en bg cw 1), .int (cNi f en bg cw 2), va_rf (if c0 < nc then some (ad 17 (nc - 1)) else none)])))) 12 (ns - 1) (some e1)) 13 (ns - 1) (some e2)) 6 0 (some (.inr (5, [.ref (ad 2 0), .ref (ad 7 0), va_rf (if 0 < ns then some (ad 11 (ns - 1)) else none), .null])))) := xt.2.base h60
            have r6 := hRP.to (LX_same (h := h0) (e' := .inr (5, [.ref (ad 2 0), .ref (ad 7 0), va_rf (if 0 < ns then some (ad 11 (ns - 1)) else none), .null])) h60) (fun i hi => ⟨lput_k _ _ (by omega), rfl⟩)
            have kx2 : ∃ ea' md' cap' f', e1 = eLst ea' (np - pf (ns - 1) + 1) md' ∧ b1 = ea' ∧ e2 = aR dT cap' f' ∧ (np - pf (ns - 1) + 1 ≤ cap' ∧ cap' ≤ 2000) ∧ (∀ k, k < np - pf (ns - 1) → f' k = some (ad 16 (pf (ns - 1) + k))) ∧ f' (np - pf (ns - 1)) = some q4 := by
              obtain ⟨ea', md', cap', f', k1, k2, k3, k4, k5, k6⟩ := kx
              exact ⟨ea', md', cap', f', k1, k2, k3, k4, fun k hk => (k5 k hk).trans (by rw [lput_j _ _ (show pf (ns - 1) + k ≠ np by omega)]), k6⟩
            have hF0 := nF_pos hW hb0 (j := 3) (by decide) hw3
            have s1 := (show wStr dT k3 ad L f wq3 (nF f en (wP f en bg 3)) (wP f en bg (3 + 1)) from ⟨g3, ⟨wa3, _, _, ⟨hs3.1, own_no x (hz3 hF0).1⟩, hs3.2, own_no x (hz3 hF0).2⟩, eg3⟩).lx y3.2
            subst hf6
            rw [eL] at x6 s1
            have r2 := RP_paw (p1 := 0) (e := en) (T := wP (A 6) en bg 1) (q := q4) (b := b1) (w1 := wq3) (w2 := wq3) r6 hns0 hns hnc hnp hnv (Or.inl rfl) (show nF (A 6) en (wP (A 6) en bg 3) ≤ 4000 by omega) (show wP (A 6) en bg 4 ≤ 4000 by omega) (show nF (A 6) en (wP (A 6) en bg 4) ≤ 4000 by omega) (show wP (A 6) en bg 5 ≤ 4000 by omega) rfl (by rw [q1, show (vNu (A 6) en (nT (A 6) en (wP (A 6) en bg 1))).toInt32 = _ from q2]; rfl) x6 kx2 s1 (by rw [if_neg (fun z => absurd z.1 (by decide))])
            rw [← eL] at r2
            refine ⟨_, _, xt, fun i => ⟨fun hi => by rw [lput_k _ _ (kK_n hi (n := 6) (by decide)), lput_k _ _ (kK_n hi (n := 13) (by decide)), lput_k _ _ (kK_n hi (n := 12) (by decide)), lput_k _ _ (kK_n hi (n := 16) (by decide))], fun hi => by rw [lput_k _ _ (kA_n hi (n := 13) (by decide)), lput_k _ _ (kA_n hi (n := 16) (by decide))]⟩, Or.inl ⟨(okPa_0 rfl hW hb0 nv).mpr ⟨nI_eqI (b := 4) (by have := hW.1; omega) (by decide) c3, l1, l2⟩, rfl, _, _, _, _, _, r2, h20, ?_⟩⟩
            rw [if_neg (Nat.lt_irrefl nc)]; rfl) (by omega) (by omega) d_Reader_takePut_62
  · skip
    refine mv_bq X (mv_rV (rest := []) (As := [.int 3]) gt_good C X k_5_54 (cm_Line_wordAtF hE hW.1 (j := 3) (by decide) (by omega) hlt (x.get (i := 7) (j := 0) h70)) (x.get (i := 7) (j := 0) h70) rfl rfl ⟨Nat.le_of_ble_eq_true rfl, Nat.le_of_ble_eq_true rfl⟩ rfl hl.1 rfl (Nat.le_of_ble_eq_true rfl) d_Reader_takePut_5 ⟨Nat.zero_le _, Nat.zero_le _⟩) (fun r11 hN H locs hp X => ?_)
    obtain ⟨eh, er⟩ := hp
    replace eh := eh.symm
    replace er := er.symm
    subst eh er
    change W _ _ _ _ _ _ _ _ _ _ _ _ _ _ _ (F0 _ _ _ (.ref lt :: _))
    refine lv_astore_n (lv' := [(2, .ref lt), (0, .ref (ad 6 0)), (1, .ref (ad 11 (ns - 1)))]) hx hb d_Reader_takePut_8 rfl hl (by decide) rfl (fun ls hl => ?_)
    refine lv_aload_n hx hb d_Reader_takePut_9 rfl (lv_at hl 1 rfl) ?_
    refine mv_get C X (x.get (i := 6) (j := 0) h60) 1 f_5_21_5 (v := .ref (ad 7 0)) rfl d_Reader_takePut_10 ?_
    refine mv_bi X (mv_rV (rest := []) (As := []) gt_good C X k_5_47 (cm_Line_wordCount hE (x.get (i := 7) (j := 0) h70)) (x.get (i := 7) (j := 0) h70) rfl rfl ⟨Nat.le_of_ble_eq_true rfl, Nat.le_of_ble_eq_true rfl⟩ rfl hl.1 rfl (Nat.le_of_ble_eq_true rfl) d_Reader_takePut_13 ⟨Nat.zero_le _, Nat.zero_le _⟩) (fun r12 hN H locs hp X => ?_)
    obtain ⟨eh, er⟩ := hp
    replace eh := eh.symm
    replace er := er.symm
    subst eh er
    refine lv_iconst (v := 4) hx hb d_Reader_takePut_16 (by decide) ?_
    refine lv_icmp_ne (tgt := 61) hx hb d_Reader_takePut_17 (by decide) (fun c13 => ?_) (fun z => absurd (nI_eqI (a := cw) (b := 4) (by have := hW.1; omega) (by decide) z) (by omega))
    refine lv_iconst (v := 0) hx hb d_Reader_takePut_61 (by decide) ?_
    exact mq_iret hQ C X hr rfl hlk (tkP_no x hR vfx.rf (Bool.eq_false_iff.mpr (fun z => absurd ((okPa_0 hf6 hW hb0 nv).mp z).1 (by omega)))) (by omega) (by omega) d_Reader_takePut_62
