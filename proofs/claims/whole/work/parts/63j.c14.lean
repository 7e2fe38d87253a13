theorem d_Reader_takeScreen_0 : decode prog_6_method_8_code 0 = .ok (.aload_n 0, 1) := by decide +kernel
theorem d_Reader_takeScreen_1 : decode prog_6_method_8_code 1 = .ok (.getfield 21, 3) := by decide +kernel
theorem d_Reader_takeScreen_4 : decode prog_6_method_8_code 4 = .ok (.iconst 1, 1) := by decide +kernel
theorem d_Reader_takeScreen_5 : decode prog_6_method_8_code 5 = .ok (.invokevirtual 112, 3) := by decide +kernel
theorem d_Reader_takeScreen_8 : decode prog_6_method_8_code 8 = .ok (.lstore_n 2, 1) := by decide +kernel
theorem d_Reader_takeScreen_9 : decode prog_6_method_8_code 9 = .ok (.aload_n 0, 1) := by decide +kernel
theorem d_Reader_takeScreen_10 : decode prog_6_method_8_code 10 = .ok (.getfield 21, 3) := by decide +kernel
theorem d_Reader_takeScreen_13 : decode prog_6_method_8_code 13 = .ok (.invokevirtual 47, 3) := by decide +kernel
theorem d_Reader_takeScreen_16 : decode prog_6_method_8_code 16 = .ok (.iconst 2, 1) := by decide +kernel
theorem d_Reader_takeScreen_17 : decode prog_6_method_8_code 17 = .ok (.if_icmp .ne 9, 3) := by decide +kernel
theorem d_Reader_takeScreen_20 : decode prog_6_method_8_code 20 = .ok (.lload_n 2, 1) := by decide +kernel
theorem d_Reader_takeScreen_21 : decode prog_6_method_8_code 21 = .ok (.lconst 0, 1) := by decide +kernel
theorem d_Reader_takeScreen_22 : decode prog_6_method_8_code 22 = .ok (.lcmp, 1) := by decide +kernel
theorem d_Reader_takeScreen_23 : decode prog_6_method_8_code 23 = .ok (.ifCond .ne 5, 3) := by decide +kernel
theorem d_Reader_takeScreen_26 : decode prog_6_method_8_code 26 = .ok (.iconst 0, 1) := by decide +kernel
theorem d_Reader_takeScreen_27 : decode prog_6_method_8_code 27 = .ok (.ireturn, 1) := by decide +kernel
theorem d_Reader_takeScreen_28 : decode prog_6_method_8_code 28 = .ok (.aload_n 0, 1) := by decide +kernel
theorem d_Reader_takeScreen_29 : decode prog_6_method_8_code 29 = .ok (.getfield 12, 3) := by decide +kernel
theorem d_Reader_takeScreen_32 : decode prog_6_method_8_code 32 = .ok (.getfield 149, 3) := by decide +kernel
theorem d_Reader_takeScreen_35 : decode prog_6_method_8_code 35 = .ok (.invokevirtual 142, 3) := by decide +kernel
theorem d_Reader_takeScreen_38 : decode prog_6_method_8_code 38 = .ok (.bipush 30, 2) := by decide +kernel
theorem d_Reader_takeScreen_40 : decode prog_6_method_8_code 40 = .ok (.if_icmp .ge 14, 3) := by decide +kernel
theorem d_Reader_takeScreen_43 : decode prog_6_method_8_code 43 = .ok (.aload_n 0, 1) := by decide +kernel
theorem d_Reader_takeScreen_44 : decode prog_6_method_8_code 44 = .ok (.getfield 12, 3) := by decide +kernel
theorem d_Reader_takeScreen_47 : decode prog_6_method_8_code 47 = .ok (.lload_n 2, 1) := by decide +kernel
theorem d_Reader_takeScreen_48 : decode prog_6_method_8_code 48 = .ok (.invokevirtual 152, 3) := by decide +kernel
theorem d_Reader_takeScreen_51 : decode prog_6_method_8_code 51 = .ok (.ifCond .eq 5, 3) := by decide +kernel
theorem d_Reader_takeScreen_54 : decode prog_6_method_8_code 54 = .ok (.iconst 0, 1) := by decide +kernel
theorem d_Reader_takeScreen_55 : decode prog_6_method_8_code 55 = .ok (.ireturn, 1) := by decide +kernel
theorem d_Reader_takeScreen_56 : decode prog_6_method_8_code 56 = .ok (.aload_n 0, 1) := by decide +kernel
theorem d_Reader_takeScreen_57 : decode prog_6_method_8_code 57 = .ok (.new 156, 3) := by decide +kernel
theorem d_Reader_takeScreen_60 : decode prog_6_method_8_code 60 = .ok (.dup, 1) := by decide +kernel
theorem d_Reader_takeScreen_61 : decode prog_6_method_8_code 61 = .ok (.lload_n 2, 1) := by decide +kernel
theorem d_Reader_takeScreen_62 : decode prog_6_method_8_code 62 = .ok (.iload_n 1, 1) := by decide +kernel
theorem d_Reader_takeScreen_63 : decode prog_6_method_8_code 63 = .ok (.invokespecial 158, 3) := by decide +kernel
theorem d_Reader_takeScreen_66 : decode prog_6_method_8_code 66 = .ok (.putfield 25, 3) := by decide +kernel
theorem d_Reader_takeScreen_69 : decode prog_6_method_8_code 69 = .ok (.aload_n 0, 1) := by decide +kernel
theorem d_Reader_takeScreen_70 : decode prog_6_method_8_code 70 = .ok (.getfield 12, 3) := by decide +kernel
theorem d_Reader_takeScreen_73 : decode prog_6_method_8_code 73 = .ok (.getfield 149, 3) := by decide +kernel
theorem d_Reader_takeScreen_76 : decode prog_6_method_8_code 76 = .ok (.aload_n 0, 1) := by decide +kernel
theorem d_Reader_takeScreen_77 : decode prog_6_method_8_code 77 = .ok (.getfield 25, 3) := by decide +kernel
theorem d_Reader_takeScreen_80 : decode prog_6_method_8_code 80 = .ok (.invokevirtual 129, 3) := by decide +kernel
theorem d_Reader_takeScreen_83 : decode prog_6_method_8_code 83 = .ok (.pop, 1) := by decide +kernel
theorem d_Reader_takeScreen_84 : decode prog_6_method_8_code 84 = .ok (.aload_n 0, 1) := by decide +kernel
theorem d_Reader_takeScreen_85 : decode prog_6_method_8_code 85 = .ok (.aconst_null, 1) := by decide +kernel
theorem d_Reader_takeScreen_86 : decode prog_6_method_8_code 86 = .ok (.putfield 29, 3) := by decide +kernel
theorem d_Reader_takeScreen_89 : decode prog_6_method_8_code 89 = .ok (.iconst 1, 1) := by decide +kernel
theorem d_Reader_takeScreen_90 : decode prog_6_method_8_code 90 = .ok (.ireturn, 1) := by decide +kernel
set_option maxRecDepth 100000 in
set_option maxHeartbeats 4000000 in
theorem cm_Reader_takeScreen {l : Launch} {S0 : State} {b : Nat} {D : va_G} {dT : Nat → ClassId} (hE : vEnv S0 b D dT) {dE mO : Nat} (hJ : vJ S0 dE mO) {h0 : vH} {hcv : vH} {ad : Nat → Nat → Nat} {L : vL} {rc : Int32} {A : Nat → Nat → Int32} {B : Nat → Nat → Int64} {nv ns np nc : Nat} {pf cb ce cs : Nat → Nat} {c0 : Nat} (x : LH S0.heap.size hcv h0 ad L) (hcE : ∃ fE, hcv dE = some (aR dT 0 fE)) (hR : PR dT dE h0 ad L A B nv ns np nc pf cb ce cs c0 rc) (hnv : nv ≤ 40) (hns : ns ≤ 30) (hnp : np ≤ 600) (hnc : nc ≤ 600) {f : Nat → Int32} {N en bg cw : Nat} (hT : PT dT S0.heap.size h0 ad L f N en bg cw) (hf6 : A 6 = f) {ln : Int32} (hln : ∃ l, ln = nI l ∧ 1 ≤ l ∧ l ≤ 5000) : vMi l S0 D vcl GT y_Reader_takeScreen prog_6_method_8_code 4 (some .boolean) 7 161 5 (45 + 2 * ns) [.ref (ad 6 0), .int ln] h0 (fun r h' => tkP dT dE S0.heap.size hcv h0 ad L rc A B nv ns np nc pf cb ce cs c0 (okSc A en (wP f en bg 1) ns) (scA A en (wP f en bg 1) ns ln) (va_up B 24 (vp_updL (B 24) (ns + 1) 1000)) nv (ns + 1) np nc r h') := by
  unfold vMi
  refine vM_ofQ hE.1 (by decide) (Nat.le_of_ble_eq_true rfl) (fun p e s m args below meth c ls Q hQ C hr hlk hnm X hl => ?_)
  have C : vC p s m _ c _ _ "MenuScreens$Reader" GT D vcl (vty dT) := C
  have hx := C.1.1
  have hb := C.1.2.1
  obtain ⟨H, eH⟩ : ∃ z, z = s.heap := ⟨_, rfl⟩
  obtain ⟨locs, elocs⟩ : ∃ z : List Loc, z = [] := ⟨_, rfl⟩
  rw [← eH, ← elocs] at X
  rw [← eH, ← elocs]
  clear eH elocs
  have hl : lv_has ls 4 [(0, .ref (ad 6 0)), (1, .int ln)] := hl
  have hR0 := hR
  obtain ⟨hRP, h20, h60⟩ := hR0
  obtain ⟨t, tv, z2, z3, f8, fs, fe, ⟨kt, ot⟩, ⟨ktv, otv⟩, wtv, h70, h71, h72, hW, hb0, he, hN, hg⟩ := hT
  have hN0 := hN
  obtain ⟨fE, hcE2⟩ := hcE
  obtain ⟨ea, cap, fl, md, hL, hfl, hLL, hea⟩ := hRP.2.1.1.hp x hcE2
  obtain ⟨kl, wl, ke, ⟨hncap, hcap⟩, hd⟩ := hL
  refine lv_aload_n hx hb d_Reader_takeScreen_0 rfl (lv_at hl 0 rfl) ?_
  refine mv_get C X (x.get (i := 6) (j := 0) h60) 1 f_5_21_5 (v := .ref (ad 7 0)) rfl d_Reader_takeScreen_1 ?_
  refine lv_iconst (v := 1) hx hb d_Reader_takeScreen_4 (by decide) ?_
  refine mv_bl X (mv_rV (rest := []) (As := [.int 1]) gt_good C X k_5_112 (cm_Line_nameAt hE hJ hW hb0 he hN0 hg (j := 1) (by decide) (x.get (i := 7) (j := 0) h70) (x.get (i := 7) (j := 1) h71) (x.get (i := 7) (j := 2) h72) kt ktv) (x.get (i := 7) (j := 0) h70) rfl rfl ⟨Nat.le_of_ble_eq_true rfl, Nat.le_of_ble_eq_true rfl⟩ rfl hl.1 rfl (Nat.le_of_ble_eq_true rfl) d_Reader_takeScreen_5 ⟨Nat.zero_le _, Nat.zero_le _⟩) (fun r1 hN H locs hp X => ?_)
  obtain ⟨eh, er⟩ := hp
  replace eh := eh.symm
  replace er := er.symm
  subst eh er
  refine lv_lstore_n (lv' := [(2, .long (cNa f en bg cw 1)), (0, .ref (ad 6 0)), (1, .int ln)]) hx hb d_Reader_takeScreen_8 rfl hl (by decide) rfl (fun ls hl => ?_)
  refine lv_aload_n hx hb d_Reader_takeScreen_9 rfl (lv_at hl 1 rfl) ?_
  refine mv_get C X (x.get (i := 6) (j := 0) h60) 1 f_5_21_5 (v := .ref (ad 7 0)) rfl d_Reader_takeScreen_10 ?_
  refine mv_bi X (mv_rV (rest := []) (As := []) gt_good C X k_5_47 (cm_Line_wordCount hE (x.get (i := 7) (j := 0) h70)) (x.get (i := 7) (j := 0) h70) rfl rfl ⟨Nat.le_of_ble_eq_true rfl, Nat.le_of_ble_eq_true rfl⟩ rfl hl.1 rfl (Nat.le_of_ble_eq_true rfl) d_Reader_takeScreen_13 ⟨Nat.zero_le _, Nat.zero_le _⟩) (fun r2 hN H locs hp X => ?_)
  obtain ⟨eh, er⟩ := hp
  replace eh := eh.symm
  replace er := er.symm
  subst eh er
  refine lv_iconst (v := 2) hx hb d_Reader_takeScreen_16 (by decide) ?_
  refine lv_icmp_ne (tgt := 26) hx hb d_Reader_takeScreen_17 (by decide) (fun c3 => ?_) (fun c3 => ?_)
  · skip
    refine lv_iconst (v := 0) hx hb d_Reader_takeScreen_26 (by decide) ?_
    exact mq_iret hQ C X hr rfl hlk (tkP_no x hR vfx.rf (Bool.eq_false_iff.mpr (fun z => absurd ((okSc_c hf6 hW hb0 hRP.2.2.2.2.2.2.1 hns).mp z).1 (fun y => c3 (by rw [y]; rfl))))) (by omega) (by omega) d_Reader_takeScreen_27
  · skip
    refine lv_lload_n hx hb d_Reader_takeScreen_20 rfl (lv_at hl 0 rfl) ?_
    refine lv_lconst (v := 0) hx hb d_Reader_takeScreen_21 (by decide) ?_
    refine W.lcmp hx hb d_Reader_takeScreen_22 ?_
    refine lv_if_ne (tgt := 28) hx hb d_Reader_takeScreen_23 (by decide) (fun c4 => ?_) (fun c4 => ?_)
    · skip
      refine lv_aload_n hx hb d_Reader_takeScreen_28 rfl (lv_at hl 1 rfl) ?_
      refine mv_get C X (x.get (i := 6) (j := 0) h60) 0 f_5_12_5 (v := .ref (ad 2 0)) rfl d_Reader_takeScreen_29 ?_
      refine mv_get C X (x.get (i := 2) (j := 0) h20) 1 f_5_149_4 (v := .ref (ad 4 0)) rfl d_Reader_takeScreen_32 ?_
      refine mv_bi X (mv_rV (rest := []) (As := []) gt_good C X k_5_142 (cm_ArrayList_size hE kl) kl rfl rfl ⟨Nat.le_of_ble_eq_true rfl, Nat.le_of_ble_eq_true rfl⟩ rfl hl.1 rfl (Nat.le_of_ble_eq_true rfl) d_Reader_takeScreen_35 ⟨Nat.zero_le _, Nat.zero_le _⟩) (fun r5 hN H locs hp X => ?_)
      obtain ⟨eh, er⟩ := hp
      replace eh := eh.symm
      replace er := er.symm
      subst eh er
      refine lv_bipush (v := 30) hx hb d_Reader_takeScreen_38 (by decide) ?_
      refine lv_icmp_ge (tgt := 54) hx hb d_Reader_takeScreen_40 (by decide) (fun c6 => ?_) (fun c6 => ?_)
      · skip
        refine lv_iconst (v := 0) hx hb d_Reader_takeScreen_54 (by decide) ?_
        exact mq_iret hQ C X hr rfl hlk (tkP_no x hR vfx.rf (Bool.eq_false_iff.mpr (fun z => absurd (nI_lt (b := 30) ((okSc_c hf6 hW hb0 hRP.2.2.2.2.2.2.1 hns).mp z).2.2.1 (by decide)) (Int32.not_lt.mpr c6)))) (by omega) (by omega) d_Reader_takeScreen_55
      · skip
        refine lv_aload_n hx hb d_Reader_takeScreen_43 rfl (lv_at hl 1 rfl) ?_
        refine mv_get C X (x.get (i := 6) (j := 0) h60) 0 f_5_12_5 (v := .ref (ad 2 0)) rfl d_Reader_takeScreen_44 ?_
        refine lv_lload_n hx hb d_Reader_takeScreen_47 rfl (lv_at hl 0 rfl) ?_
        refine mv_bi X (mv_rV (rest := []) (As := [.long (cNa f en bg cw 1)]) gt_good C X k_5_152 (cm_Plan_screenNumberOf hE (nf := nmV A 21 22) (g := ad 11) hncap (by omega) hfl (fun k hk => x.get (hRP.2.1.2 k hk).1) (x.get h20) kl ke) (x.get (i := 2) (j := 0) h20) rfl rfl ⟨Nat.le_of_ble_eq_true rfl, Nat.le_of_ble_eq_true rfl⟩ rfl hl.1 rfl (Nat.le_of_ble_eq_true rfl) d_Reader_takeScreen_48 ⟨Nat.zero_le _, Nat.zero_le _⟩) (fun r7 hN H locs hp X => ?_)
        obtain ⟨eh, er⟩ := hp
        replace eh := eh.symm
        replace er := er.symm
        subst eh er
        refine lv_if_eq (tgt := 56) hx hb d_Reader_takeScreen_51 (by decide) (fun c8 => ?_) (fun c8 => ?_)
        · skip
          refine lv_aload_n hx hb d_Reader_takeScreen_56 rfl (lv_at hl 1 rfl) ?_
          refine mv_new C X n_5_156 (by show 0 + 1 ≤ 5; omega) (by show 0 + 7 ≤ (45 + 2 * ns); omega) d_Reader_takeScreen_57 (fun q9 H z_q9 w_q9 X => ?_)
          have n_t_q9 : t ≠ q9 := vnf kt z_q9
          have n_tv_q9 : tv ≠ q9 := vnf ktv z_q9
          have n__ad_2_0__q9 : (ad 2 0) ≠ q9 := vnf (x.get (i := 2) (j := 0) h20) z_q9
          have n__ad_6_0__q9 : (ad 6 0) ≠ q9 := vnf (x.get (i := 6) (j := 0) h60) z_q9
          have n__ad_7_0__q9 : (ad 7 0) ≠ q9 := vnf (x.get (i := 7) (j := 0) h70) z_q9
          have n__ad_7_1__q9 : (ad 7 1) ≠ q9 := vnf (x.get (i := 7) (j := 1) h71) z_q9
          have n__ad_7_2__q9 : (ad 7 2) ≠ q9 := vnf (x.get (i := 7) (j := 2) h72) z_q9
          have n__ad_4_0__q9 : (ad 4 0) ≠ q9 := vnf kl z_q9
          have n_ea_q9 : ea ≠ q9 := vnf ke z_q9
          have X : vO S0 D vcl (vup h0 q9 (.inr (9, [.long 0, .int 0, .null, .null, .null, .int 0, .int 0]))) s H locs := X
          change W _ _ _ _ _ _ _ _ _ _ _ _ (0 + 1) (0 + 7) _ _
          refine lv_dup hx hb d_Reader_takeScreen_60 rfl ?_
          refine lv_lload_n hx hb d_Reader_takeScreen_61 rfl (lv_at hl 0 rfl) ?_
          refine lv_iload_n hx hb d_Reader_takeScreen_62 rfl (lv_at hl 2 rfl) ?_
          refine mv_bv X (mv_rI (rest := [.ref q9, .ref (ad 6 0)]) (As := [.long (cNa f en bg cw 1), .int ln]) gt_good C X k_5_158 (cm_Screen_init hE hJ (vup_s _ _ _) w_q9) ⟨Nat.le_of_ble_eq_true rfl, Nat.le_of_ble_eq_true rfl⟩ rfl hl.1 rfl (Nat.le_of_ble_eq_true rfl) d_Reader_takeScreen_63 ⟨by show (0 + 1) + 3 ≤ 5; omega, by show (0 + 7) + 23 ≤ (45 + 2 * ns); omega⟩) (fun hN H locs hp X => ?_)
          obtain ⟨q12, q14, q15, ⟨z12, w12⟩, ⟨z14, w14⟩, ⟨z15, w15⟩, ⟨n1, n2, n3⟩, eh⟩ := hp
          replace eh := eh.symm
          subst eh
          have n_t_q12 : t ≠ q12 := vnf ((vup_n _ _ n_t_q9).trans kt) z12
          have n_t_q14 : t ≠ q14 := vnf ((vup_n _ _ n_t_q9).trans kt) z14
          have n_t_q15 : t ≠ q15 := vnf ((vup_n _ _ n_t_q9).trans kt) z15
          have n_tv_q12 : tv ≠ q12 := vnf ((vup_n _ _ n_tv_q9).trans ktv) z12
          have n_tv_q14 : tv ≠ q14 := vnf ((vup_n _ _ n_tv_q9).trans ktv) z14
          have n_tv_q15 : tv ≠ q15 := vnf ((vup_n _ _ n_tv_q9).trans ktv) z15
          have n__ad_2_0__q12 : (ad 2 0) ≠ q12 := vnf ((vup_n _ _ n__ad_2_0__q9).trans (x.get (i := 2) (j := 0) h20)) z12
          have n__ad_2_0__q14 : (ad 2 0) ≠ q14 := vnf ((vup_n _ _ n__ad_2_0__q9).trans (x.get (i := 2) (j := 0) h20)) z14
          have n__ad_2_0__q15 : (ad 2 0) ≠ q15 := vnf ((vup_n _ _ n__ad_2_0__q9).trans (x.get (i := 2) (j := 0) h20)) z15
          have n__ad_6_0__q12 : (ad 6 0) ≠ q12 := vnf ((vup_n _ _ n__ad_6_0__q9).trans (x.get (i := 6) (j := 0) h60)) z12
          have n__ad_6_0__q14 : (ad 6 0) ≠ q14 := vnf ((vup_n _ _ n__ad_6_0__q9).trans (x.get (i := 6) (j := 0) h60)) z14
          have n__ad_6_0__q15 : (ad 6 0) ≠ q15 := vnf ((vup_n _ _ n__ad_6_0__q9).trans (x.get (i := 6) (j := 0) h60)) z15
          have n__ad_7_0__q12 : (ad 7 0) ≠ q12 := vnf ((vup_n _ _ n__ad_7_0__q9).trans (x.get (i := 7) (j := 0) h70)) z12
          have n__ad_7_0__q14 : (ad 7 0) ≠ q14 := vnf ((vup_n _ _ n__ad_7_0__q9).trans (x.get (i := 7) (j := 0) h70)) z14
          have n__ad_7_0__q15 : (ad 7 0) ≠ q15 := vnf ((vup_n _ _ n__ad_7_0__q9).trans (x.get (i := 7) (j := 0) h70)) z15
          have n__ad_7_1__q12 : (ad 7 1) ≠ q12 := vnf ((vup_n _ _ n__ad_7_1__q9).trans (x.get (i := 7) (j := 1) h71)) z12
          have n__ad_7_1__q14 : (ad 7 1) ≠ q14 := vnf ((vup_n _ _ n__ad_7_1__q9).trans (x.get (i := 7) (j := 1) h71)) z14
          have n__ad_7_1__q15 : (ad 7 1) ≠ q15 := vnf ((vup_n _ _ n__ad_7_1__q9).trans (x.get (i := 7) (j := 1) h71)) z15
          have n__ad_7_2__q12 : (ad 7 2) ≠ q12 := vnf ((vup_n _ _ n__ad_7_2__q9).trans (x.get (i := 7) (j := 2) h72)) z12
          have n__ad_7_2__q14 : (ad 7 2) ≠ q14 := vnf ((vup_n _ _ n__ad_7_2__q9).trans (x.get (i := 7) (j := 2) h72)) z14
          have n__ad_7_2__q15 : (ad 7 2) ≠ q15 := vnf ((vup_n _ _ n__ad_7_2__q9).trans (x.get (i := 7) (j := 2) h72)) z15
          have n__ad_4_0__q12 : (ad 4 0) ≠ q12 := vnf ((vup_n _ _ n__ad_4_0__q9).trans kl) z12
          have n__ad_4_0__q14 : (ad 4 0) ≠ q14 := vnf ((vup_n _ _ n__ad_4_0__q9).trans kl) z14
          have n__ad_4_0__q15 : (ad 4 0) ≠ q15 := vnf ((vup_n _ _ n__ad_4_0__q9).trans kl) z15
          have n_ea_q12 : ea ≠ q12 := vnf ((vup_n _ _ n_ea_q9).trans ke) z12
          have n_ea_q14 : ea ≠ q14 := vnf ((vup_n _ _ n_ea_q9).trans ke) z14
          have n_ea_q15 : ea ≠ q15 := vnf ((vup_n _ _ n_ea_q9).trans ke) z15
          have n_q9_q12 : q9 ≠ q12 := vnf (vup_s _ _ _) z12
          have n_q9_q14 : q9 ≠ q14 := vnf (vup_s _ _ _) z14
          have n_q9_q15 : q9 ≠ q15 := vnf (vup_s _ _ _) z15
          have X : vO S0 D vcl (vup (vup (vup (vup (vup h0 q9 (.inr (9, [.long 0, .int 0, .null, .null, .null, .int 0, .int 0]))) q12 (.inr (2, [.ref dE, .int (nI 0), .int 0]))) q14 (.inl (dT 1, 10, .inr (.inl (fun _ => 0))))) q15 (.inl (dT 0, 10, .inl (fun _ => 0)))) q9 (.inr (9, [.long (cNa f en bg cw 1), .int ln, .ref q12, .ref q14, .ref q15, .int 999, .int 0]))) s H locs := X
          refine mv_put C X ((vup_n _ _ n__ad_6_0__q9).trans ((vup_n _ _ n__ad_6_0__q15).trans ((vup_n _ _ n__ad_6_0__q14).trans ((vup_n _ _ n__ad_6_0__q12).trans ((vup_n _ _ n__ad_6_0__q9).trans (x.get (i := 6) (j := 0) h60)))))) (x.wr (i := 6) (j := 0) h60) 2 p_5_25_5 rfl rfl (Nat.le_of_ble_eq_true rfl) d_Reader_takeScreen_66 (fun H locs X => ?_)
          have X : vO S0 D vcl (vup (vup (vup (vup (vup (vup h0 q9 (.inr (9, [.long 0, .int 0, .null, .null, .null, .int 0, .int 0]))) q12 (.inr (2, [.ref dE, .int (nI 0), .int 0]))) q14 (.inl (dT 1, 10, .inr (.inl (fun _ => 0))))) q15 (.inl (dT 0, 10, .inl (fun _ => 0)))) q9 (.inr (9, [.long (cNa f en bg cw 1), .int ln, .ref q12, .ref q14, .ref q15, .int 999, .int 0]))) (ad 6 0) (.inr (5, [.ref (ad 2 0), .ref (ad 7 0), .ref q9, va_rf (if c0 < nc then some (ad 17 (nc - 1)) else none)]))) s H locs := X
          refine lv_aload_n hx hb d_Reader_takeScreen_69 rfl (lv_at hl 1 rfl) ?_
          refine mv_get C X (vup_s _ _ _) 0 f_5_12_5 (v := .ref (ad 2 0)) rfl d_Reader_takeScreen_70 ?_
          refine mv_get C X ((vup_n _ _ (x.ni h20 h60 (by decide))).trans ((vup_n _ _ n__ad_2_0__q9).trans ((vup_n _ _ n__ad_2_0__q15).trans ((vup_n _ _ n__ad_2_0__q14).trans ((vup_n _ _ n__ad_2_0__q12).trans ((vup_n _ _ n__ad_2_0__q9).trans (x.get (i := 2) (j := 0) h20))))))) 1 f_5_149_4 (v := .ref (ad 4 0)) rfl d_Reader_takeScreen_73 ?_
          refine lv_aload_n hx hb d_Reader_takeScreen_76 rfl (lv_at hl 1 rfl) ?_
          refine mv_get C X (vup_s _ _ _) 2 f_5_25_5 (v := .ref q9) rfl d_Reader_takeScreen_77 ?_
          have x5 : LR S0.heap.size hcv h0 ad L (vup (vup (vup (vup h0 q9 (.inr (9, [.long 0, .int 0, .null, .null, .null, .int 0, .int 0]))) q12 (.inr (2, [.ref dE, .int (nI 0), .int 0]))) q14 (.inl (dT 1, 10, .inr (.inl (fun _ => 0))))) q15 (.inl (dT 0, 10, .inl (fun _ => 0)))) (lput (lput (lput (lput ad 11 ns q9) 12 ns q12) 14 ns q14) 15 ns q15) (lput (lput (lput (lput L 11 ns (some (.inr (9, [.long 0, .int 0, .null, .null, .null, .int 0, .int 0])))) 12 ns (some (.inr (2, [.ref dE, .int (nI 0), .int 0])))) 14 ns (some (.inl (dT 1, 10, .inr (.inl (fun _ => 0)))))) 15 ns (some (.inl (dT 0, 10, .inl (fun _ => 0))))) := ((((LR.of x).new 11 ns z_q9 w_q9).new 12 ns z12 w12).new 14 ns ((vup_n _ _ (Ne.symm n1)).trans z14) w14).new 15 ns ((vup_n _ _ (Ne.symm n3)).trans ((vup_n _ _ (Ne.symm n2)).trans z15)) w15
          have ea5 : (lput (lput (lput (lput ad 11 ns q9) 12 ns q12) 14 ns q14) 15 ns q15) 11 ns = q9 := by simp [lput]
          have x6 := x5.put (i := 11) (j := ns) (e := .inr (9, [.long 0, .int 0, .null, .null, .null, .int 0, .int 0])) (e' := .inr (9, [.long (cNa f en bg cw 1), .int ln, .ref q12, .ref q14, .ref q15, .int 999, .int 0])) (by simp [lput])
          rw [ea5] at x6
          have x7 : LR S0.heap.size hcv h0 ad L (vup (vup (vup (vup (vup (vup h0 q9 (.inr (9, [.long 0, .int 0, .null, .null, .null, .int 0, .int 0]))) q12 (.inr (2, [.ref dE, .int (nI 0), .int 0]))) q14 (.inl (dT 1, 10, .inr (.inl (fun _ => 0))))) q15 (.inl (dT 0, 10, .inl (fun _ => 0)))) q9 (.inr (9, [.long (cNa f en bg cw 1), .int ln, .ref q12, .ref q14, .ref q15, .int 999, .int 0]))) (ad 6 0) (.inr (5, [.ref (ad 2 0), .ref (ad 7 0), .ref q9, va_rf (if c0 < nc then some (ad 17 (nc - 1)) else none)]))) (lput (lput (lput (lput ad 11 ns q9) 12 ns q12) 14 ns q14) 15 ns q15) (lput (lput (lput (lput (lput (lput L 11 ns (some (.inr (9, [.long 0, .int 0, .null, .null, .null, .int 0, .int 0])))) 12 ns (some (.inr (2, [.ref dE, .int (nI 0), .int 0])))) 14 ns (some (.inl (dT 1, 10, .inr (.inl (fun _ => 0)))))) 15 ns (some (.inl (dT 0, 10, .inl (fun _ => 0))))) 11 ns (some (.inr (9, [.long (cNa f en bg cw 1), .int ln, .ref q12, .ref q14, .ref q15, .int 999, .int 0])))) 6 0 (some (.inr (5, [.ref (ad 2 0), .ref (ad 7 0), .ref q9, va_rf (if c0 < nc then some (ad 17 (nc - 1)) else none)])))) := x6.put (i := 6) (j := 0) h60
          have hr7 : rLst dT dE (lput (lput (lput (lput ad 11 ns q9) 12 ns q12) 14 ns q14) 15 ns q15) (lput (lput (lput (lput (lput (lput L 11 ns (some (.inr (9, [.long 0, .int 0, .null, .null, .null, .int 0, .int 0])))) 12 ns (some (.inr (2, [.ref dE, .int (nI 0), .int 0])))) 14 ns (some (.inl (dT 1, 10, .inr (.inl (fun _ => 0)))))) 15 ns (some (.inl (dT 0, 10, .inl (fun _ => 0))))) 11 ns (some (.inr (9, [.long (cNa f en bg cw 1), .int ln, .ref q12, .ref q14, .ref q15, .int 999, .int 0])))) 6 0 (some (.inr (5, [.ref (ad 2 0), .ref (ad 7 0), .ref q9, va_rf (if c0 < nc then some (ad 17 (nc - 1)) else none)])))) 4 31 0 ns (ad 11) := hRP.2.1.1.kept rfl rfl rfl (fun _ _ => rfl)
          obtain ⟨ea7, cap7, fl7, md7, hL7, hfl7, hLL7, hea7⟩ := hr7.hp x7.1 hcE2
          have hv7 : ∀ k, k < ns → ∃ ci fs, (vup (vup (vup (vup (vup (vup h0 q9 (.inr (9, [.long 0, .int 0, .null, .null, .null, .int 0, .int 0]))) q12 (.inr (2, [.ref dE, .int (nI 0), .int 0]))) q14 (.inl (dT 1, 10, .inr (.inl (fun _ => 0))))) q15 (.inl (dT 0, 10, .inl (fun _ => 0)))) q9 (.inr (9, [.long (cNa f en bg cw 1), .int ln, .ref q12, .ref q14, .ref q15, .int 999, .int 0]))) (ad 6 0) (.inr (5, [.ref (ad 2 0), .ref (ad 7 0), .ref q9, va_rf (if c0 < nc then some (ad 17 (nc - 1)) else none)]))) (ad 11 k) = some (.inr (ci, fs)) ∧ (ci = 8 ∨ ci = 9 ∨ ci = 10 ∨ ci = 11) := fun k hk => by
            have h1 := x7.1.get (i := 11) (j := k) ((show (lput (lput (lput (lput (lput (lput L 11 ns (some (.inr (9, [.long 0, .int 0, .null, .null, .null, .int 0, .int 0])))) 12 ns (some (.inr (2, [.ref dE, .int (nI 0), .int 0])))) 14 ns (some (.inl (dT 1, 10, .inr (.inl (fun _ => 0)))))) 15 ns (some (.inl (dT 0, 10, .inl (fun _ => 0))))) 11 ns (some (.inr (9, [.long (cNa f en bg cw 1), .int ln, .ref q12, .ref q14, .ref q15, .int 999, .int 0])))) 6 0 (some (.inr (5, [.ref (ad 2 0), .ref (ad 7 0), .ref q9, va_rf (if c0 < nc then some (ad 17 (nc - 1)) else none)])))) 11 k = L 11 k by simp [lput, show k ≠ ns by omega]).trans (hRP.2.1.2 k hk).1)
            rw [show (lput (lput (lput (lput ad 11 ns q9) 12 ns q12) 14 ns q14) 15 ns q15) 11 k = ad 11 k by simp [lput, show k ≠ ns by omega]] at h1
            exact ⟨9, _, h1, Or.inr (Or.inl rfl)⟩
          refine mv_bi X (mv_rV (rest := []) (As := [.ref q9]) gt_good C X k_5_129 (cm_AL_add_9 hE hJ hL7 (elO_of hfl7 hv7) ((vup_n _ _ (Ne.symm n__ad_6_0__q9)).trans (vup_s _ _ _))) hL7.1 rfl rfl ⟨Nat.le_of_ble_eq_true rfl, Nat.le_of_ble_eq_true rfl⟩ rfl hl.1 rfl (Nat.le_of_ble_eq_true rfl) d_Reader_takeScreen_80 ⟨by show ((0 + 1) + 3) + 1 ≤ 5; omega, by show ((0 + 7) + 23) + (10 + 2 * ns) ≤ (45 + 2 * ns); omega⟩) (fun r11 hN H locs hp X => ?_)
          obtain ⟨er, hadd⟩ := hp
          subst er
          obtain ⟨b1, e1, e2, x8, kx⟩ := lst_add x7 (by decide) hLL7 hea7 hL7.2.2.1 hL7.2.2.2.1.2 (by omega) (x.1 _ _ hcE2).1 hfl7 hadd
          have h68 : lput (lput (lput (lput (lput (lput (lput (lput L 11 ns (some (.inr (9, [.long 0, .int 0, .null, .null, .null, .int 0, .int 0])))) 12 ns (some (.inr (2, [.ref dE, .int (nI 0), .int 0])))) 14 ns (some (.inl (dT 1, 10, .inr (.inl (fun _ => 0)))))) 15 ns (some (.inl (dT 0, 10, .inl (fun _ => 0))))) 11 ns (some (.inr (9, [.long (cNa f en bg cw 1), .int ln, .ref q12, .ref q14, .ref q15, .int 999, .int 0])))) 6 0 (some (.inr (5, [.ref (ad 2 0), .ref (ad 7 0), .ref q9, va_rf (if c0 < nc then some (ad 17 (nc - 1)) else none)])))) 4 0 (some e1)) 31 0 (some e2) 6 0 = some (.inr (5, [.ref (ad 2 0), .ref (ad 7 0), .ref q9, va_rf (if c0 < nc then some (ad 17 (nc - 1)) else none)])) := rfl
          refine lv_pop hx hb d_Reader_takeScreen_83 rfl ?_
          refine lv_aload_n hx hb d_Reader_takeScreen_84 rfl (lv_at hl 1 rfl) ?_
          refine lv_null hx hb d_Reader_takeScreen_85 ?_
          refine mv_put C X (x8.1.get (i := 6) (j := 0) h68) (x8.1.wr (i := 6) (j := 0) h68) 3 p_5_29_5 rfl rfl (Nat.le_of_ble_eq_true rfl) d_Reader_takeScreen_86 (fun H locs X => ?_)
          have X : vO S0 D vcl (vup hN (ad 6 0) (.inr (5, [.ref (ad 2 0), .ref (ad 7 0), .ref q9, .null]))) s H locs := X
          refine lv_iconst (v := 1) hx hb d_Reader_takeScreen_89 (by decide) ?_
          exact mq_iret hQ C X hr rfl hlk (by
              have n1' : cNa f en bg cw 1 ≠ 0 := fun z => c4 ((lg_cmp_eq _ _).mpr z)
              obtain ⟨-, hnm, eNa⟩ := cNa_lt n1'
              have hvs : vfd (nmV A 21 22) ns (cNa f en bg cw 1) ≤ ns := by
                rcases fnd_in (fun v => decide (nmV A 21 22 v = cNa f en bg cw 1)) ns 1 with z | z
                · have z0 : vfd (nmV A 21 22) ns (cNa f en bg cw 1) = 0 := z
                  omega
                · have z2 : vfd (nmV A 21 22) ns (cNa f en bg cw 1) < 1 + ns := z.2.1
                  omega
              have hv0 : vfd (nmV A 21 22) ns (cNa f en bg cw 1) = 0 := nI_eqI (b := 0) (by omega) (by decide) c8
              have hns3 : ns < 30 := (nI_ltI (b := 30) (by omega) (by decide)).mp (Int32.not_le.mp c6)
              have hwi := wP_in (f := f) hb0 1
              have hti := nT_in f hwi.2
              have x9 : LR S0.heap.size hcv h0 ad L (vup hN (ad 6 0) (.inr (5, [.ref (ad 2 0), .ref (ad 7 0), .ref q9, .null]))) (lput (lput (lput (lput (lput ad 11 ns q9) 12 ns q12) 14 ns q14) 15 ns q15) 31 0 b1) (lput (lput (lput (lput (lput (lput (lput (lput (lput L 11 ns (some (.inr (9, [.long 0, .int 0, .null, .null, .null, .int 0, .int 0])))) 12 ns (some (.inr (2, [.ref dE, .int (nI 0), .int 0])))) 14 ns (some (.inl (dT 1, 10, .inr (.inl (fun _ => 0)))))) 15 ns (some (.inl (dT 0, 10, .inl (fun _ => 0))))) 11 ns (some (.inr (9, [.long (cNa f en bg cw 1), .int ln, .ref q12, .ref q14, .ref q15, .int 999, .int 0])))) 6 0 (some (.inr (5, [.ref (ad 2 0), .ref (ad 7 0), .ref q9, va_rf (if c0 < nc then some (ad 17 (nc - 1)) else none)])))) 4 0 (some e1)) 31 0 (some e2)) 6 0 (some (.inr (5, [.ref (ad 2 0), .ref (ad 7 0), .ref q9, .null])))) := x8.put (i := 6) (j := 0) h68
              have eL : lput (lput (lput (lput (lput (lput (lput (lput (lput L 11 ns (some (.inr (9, [.long 0, .int 0, .null, .null, .null, .int 0, .int 0])))) 12 ns (some (.inr (2, [.ref dE, .int (nI 0), .int 0])))) 14 ns (some (.inl (dT 1, 10, .inr (.inl (fun _ => 0)))))) 15 ns (some (.inl (dT 0, 10, .inl (fun _ => 0))))) 11 ns (some (.inr (9, [.long (cNa f en bg cw 1), .int ln, .ref q12, .ref q14, .ref q15, .int 999, .int 0])))) 6 0 (some (.inr (5, [.ref (ad 2 0), .ref (ad 7 0), .ref q9, va_rf (if c0 < nc then some (ad 17 (nc - 1)) else none)])))) 4 0 (some e1)) 31 0 (some e2)) 6 0 (some (.inr (5, [.ref (ad 2 0), .ref (ad 7 0), .ref q9, .null]))) = lput (lput (lput (lput (lput (lput (lput (lput L 6 0 (some (.inr (5, [.ref (ad 2 0), .ref (ad 7 0), .ref q9, .null])))) 11 ns (some (.inr (9, [.long 0, .int 0, .null, .null, .null, .int 0, .int 0])))) 12 ns (some (.inr (2, [.ref dE, .int (nI 0), .int 0])))) 14 ns (some (.inl (dT 1, 10, .inr (.inl (fun _ => 0)))))) 15 ns (some (.inl (dT 0, 10, .inl (fun _ => 0))))) 11 ns (some (.inr (9, [.long (cNa f en bg cw 1), .int ln, .ref q12, .ref q14, .ref q15, .int 999, .int 0])))) 4 0 (some e1)) 31 0 (some e2) := by
                funext i j
                simp only [lput]
                by_cases h6 : i = 6 <;> by_cases hj : j = 0 <;> simp [h6, hj]
              have x6' : LX h0 ad (lput L 6 0 (some (.inr (5, [.ref (ad 2 0), .ref (ad 7 0), .ref q9, .null])))) (vup hN (ad 6 0) (.inr (5, [.ref (ad 2 0), .ref (ad 7 0), .ref q9, .null]))) (lput (lput (lput (lput (lput ad 11 ns q9) 12 ns q12) 14 ns q14) 15 ns q15) 31 0 b1) (lput (lput (lput (lput (lput (lput (lput (lput (lput L 11 ns (some (.inr (9, [.long 0, .int 0, .null, .null, .null, .int 0, .int 0])))) 12 ns (some (.inr (2, [.ref dE, .int (nI 0), .int 0])))) 14 ns (some (.inl (dT 1, 10, .inr (.inl (fun _ => 0)))))) 15 ns (some (.inl (dT 0, 10, .inl (fun _ => 0))))) 11 ns (some (.inr (9, [.long (cNa f en bg cw 1), .int ln, .ref q12, .ref q14, .ref q15, .int 999, .int 0])))) 6 0 (some (.inr (5, [.ref (ad 2 0), .ref (ad 7 0), .ref q9, va_rf (if c0 < nc then some (ad 17 (nc - 1)) else none)])))) 4 0 (some e1)) 31 0 (some e2)) 6 0 (some (.inr (5, [.ref (ad 2 0), .ref (ad 7 0), .ref q9, .null])))) := x9.2.base h60
              have r6 := hRP.to (LX_same (h := h0) (e' := .inr (5, [.ref (ad 2 0), .ref (ad 7 0), .ref q9, .null])) h60) (fun i hi => ⟨lput_k _ _ (by omega), rfl⟩)
              subst hf6
              rw [eL] at x6'
              have r2 := RP_sc (e := en) (T := wP (A 6) en bg 1) (q := q9) (q12 := q12) (q14 := q14) (q15 := q15) (b := b1) (ln := ln) r6 hns hnc hln hnm (by omega) (by omega) rfl (by rw [eNa]; rfl) x6' kx
              rw [← eL, va_up_same (f := fun (_ : Nat) => false) (k := ns + 1) (v := false) rfl, va_up_same (f := fun (_ _ : Nat) => (0 : Int32)) (k := ns + 1) (v := fun _ => 0) rfl] at r2
              refine ⟨_, _, x9, fun i => ⟨fun hi => by rw [lput_k _ _ (kK_n hi (n := 6) (by decide)), lput_k _ _ (kK_n hi (n := 31) (by decide)), lput_k _ _ (kK_n hi (n := 4) (by decide)), lput_k _ _ (kK_n hi (n := 6) (by decide)), lput_k _ _ (kK_n hi (n := 11) (by decide)), lput_k _ _ (kK_n hi (n := 15) (by decide)), lput_k _ _ (kK_n hi (n := 14) (by decide)), lput_k _ _ (kK_n hi (n := 12) (by decide)), lput_k _ _ (kK_n hi (n := 11) (by decide))], fun hi => by rw [lput_k _ _ (kA_n hi (n := 31) (by decide)), lput_k _ _ (kA_n hi (n := 15) (by decide)), lput_k _ _ (kA_n hi (n := 14) (by decide)), lput_k _ _ (kA_n hi (n := 12) (by decide)), lput_k _ _ (kA_n hi (n := 11) (by decide))]⟩, Or.inl ⟨(okSc_c rfl hW hb0 hRP.2.2.2.2.2.2.1 hns).mpr ⟨nI_eqI (b := 2) (by have := hW.1; omega) (by decide) c3, n1', hns3, hv0⟩, rfl, _, _, _, _, _, r2, h20, ?_⟩⟩
              rw [if_pos (Nat.succ_pos ns), if_neg (Nat.lt_irrefl nc), show ns + 1 - 1 = ns from rfl, show lput (lput (lput (lput (lput ad 11 ns q9) 12 ns q12) 14 ns q14) 15 ns q15) 31 0 b1 11 ns = q9 by simp [lput]]; rfl) (by omega) (by omega) d_Reader_takeScreen_90
        · skip
          refine lv_iconst (v := 0) hx hb d_Reader_takeScreen_54 (by decide) ?_
          exact mq_iret hQ C X hr rfl hlk (tkP_no x hR vfx.rf (Bool.eq_false_iff.mpr (fun z => absurd (by rw [((okSc_c hf6 hW hb0 hRP.2.2.2.2.2.2.1 hns).mp z).2.2.2]; rfl) c8))) (by omega) (by omega) d_Reader_takeScreen_55
    · skip
      refine lv_iconst (v := 0) hx hb d_Reader_takeScreen_26 (by decide) ?_
      exact mq_iret hQ C X hr rfl hlk (tkP_no x hR vfx.rf (Bool.eq_false_iff.mpr (fun z => absurd ((lg_cmp_eq _ _).mp c4) ((okSc_c hf6 hW hb0 hRP.2.2.2.2.2.2.1 hns).mp z).2.1))) (by omega) (by omega) d_Reader_takeScreen_27
