theorem d_Reader_takeLine_0 : decode prog_6_method_3_code 0 = .ok (.aload_n 0, 1) := by decide +kernel
theorem d_Reader_takeLine_1 : decode prog_6_method_3_code 1 = .ok (.getfield 21, 3) := by decide +kernel
theorem d_Reader_takeLine_4 : decode prog_6_method_3_code 4 = .ok (.iconst 0, 1) := by decide +kernel
theorem d_Reader_takeLine_5 : decode prog_6_method_3_code 5 = .ok (.invokevirtual 54, 3) := by decide +kernel
theorem d_Reader_takeLine_8 : decode prog_6_method_3_code 8 = .ok (.astore_n 2, 1) := by decide +kernel
theorem d_Reader_takeLine_9 : decode prog_6_method_3_code 9 = .ok (.aload_n 2, 1) := by decide +kernel
theorem d_Reader_takeLine_10 : decode prog_6_method_3_code 10 = .ok (.ldc 58, 2) := by decide +kernel
theorem d_Reader_takeLine_12 : decode prog_6_method_3_code 12 = .ok (.invokevirtual 60, 3) := by decide +kernel
theorem d_Reader_takeLine_15 : decode prog_6_method_3_code 15 = .ok (.ifCond .eq 8, 3) := by decide +kernel
theorem d_Reader_takeLine_18 : decode prog_6_method_3_code 18 = .ok (.aload_n 0, 1) := by decide +kernel
theorem d_Reader_takeLine_19 : decode prog_6_method_3_code 19 = .ok (.invokevirtual 64, 3) := by decide +kernel
theorem d_Reader_takeLine_22 : decode prog_6_method_3_code 22 = .ok (.ireturn, 1) := by decide +kernel
theorem d_Reader_takeLine_23 : decode prog_6_method_3_code 23 = .ok (.aload_n 2, 1) := by decide +kernel
theorem d_Reader_takeLine_24 : decode prog_6_method_3_code 24 = .ok (.ldc 68, 2) := by decide +kernel
theorem d_Reader_takeLine_26 : decode prog_6_method_3_code 26 = .ok (.invokevirtual 60, 3) := by decide +kernel
theorem d_Reader_takeLine_29 : decode prog_6_method_3_code 29 = .ok (.ifCond .eq 8, 3) := by decide +kernel
theorem d_Reader_takeLine_32 : decode prog_6_method_3_code 32 = .ok (.aload_n 0, 1) := by decide +kernel
theorem d_Reader_takeLine_33 : decode prog_6_method_3_code 33 = .ok (.invokevirtual 70, 3) := by decide +kernel
theorem d_Reader_takeLine_36 : decode prog_6_method_3_code 36 = .ok (.ireturn, 1) := by decide +kernel
theorem d_Reader_takeLine_37 : decode prog_6_method_3_code 37 = .ok (.aload_n 2, 1) := by decide +kernel
theorem d_Reader_takeLine_38 : decode prog_6_method_3_code 38 = .ok (.ldc 73, 2) := by decide +kernel
theorem d_Reader_takeLine_40 : decode prog_6_method_3_code 40 = .ok (.invokevirtual 60, 3) := by decide +kernel
theorem d_Reader_takeLine_43 : decode prog_6_method_3_code 43 = .ok (.ifCond .eq 9, 3) := by decide +kernel
theorem d_Reader_takeLine_46 : decode prog_6_method_3_code 46 = .ok (.aload_n 0, 1) := by decide +kernel
theorem d_Reader_takeLine_47 : decode prog_6_method_3_code 47 = .ok (.iload_n 1, 1) := by decide +kernel
theorem d_Reader_takeLine_48 : decode prog_6_method_3_code 48 = .ok (.invokevirtual 74, 3) := by decide +kernel
theorem d_Reader_takeLine_51 : decode prog_6_method_3_code 51 = .ok (.ireturn, 1) := by decide +kernel
theorem d_Reader_takeLine_52 : decode prog_6_method_3_code 52 = .ok (.aload_n 0, 1) := by decide +kernel
theorem d_Reader_takeLine_53 : decode prog_6_method_3_code 53 = .ok (.getfield 25, 3) := by decide +kernel
theorem d_Reader_takeLine_56 : decode prog_6_method_3_code 56 = .ok (.ifnull 19, 3) := by decide +kernel
theorem d_Reader_takeLine_59 : decode prog_6_method_3_code 59 = .ok (.aload_n 0, 1) := by decide +kernel
theorem d_Reader_takeLine_60 : decode prog_6_method_3_code 60 = .ok (.aload_n 0, 1) := by decide +kernel
theorem d_Reader_takeLine_61 : decode prog_6_method_3_code 61 = .ok (.getfield 25, 3) := by decide +kernel
theorem d_Reader_takeLine_64 : decode prog_6_method_3_code 64 = .ok (.aload_n 2, 1) := by decide +kernel
theorem d_Reader_takeLine_65 : decode prog_6_method_3_code 65 = .ok (.invokevirtual 77, 3) := by decide +kernel
theorem d_Reader_takeLine_68 : decode prog_6_method_3_code 68 = .ok (.ifCond .eq 7, 3) := by decide +kernel
theorem d_Reader_takeLine_71 : decode prog_6_method_3_code 71 = .ok (.iconst 1, 1) := by decide +kernel
theorem d_Reader_takeLine_72 : decode prog_6_method_3_code 72 = .ok (.goto 4, 3) := by decide +kernel
theorem d_Reader_takeLine_75 : decode prog_6_method_3_code 75 = .ok (.iconst 0, 1) := by decide +kernel
theorem d_Reader_takeLine_76 : decode prog_6_method_3_code 76 = .ok (.ireturn, 1) := by decide +kernel
set_option maxRecDepth 100000 in
set_option maxHeartbeats 4000000 in
theorem cm_Reader_takeLine {l : Launch} {S0 : State} {b : Nat} {D : va_G} {dT : Nat → ClassId} (hE : vEnv S0 b D dT) {dE mO : Nat} (hJ : vJ S0 dE mO) {h0 : vH} {hcv : vH} {ad : Nat → Nat → Nat} {L : vL} {rc : Int32} {A : Nat → Nat → Int32} {B : Nat → Nat → Int64} {nv ns np nc : Nat} {pf cb ce cs : Nat → Nat} {c0 : Nat} (x : LH S0.heap.size hcv h0 ad L) (hcE : ∃ fE, hcv dE = some (aR dT 0 fE)) (hR : PR dT dE h0 ad L A B nv ns np nc pf cb ce cs c0 rc) (hnv : nv ≤ 40) (hns : ns ≤ 30) (hnp : np ≤ 600) (hnc : nc ≤ 600) {f : Nat → Int32} {N en bg cw : Nat} (hT : PT dT S0.heap.size h0 ad L f N en bg cw) (hf6 : A 6 = f) {lt ltv : Nat} {txl : String} {lz2 lz3 : Value} {fl0 : Nat → Int32} (hlt : vk_R "MenuScreens$Line" 18 txl lt S0) (hlt1 : hcv lt = some (.inr (0, [.ref ltv, .int 0, lz2, lz3]))) (hlt2 : hcv ltv = some (.inl (dT 2, 0, .inl fl0))) {dl dlv : Nat} {txdl : String} {dl2 dl3 : Value} {fdl : Nat → Int32} (hdl : vk_R "MenuScreens$Reader" 170 txdl dl S0) (hdl1 : hcv dl = some (.inr (0, [.ref dlv, .int 0, dl2, dl3]))) (hdl2 : hcv dlv = some (.inl (dT 2, 1, .inl fdl))) (hdl3 : fdl 0 = 45) {le lev : Nat} {txle : String} {le2 le3 : Value} {fle : Nat → Int32} (hle : vk_R "MenuScreens$Reader" 189 txle le S0) (hle1 : hcv le = some (.inr (0, [.ref lev, .int 0, le2, le3]))) (hle2 : hcv lev = some (.inl (dT 2, 1, .inl fle))) (hle3 : fle 0 = 61) {ll llv : Nat} {txll : String} {ll2 ll3 : Value} {fll : Nat → Int32} (hll : vk_R "MenuScreens$Reader" 191 txll ll S0) (hll1 : hcv ll = some (.inr (0, [.ref llv, .int 0, ll2, ll3]))) (hll2 : hcv llv = some (.inl (dT 2, 1, .inl fll))) (hll3 : fll 0 = 60) {lg lgv : Nat} {txlg : String} {lg2 lg3 : Value} {flg : Nat → Int32} (hlg : vk_R "MenuScreens$Reader" 193 txlg lg S0) (hlg1 : hcv lg = some (.inr (0, [.ref lgv, .int 0, lg2, lg3]))) (hlg2 : hcv lgv = some (.inl (dT 2, 1, .inl flg))) (hlg3 : flg 0 = 62) {lw0 lw0v : Nat} {txlw0 : String} {lw02 lw03 : Value} (hlw0 : vk_R "MenuScreens$Reader" 58 txlw0 lw0 S0) (hlw01 : hcv lw0 = some (.inr (0, [.ref lw0v, .int 0, lw02, lw03]))) (hlw02 : hcv lw0v = some (.inl (dT 2, (ltW 0).1, .inl (ltW 0).2))) {lw1 lw1v : Nat} {txlw1 : String} {lw12 lw13 : Value} (hlw1 : vk_R "MenuScreens$Reader" 68 txlw1 lw1 S0) (hlw11 : hcv lw1 = some (.inr (0, [.ref lw1v, .int 0, lw12, lw13]))) (hlw12 : hcv lw1v = some (.inl (dT 2, (ltW 1).1, .inl (ltW 1).2))) {lw2 lw2v : Nat} {txlw2 : String} {lw22 lw23 : Value} (hlw2 : vk_R "MenuScreens$Reader" 73 txlw2 lw2 S0) (hlw21 : hcv lw2 = some (.inr (0, [.ref lw2v, .int 0, lw22, lw23]))) (hlw22 : hcv lw2v = some (.inl (dT 2, (ltW 2).1, .inl (ltW 2).2))) {lw3 lw3v : Nat} {txlw3 : String} {lw32 lw33 : Value} (hlw3 : vk_R "MenuScreens$Reader" 81 txlw3 lw3 S0) (hlw31 : hcv lw3 = some (.inr (0, [.ref lw3v, .int 0, lw32, lw33]))) (hlw32 : hcv lw3v = some (.inl (dT 2, (ltW 3).1, .inl (ltW 3).2))) {lw4 lw4v : Nat} {txlw4 : String} {lw42 lw43 : Value} (hlw4 : vk_R "MenuScreens$Reader" 87 txlw4 lw4 S0) (hlw41 : hcv lw4 = some (.inr (0, [.ref lw4v, .int 0, lw42, lw43]))) (hlw42 : hcv lw4v = some (.inl (dT 2, (ltW 4).1, .inl (ltW 4).2))) {lw5 lw5v : Nat} {txlw5 : String} {lw52 lw53 : Value} (hlw5 : vk_R "MenuScreens$Reader" 92 txlw5 lw5 S0) (hlw51 : hcv lw5 = some (.inr (0, [.ref lw5v, .int 0, lw52, lw53]))) (hlw52 : hcv lw5v = some (.inl (dT 2, (ltW 5).1, .inl (ltW 5).2))) {lw6 lw6v : Nat} {txlw6 : String} {lw62 lw63 : Value} (hlw6 : vk_R "MenuScreens$Reader" 97 txlw6 lw6 S0) (hlw61 : hcv lw6 = some (.inr (0, [.ref lw6v, .int 0, lw62, lw63]))) (hlw62 : hcv lw6v = some (.inl (dT 2, (ltW 6).1, .inl (ltW 6).2))) {lw7 lw7v : Nat} {txlw7 : String} {lw72 lw73 : Value} (hlw7 : vk_R "MenuScreens$Reader" 102 txlw7 lw7 S0) (hlw71 : hcv lw7 = some (.inr (0, [.ref lw7v, .int 0, lw72, lw73]))) (hlw72 : hcv lw7v = some (.inl (dT 2, (ltW 7).1, .inl (ltW 7).2))) {lw8 lw8v : Nat} {txlw8 : String} {lw82 lw83 : Value} (hlw8 : vk_R "MenuScreens$Reader" 107 txlw8 lw8 S0) (hlw81 : hcv lw8 = some (.inr (0, [.ref lw8v, .int 0, lw82, lw83]))) (hlw82 : hcv lw8v = some (.inl (dT 2, (ltW 8).1, .inl (ltW 8).2))) {ln : Int32} (hcw0 : 0 < cw) (hln : ∃ l, ln = nI l ∧ 1 ≤ l ∧ l ≤ 5000) : vMi l S0 D vcl GT y_Reader_takeLine prog_6_method_3_code 3 (some .boolean) 10 228 8 (150 + 2 * np + 3 * (en - bg)) [.ref (ad 6 0), .int ln] h0 (fun r h' => tkP dT dE S0.heap.size hcv h0 ad L rc A B nv ns np nc pf cb ce cs c0 (okLn A en (wP f en bg 1) nv ns (lkd (wV f (nF f en (wP f en bg 0)) (wP f en bg 1)))) (lnA A en (wP f en bg 1) nv ns np nc ln (lkd (wV f (nF f en (wP f en bg 0)) (wP f en bg 1)))) (lnB A B en (wP f en bg 1) nv ns nc (lkd (wV f (nF f en (wP f en bg 0)) (wP f en bg 1)))) (lnV nv (lkd (wV f (nF f en (wP f en bg 0)) (wP f en bg 1)))) (lnSc ns (lkd (wV f (nF f en (wP f en bg 0)) (wP f en bg 1)))) (lnP np (lkd (wV f (nF f en (wP f en bg 0)) (wP f en bg 1)))) (lnC nc (lkd (wV f (nF f en (wP f en bg 0)) (wP f en bg 1)))) r h') := by
  unfold vMi
  refine vM_ofQ hE.1 (by decide) (Nat.le_of_ble_eq_true rfl) (fun p e s m args below meth c ls Q hQ C hr hlk hnm X hl => ?_)
  have C : vC p s m _ c _ _ "MenuScreens$Reader" GT D vcl (vty dT) := C
  have hx := C.1.1
  have hb := C.1.2.1
  obtain ⟨H, eH⟩ : ∃ z, z = s.heap := ⟨_, rfl⟩
  obtain ⟨locs, elocs⟩ : ∃ z : List Loc, z = [] := ⟨_, rfl⟩
  rw [← eH, ← elocs] at X
  rw [← eH, ← elocs]
  clear eH elocs
  have hl : lv_has ls 3 [(0, .ref (ad 6 0)), (1, .int ln)] := hl
  have hT0 := hT
  have hR0 := hR
  obtain ⟨hRP, h20, h60⟩ := hR0
  obtain ⟨t, tv, z2, z3, f8, fs, fe, ⟨kt, ot⟩, ⟨ktv, otv⟩, wtv, h70, h71, h72, hW, hb0, he, hN, hg⟩ := hT
  have hN0 := hN
  refine lv_aload_n hx hb d_Reader_takeLine_0 rfl (lv_at hl 0 rfl) ?_
  refine mv_get C X (x.get (i := 6) (j := 0) h60) 1 f_5_21_5 (v := .ref (ad 7 0)) rfl d_Reader_takeLine_1 ?_
  refine lv_iconst (v := 0) hx hb d_Reader_takeLine_4 (by decide) ?_
  have hB0 : wP f en bg (0 + 1) - nF f en (wP f en bg 0) ≤ en - bg := by
    have a1 := wP_in (f := f) hb0 0
    have a2 := nF_in f a1.2
    have a3 := (wP_in (f := f) hb0 (0 + 1)).2
    omega
  have hw0 := hcw0
  refine mv_bq X (mv_rV (rest := []) (As := [.int 0]) gt_good C X k_5_54 (cm_Line_wordAtT hE hJ hW hb0 he hN0 hg (j := 0) hw0 (x.get (i := 7) (j := 0) h70) (x.get (i := 7) (j := 1) h71) (x.get (i := 7) (j := 2) h72) kt ktv wtv) (x.get (i := 7) (j := 0) h70) rfl rfl ⟨Nat.le_of_ble_eq_true rfl, Nat.le_of_ble_eq_true rfl⟩ rfl hl.1 rfl (Nat.le_of_ble_eq_true rfl) d_Reader_takeLine_5 ⟨by show 0 + 2 ≤ 8; omega, by show 0 + (4 + (wP f en bg (0 + 1) - nF f en (wP f en bg 0))) ≤ (150 + 2 * np + 3 * (en - bg)); omega⟩) (fun r1 hN H locs hp X => ?_)
  obtain ⟨wq0, wa0, v20, v30, g0, er, fr0, hs0, hz0, eg0⟩ := hp
  subst er
  change W _ _ _ _ _ _ _ _ _ _ _ _ _ _ _ (F0 _ _ _ (.ref wq0 :: _))
  obtain ⟨k0, ek0⟩ : ∃ z, z = hN := ⟨_, rfl⟩
  rw [← ek0] at X fr0 hs0
  clear ek0
  have xr0 := (LR.of x).fx fr0
  have hTe0 := (wP_in (f := f) hb0 1).2
  have hR1 : PR dT dE k0 ad L A B nv ns np nc pf cb ce cs c0 rc := ⟨hRP.to xr0.2 (fun i _ => ⟨rfl, rfl⟩), h20, h60⟩
  have hT1 := hT0.fx fr0
  have hkdl := lkd_eq (g := g0) (F := nF f en (wP f en bg 0)) (T := wP f en bg 1) (of_decide_eq_true (hW.2.1 0 hcw0)) (fun k _ h2 => (hg k (by have := (wP_in (f := f) hb0 1).2; omega)).2) eg0
  refine lv_astore_n (lv' := [(2, .ref wq0), (0, .ref (ad 6 0)), (1, .int ln)]) hx hb d_Reader_takeLine_8 rfl hl (by decide) rfl (fun ls hl => ?_)
  refine lv_aload_n hx hb d_Reader_takeLine_9 rfl (lv_at hl 0 rfl) ?_
  refine mv_ldcS C X hlw0 d_Reader_takeLine_10 ?_
  have hbk : wP f en bg 1 - nF f en (wP f en bg 0) < 2 ^ 30 := by omega
  refine mv_bi X (mv_rV (rest := []) (As := [.ref lw0]) gt_good C X k_5_60 (cm_String_equals hE hJ hbk (by decide) hs0.1 hs0.2 (xr0.1.old hlw01) (xr0.1.old hlw02)) hs0.1 rfl rfl ⟨Nat.le_of_ble_eq_true rfl, Nat.le_of_ble_eq_true rfl⟩ rfl hl.1 rfl (Nat.le_of_ble_eq_true rfl) d_Reader_takeLine_12 ⟨by show (0 + 2) + 0 ≤ 8; omega, by show (0 + (4 + (wP f en bg (0 + 1) - nF f en (wP f en bg 0)))) + 0 ≤ (150 + 2 * np + 3 * (en - bg)); omega⟩) (fun r2 hN H locs hp X => ?_)
  obtain ⟨eh, eq0⟩ := hp
  replace eh := eh.symm
  subst eh
  refine lv_if_eq (tgt := 23) hx hb d_Reader_takeLine_15 (by decide) (fun c3 => ?_) (fun c3 => ?_)
  · skip
    refine lv_aload_n hx hb d_Reader_takeLine_23 rfl (lv_at hl 0 rfl) ?_
    refine mv_ldcS C X hlw1 d_Reader_takeLine_24 ?_
    refine mv_bi X (mv_rV (rest := []) (As := [.ref lw1]) gt_good C X k_5_60 (cm_String_equals hE hJ hbk (by decide) hs0.1 hs0.2 (xr0.1.old hlw11) (xr0.1.old hlw12)) hs0.1 rfl rfl ⟨Nat.le_of_ble_eq_true rfl, Nat.le_of_ble_eq_true rfl⟩ rfl hl.1 rfl (Nat.le_of_ble_eq_true rfl) d_Reader_takeLine_26 ⟨by show ((0 + 2) + 0) + 0 ≤ 8; omega, by show ((0 + (4 + (wP f en bg (0 + 1) - nF f en (wP f en bg 0)))) + 0) + 0 ≤ (150 + 2 * np + 3 * (en - bg)); omega⟩) (fun r4 hN H locs hp X => ?_)
    obtain ⟨eh, eq1⟩ := hp
    replace eh := eh.symm
    subst eh
    refine lv_if_eq (tgt := 37) hx hb d_Reader_takeLine_29 (by decide) (fun c5 => ?_) (fun c5 => ?_)
    · skip
      refine lv_aload_n hx hb d_Reader_takeLine_37 rfl (lv_at hl 0 rfl) ?_
      refine mv_ldcS C X hlw2 d_Reader_takeLine_38 ?_
      refine mv_bi X (mv_rV (rest := []) (As := [.ref lw2]) gt_good C X k_5_60 (cm_String_equals hE hJ hbk (by decide) hs0.1 hs0.2 (xr0.1.old hlw21) (xr0.1.old hlw22)) hs0.1 rfl rfl ⟨Nat.le_of_ble_eq_true rfl, Nat.le_of_ble_eq_true rfl⟩ rfl hl.1 rfl (Nat.le_of_ble_eq_true rfl) d_Reader_takeLine_40 ⟨by show (((0 + 2) + 0) + 0) + 0 ≤ 8; omega, by show (((0 + (4 + (wP f en bg (0 + 1) - nF f en (wP f en bg 0)))) + 0) + 0) + 0 ≤ (150 + 2 * np + 3 * (en - bg)); omega⟩) (fun r6 hN H locs hp X => ?_)
      obtain ⟨eh, eq2⟩ := hp
      replace eh := eh.symm
      subst eh
      refine lv_if_eq (tgt := 52) hx hb d_Reader_takeLine_43 (by decide) (fun c7 => ?_) (fun c7 => ?_)
      · skip
        refine lv_aload_n hx hb d_Reader_takeLine_52 rfl (lv_at hl 1 rfl) ?_
        refine mv_get C X (xr0.1.get (i := 6) (j := 0) h60) 2 f_5_25_5 (v := va_rf (if 0 < ns then some (ad 11 (ns - 1)) else none)) rfl d_Reader_takeLine_53 ?_
        by_cases hk : 0 < ns
        · rw [if_pos hk]
          change W _ _ _ _ _ _ _ _ _ _ _ _ _ _ _ (F0 _ _ _ (.ref (ad 11 (ns - 1)) :: _))
          refine lv_ifnull hx hb d_Reader_takeLine_56 ?_
          refine lv_aload_n hx hb d_Reader_takeLine_59 rfl (lv_at hl 1 rfl) ?_
          refine lv_aload_n hx hb d_Reader_takeLine_60 rfl (lv_at hl 1 rfl) ?_
          refine mv_get C X (xr0.1.get (i := 6) (j := 0) h60) 2 f_5_25_5 (v := va_rf (if 0 < ns then some (ad 11 (ns - 1)) else none)) rfl d_Reader_takeLine_61 ?_
          rw [if_pos hk]
          change W _ _ _ _ _ _ _ _ _ _ _ _ _ _ _ (F0 _ _ _ (.ref (ad 11 (ns - 1)) :: _))
          refine lv_aload_n hx hb d_Reader_takeLine_64 rfl (lv_at hl 0 rfl) ?_
          have n0 : ¬ eqB g0 (wP f en bg 1 - nF f en (wP f en bg 0)) (ltW 0).2 (ltW 0).1 = true := fun z => by rw [z] at eq0; exact absurd (eq0.symm.trans c3) (by decide)
          have n1 : ¬ eqB g0 (wP f en bg 1 - nF f en (wP f en bg 0)) (ltW 1).2 (ltW 1).1 = true := fun z => by rw [z] at eq1; exact absurd (eq1.symm.trans c5) (by decide)
          have n2 : ¬ eqB g0 (wP f en bg 1 - nF f en (wP f en bg 0)) (ltW 2).2 (ltW 2).1 = true := fun z => by rw [z] at eq2; exact absurd (eq2.symm.trans c7) (by decide)
          refine mv_bi X (mv_rV (rest := []) (As := [.ref (ad 11 (ns - 1)), .ref wq0]) gt_good C X k_5_77 (cm_Reader_takeLineOf (ln := ln) hE hJ xr0.1 hcE hR1 hnv hns hnp hnc hT1 hf6 hk hlt hlt1 hlt2 hdl hdl1 hdl2 hdl3 hle hle1 hle2 hle3 hll hll1 hll2 hll3 hlg hlg1 hlg2 hlg3 hlw3 hlw31 hlw32 hlw4 hlw41 hlw42 hlw5 hlw51 hlw52 hlw6 hlw61 hlw62 hlw7 hlw71 hlw72 hlw8 hlw81 hlw82 hcw0 hs0.1 hs0.2 eg0 n0 n1 n2) (xr0.1.get (i := 6) (j := 0) h60) rfl rfl ⟨Nat.le_of_ble_eq_true rfl, Nat.le_of_ble_eq_true rfl⟩ rfl hl.1 rfl (Nat.le_of_ble_eq_true rfl) d_Reader_takeLine_65 ⟨by show ((((0 + 2) + 0) + 0) + 0) + 6 ≤ 8; omega, by show ((((0 + (4 + (wP f en bg (0 + 1) - nF f en (wP f en bg 0)))) + 0) + 0) + 0) + (40 + 2 * np + 2 * (en - bg)) ≤ (150 + 2 * np + 3 * (en - bg)); omega⟩) (fun r8 hN H locs hp X => ?_)
          have hq := hp
          refine lv_if_eq (tgt := 75) hx hb d_Reader_takeLine_68 (by decide) (fun c9 => ?_) (fun c9 => ?_)
          · skip
            refine lv_iconst (v := 0) hx hb d_Reader_takeLine_75 (by decide) ?_
            exact mq_iret hQ C X hr rfl hlk (by
                rw [c9] at hq; exact tkP.pre xr0 hq) (by omega) (by omega) d_Reader_takeLine_76
          · skip
            refine lv_iconst (v := 1) hx hb d_Reader_takeLine_71 (by decide) ?_
            refine lv_goto (tgt := 76) hx hb d_Reader_takeLine_72 (by decide) ?_
            exact mq_iret hQ C X hr rfl hlk (by
                exact tkP.pre xr0 (tkP_1 hq c9)) (by omega) (by omega) d_Reader_takeLine_76
        · rw [if_neg hk]
          change W _ _ _ _ _ _ _ _ _ _ _ _ _ _ _ (F0 _ _ _ (.null :: _))
          refine lv_ifnullN (tgt := 75) hx hb d_Reader_takeLine_56 (by decide) ?_
          refine lv_iconst (v := 0) hx hb d_Reader_takeLine_75 (by decide) ?_
          exact mq_iret hQ C X hr rfl hlk (by
              have h3 : 3 ≤ lkd (wV f (nF f en (wP f en bg 0)) (wP f en bg 1)) := by
                rw [hkdl, if_neg (show ¬ eqB g0 (wP f en bg 1 - nF f en (wP f en bg 0)) (ltW 0).2 (ltW 0).1 = true from fun z => by rw [z] at eq0; exact absurd (eq0.symm.trans c3) (by decide)), if_neg (show ¬ eqB g0 (wP f en bg 1 - nF f en (wP f en bg 0)) (ltW 1).2 (ltW 1).1 = true from fun z => by rw [z] at eq1; exact absurd (eq1.symm.trans c5) (by decide)), if_neg (show ¬ eqB g0 (wP f en bg 1 - nF f en (wP f en bg 0)) (ltW 2).2 (ltW 2).1 = true from fun z => by rw [z] at eq2; exact absurd (eq2.symm.trans c7) (by decide))]
                repeat' split
                all_goals omega
              exact tkP_no x hR fr0 (okLn_3 h3 (by omega))) (by omega) (by omega) d_Reader_takeLine_76
      · skip
        refine lv_aload_n hx hb d_Reader_takeLine_46 rfl (lv_at hl 1 rfl) ?_
        refine lv_iload_n hx hb d_Reader_takeLine_47 rfl (lv_at hl 2 rfl) ?_
        refine mv_bi X (mv_rV (rest := []) (As := [.int ln]) gt_good C X k_5_74 (cm_Reader_takeScreen hE hJ xr0.1 hcE hR1 hnv hns hnp hnc hT1 hf6 hln) (xr0.1.get (i := 6) (j := 0) h60) rfl rfl ⟨Nat.le_of_ble_eq_true rfl, Nat.le_of_ble_eq_true rfl⟩ rfl hl.1 rfl (Nat.le_of_ble_eq_true rfl) d_Reader_takeLine_48 ⟨by show ((((0 + 2) + 0) + 0) + 0) + 5 ≤ 8; omega, by show ((((0 + (4 + (wP f en bg (0 + 1) - nF f en (wP f en bg 0)))) + 0) + 0) + 0) + (45 + 2 * ns) ≤ (150 + 2 * np + 3 * (en - bg)); omega⟩) (fun r10 hN H locs hp X => ?_)
        have hq := hp
        exact mq_iret hQ C X hr (tkP_nar hq) hlk (by
            have eKD : lkd (wV f (nF f en (wP f en bg 0)) (wP f en bg 1)) = 2 := by rw [hkdl, if_neg (show ¬ eqB g0 (wP f en bg 1 - nF f en (wP f en bg 0)) (ltW 0).2 (ltW 0).1 = true from fun z => by rw [z] at eq0; exact absurd (eq0.symm.trans c3) (by decide)), if_neg (show ¬ eqB g0 (wP f en bg 1 - nF f en (wP f en bg 0)) (ltW 1).2 (ltW 1).1 = true from fun z => by rw [z] at eq1; exact absurd (eq1.symm.trans c5) (by decide)), if_pos (bI_n (fun z => c7 (eq2.trans z)))]
            rw [eKD]; exact tkP.pre xr0 hq) (by omega) (by omega) d_Reader_takeLine_51
    · skip
      refine lv_aload_n hx hb d_Reader_takeLine_32 rfl (lv_at hl 1 rfl) ?_
      refine mv_bi X (mv_rV (rest := []) (As := []) gt_good C X k_5_70 (cm_Reader_takeSetting hE hJ xr0.1 hcE hR1 hnv hns hnp hnc hT1 hf6) (xr0.1.get (i := 6) (j := 0) h60) rfl rfl ⟨Nat.le_of_ble_eq_true rfl, Nat.le_of_ble_eq_true rfl⟩ rfl hl.1 rfl (Nat.le_of_ble_eq_true rfl) d_Reader_takeLine_33 ⟨by show (((0 + 2) + 0) + 0) + 2 ≤ 8; omega, by show (((0 + (4 + (wP f en bg (0 + 1) - nF f en (wP f en bg 0)))) + 0) + 0) + (16 + 2 * nv) ≤ (150 + 2 * np + 3 * (en - bg)); omega⟩) (fun r11 hN H locs hp X => ?_)
      have hq := hp
      exact mq_iret hQ C X hr (tkP_nar hq) hlk (by
          have eKD : lkd (wV f (nF f en (wP f en bg 0)) (wP f en bg 1)) = 1 := by rw [hkdl, if_neg (show ¬ eqB g0 (wP f en bg 1 - nF f en (wP f en bg 0)) (ltW 0).2 (ltW 0).1 = true from fun z => by rw [z] at eq0; exact absurd (eq0.symm.trans c3) (by decide)), if_pos (bI_n (fun z => c5 (eq1.trans z)))]
          rw [eKD]; exact tkP.pre xr0 hq) (by omega) (by omega) d_Reader_takeLine_36
  · skip
    refine lv_aload_n hx hb d_Reader_takeLine_18 rfl (lv_at hl 1 rfl) ?_
    refine mv_bi X (mv_rV (rest := []) (As := []) gt_good C X k_5_64 (cm_Reader_takeName hE hJ xr0.1 hcE hR1 hnv hns hnp hnc hT1 hf6) (xr0.1.get (i := 6) (j := 0) h60) rfl rfl ⟨Nat.le_of_ble_eq_true rfl, Nat.le_of_ble_eq_true rfl⟩ rfl hl.1 rfl (Nat.le_of_ble_eq_true rfl) d_Reader_takeLine_19 ⟨by show ((0 + 2) + 0) + 2 ≤ 8; omega, by show ((0 + (4 + (wP f en bg (0 + 1) - nF f en (wP f en bg 0)))) + 0) + (16 + 2 * nv) ≤ (150 + 2 * np + 3 * (en - bg)); omega⟩) (fun r12 hN H locs hp X => ?_)
    have hq := hp
    exact mq_iret hQ C X hr (tkP_nar hq) hlk (by
        have eKD : lkd (wV f (nF f en (wP f en bg 0)) (wP f en bg 1)) = 0 := by rw [hkdl, if_pos (bI_n (fun z => c3 (eq0.trans z)))]
        rw [eKD]; exact tkP.pre xr0 hq) (by omega) (by omega) d_Reader_takeLine_22
