theorem d_Reader_takeLineOf_0 : decode prog_6_method_4_code 0 = .ok (.aload_n 2, 1) := by decide +kernel
theorem d_Reader_takeLineOf_1 : decode prog_6_method_4_code 1 = .ok (.ldc 81, 2) := by decide +kernel
theorem d_Reader_takeLineOf_3 : decode prog_6_method_4_code 3 = .ok (.invokevirtual 60, 3) := by decide +kernel
theorem d_Reader_takeLineOf_6 : decode prog_6_method_4_code 6 = .ok (.ifCond .eq 9, 3) := by decide +kernel
theorem d_Reader_takeLineOf_9 : decode prog_6_method_4_code 9 = .ok (.aload_n 0, 1) := by decide +kernel
theorem d_Reader_takeLineOf_10 : decode prog_6_method_4_code 10 = .ok (.aload_n 1, 1) := by decide +kernel
theorem d_Reader_takeLineOf_11 : decode prog_6_method_4_code 11 = .ok (.invokevirtual 83, 3) := by decide +kernel
theorem d_Reader_takeLineOf_14 : decode prog_6_method_4_code 14 = .ok (.ireturn, 1) := by decide +kernel
theorem d_Reader_takeLineOf_15 : decode prog_6_method_4_code 15 = .ok (.aload_n 2, 1) := by decide +kernel
theorem d_Reader_takeLineOf_16 : decode prog_6_method_4_code 16 = .ok (.ldc 87, 2) := by decide +kernel
theorem d_Reader_takeLineOf_18 : decode prog_6_method_4_code 18 = .ok (.invokevirtual 60, 3) := by decide +kernel
theorem d_Reader_takeLineOf_21 : decode prog_6_method_4_code 21 = .ok (.ifCond .eq 9, 3) := by decide +kernel
theorem d_Reader_takeLineOf_24 : decode prog_6_method_4_code 24 = .ok (.aload_n 0, 1) := by decide +kernel
theorem d_Reader_takeLineOf_25 : decode prog_6_method_4_code 25 = .ok (.aload_n 1, 1) := by decide +kernel
theorem d_Reader_takeLineOf_26 : decode prog_6_method_4_code 26 = .ok (.invokevirtual 89, 3) := by decide +kernel
theorem d_Reader_takeLineOf_29 : decode prog_6_method_4_code 29 = .ok (.ireturn, 1) := by decide +kernel
theorem d_Reader_takeLineOf_30 : decode prog_6_method_4_code 30 = .ok (.aload_n 2, 1) := by decide +kernel
theorem d_Reader_takeLineOf_31 : decode prog_6_method_4_code 31 = .ok (.ldc 92, 2) := by decide +kernel
theorem d_Reader_takeLineOf_33 : decode prog_6_method_4_code 33 = .ok (.invokevirtual 60, 3) := by decide +kernel
theorem d_Reader_takeLineOf_36 : decode prog_6_method_4_code 36 = .ok (.ifCond .eq 9, 3) := by decide +kernel
theorem d_Reader_takeLineOf_39 : decode prog_6_method_4_code 39 = .ok (.aload_n 0, 1) := by decide +kernel
theorem d_Reader_takeLineOf_40 : decode prog_6_method_4_code 40 = .ok (.aload_n 1, 1) := by decide +kernel
theorem d_Reader_takeLineOf_41 : decode prog_6_method_4_code 41 = .ok (.invokevirtual 94, 3) := by decide +kernel
theorem d_Reader_takeLineOf_44 : decode prog_6_method_4_code 44 = .ok (.ireturn, 1) := by decide +kernel
theorem d_Reader_takeLineOf_45 : decode prog_6_method_4_code 45 = .ok (.aload_n 2, 1) := by decide +kernel
theorem d_Reader_takeLineOf_46 : decode prog_6_method_4_code 46 = .ok (.ldc 97, 2) := by decide +kernel
theorem d_Reader_takeLineOf_48 : decode prog_6_method_4_code 48 = .ok (.invokevirtual 60, 3) := by decide +kernel
theorem d_Reader_takeLineOf_51 : decode prog_6_method_4_code 51 = .ok (.ifCond .eq 8, 3) := by decide +kernel
theorem d_Reader_takeLineOf_54 : decode prog_6_method_4_code 54 = .ok (.aload_n 0, 1) := by decide +kernel
theorem d_Reader_takeLineOf_55 : decode prog_6_method_4_code 55 = .ok (.invokevirtual 99, 3) := by decide +kernel
theorem d_Reader_takeLineOf_58 : decode prog_6_method_4_code 58 = .ok (.ireturn, 1) := by decide +kernel
theorem d_Reader_takeLineOf_59 : decode prog_6_method_4_code 59 = .ok (.aload_n 2, 1) := by decide +kernel
theorem d_Reader_takeLineOf_60 : decode prog_6_method_4_code 60 = .ok (.ldc 102, 2) := by decide +kernel
theorem d_Reader_takeLineOf_62 : decode prog_6_method_4_code 62 = .ok (.invokevirtual 60, 3) := by decide +kernel
theorem d_Reader_takeLineOf_65 : decode prog_6_method_4_code 65 = .ok (.ifCond .eq 9, 3) := by decide +kernel
theorem d_Reader_takeLineOf_68 : decode prog_6_method_4_code 68 = .ok (.aload_n 0, 1) := by decide +kernel
theorem d_Reader_takeLineOf_69 : decode prog_6_method_4_code 69 = .ok (.aload_n 1, 1) := by decide +kernel
theorem d_Reader_takeLineOf_70 : decode prog_6_method_4_code 70 = .ok (.invokevirtual 104, 3) := by decide +kernel
theorem d_Reader_takeLineOf_73 : decode prog_6_method_4_code 73 = .ok (.ireturn, 1) := by decide +kernel
theorem d_Reader_takeLineOf_74 : decode prog_6_method_4_code 74 = .ok (.aload_n 2, 1) := by decide +kernel
theorem d_Reader_takeLineOf_75 : decode prog_6_method_4_code 75 = .ok (.ldc 107, 2) := by decide +kernel
theorem d_Reader_takeLineOf_77 : decode prog_6_method_4_code 77 = .ok (.invokevirtual 60, 3) := by decide +kernel
theorem d_Reader_takeLineOf_80 : decode prog_6_method_4_code 80 = .ok (.ifCond .eq 15, 3) := by decide +kernel
theorem d_Reader_takeLineOf_83 : decode prog_6_method_4_code 83 = .ok (.aload_n 0, 1) := by decide +kernel
theorem d_Reader_takeLineOf_84 : decode prog_6_method_4_code 84 = .ok (.aload_n 1, 1) := by decide +kernel
theorem d_Reader_takeLineOf_85 : decode prog_6_method_4_code 85 = .ok (.invokevirtual 109, 3) := by decide +kernel
theorem d_Reader_takeLineOf_88 : decode prog_6_method_4_code 88 = .ok (.ifCond .eq 7, 3) := by decide +kernel
theorem d_Reader_takeLineOf_91 : decode prog_6_method_4_code 91 = .ok (.iconst 1, 1) := by decide +kernel
theorem d_Reader_takeLineOf_92 : decode prog_6_method_4_code 92 = .ok (.goto 4, 3) := by decide +kernel
theorem d_Reader_takeLineOf_95 : decode prog_6_method_4_code 95 = .ok (.iconst 0, 1) := by decide +kernel
theorem d_Reader_takeLineOf_96 : decode prog_6_method_4_code 96 = .ok (.ireturn, 1) := by decide +kernel
set_option maxRecDepth 100000 in
set_option maxHeartbeats 4000000 in
theorem cm_Reader_takeLineOf {l : Launch} {S0 : State} {b : Nat} {D : va_G} {dT : Nat → ClassId} (hE : vEnv S0 b D dT) {dE mO : Nat} (hJ : vJ S0 dE mO) {h0 : vH} {hcv : vH} {ad : Nat → Nat → Nat} {L : vL} {rc : Int32} {A : Nat → Nat → Int32} {B : Nat → Nat → Int64} {nv ns np nc : Nat} {pf cb ce cs : Nat → Nat} {c0 : Nat} (x : LH S0.heap.size hcv h0 ad L) (hcE : ∃ fE, hcv dE = some (aR dT 0 fE)) (hR : PR dT dE h0 ad L A B nv ns np nc pf cb ce cs c0 rc) (hnv : nv ≤ 40) (hns : ns ≤ 30) (hnp : np ≤ 600) (hnc : nc ≤ 600) {f : Nat → Int32} {N en bg cw : Nat} (hT : PT dT S0.heap.size h0 ad L f N en bg cw) (hf6 : A 6 = f) (hns0 : 0 < ns) {lt ltv : Nat} {txl : String} {lz2 lz3 : Value} {fl0 : Nat → Int32} (hlt : vk_R "MenuScreens$Line" 18 txl lt S0) (hlt1 : hcv lt = some (.inr (0, [.ref ltv, .int 0, lz2, lz3]))) (hlt2 : hcv ltv = some (.inl (dT 2, 0, .inl fl0))) {dl dlv : Nat} {txdl : String} {dl2 dl3 : Value} {fdl : Nat → Int32} (hdl : vk_R "MenuScreens$Reader" 170 txdl dl S0) (hdl1 : hcv dl = some (.inr (0, [.ref dlv, .int 0, dl2, dl3]))) (hdl2 : hcv dlv = some (.inl (dT 2, 1, .inl fdl))) (hdl3 : fdl 0 = 45) {le lev : Nat} {txle : String} {le2 le3 : Value} {fle : Nat → Int32} (hle : vk_R "MenuScreens$Reader" 189 txle le S0) (hle1 : hcv le = some (.inr (0, [.ref lev, .int 0, le2, le3]))) (hle2 : hcv lev = some (.inl (dT 2, 1, .inl fle))) (hle3 : fle 0 = 61) {ll llv : Nat} {txll : String} {ll2 ll3 : Value} {fll : Nat → Int32} (hll : vk_R "MenuScreens$Reader" 191 txll ll S0) (hll1 : hcv ll = some (.inr (0, [.ref llv, .int 0, ll2, ll3]))) (hll2 : hcv llv = some (.inl (dT 2, 1, .inl fll))) (hll3 : fll 0 = 60) {lg lgv : Nat} {txlg : String} {lg2 lg3 : Value} {flg : Nat → Int32} (hlg : vk_R "MenuScreens$Reader" 193 txlg lg S0) (hlg1 : hcv lg = some (.inr (0, [.ref lgv, .int 0, lg2, lg3]))) (hlg2 : hcv lgv = some (.inl (dT 2, 1, .inl flg))) (hlg3 : flg 0 = 62) {lw3 lw3v : Nat} {txlw3 : String} {lw32 lw33 : Value} (hlw3 : vk_R "MenuScreens$Reader" 81 txlw3 lw3 S0) (hlw31 : hcv lw3 = some (.inr (0, [.ref lw3v, .int 0, lw32, lw33]))) (hlw32 : hcv lw3v = some (.inl (dT 2, (ltW 3).1, .inl (ltW 3).2))) {lw4 lw4v : Nat} {txlw4 : String} {lw42 lw43 : Value} (hlw4 : vk_R "MenuScreens$Reader" 87 txlw4 lw4 S0) (hlw41 : hcv lw4 = some (.inr (0, [.ref lw4v, .int 0, lw42, lw43]))) (hlw42 : hcv lw4v = some (.inl (dT 2, (ltW 4).1, .inl (ltW 4).2))) {lw5 lw5v : Nat} {txlw5 : String} {lw52 lw53 : Value} (hlw5 : vk_R "MenuScreens$Reader" 92 txlw5 lw5 S0) (hlw51 : hcv lw5 = some (.inr (0, [.ref lw5v, .int 0, lw52, lw53]))) (hlw52 : hcv lw5v = some (.inl (dT 2, (ltW 5).1, .inl (ltW 5).2))) {lw6 lw6v : Nat} {txlw6 : String} {lw62 lw63 : Value} (hlw6 : vk_R "MenuScreens$Reader" 97 txlw6 lw6 S0) (hlw61 : hcv lw6 = some (.inr (0, [.ref lw6v, .int 0, lw62, lw63]))) (hlw62 : hcv lw6v = some (.inl (dT 2, (ltW 6).1, .inl (ltW 6).2))) {lw7 lw7v : Nat} {txlw7 : String} {lw72 lw73 : Value} (hlw7 : vk_R "MenuScreens$Reader" 102 txlw7 lw7 S0) (hlw71 : hcv lw7 = some (.inr (0, [.ref lw7v, .int 0, lw72, lw73]))) (hlw72 : hcv lw7v = some (.inl (dT 2, (ltW 7).1, .inl (ltW 7).2))) {lw8 lw8v : Nat} {txlw8 : String} {lw82 lw83 : Value} (hlw8 : vk_R "MenuScreens$Reader" 107 txlw8 lw8 S0) (hlw81 : hcv lw8 = some (.inr (0, [.ref lw8v, .int 0, lw82, lw83]))) (hlw82 : hcv lw8v = some (.inl (dT 2, (ltW 8).1, .inl (ltW 8).2))) {kd kdv : Nat} {kz2 kz3 : Value} {gkd : Nat → Int32} {ln : Int32} (hcw0 : 0 < cw) (kkd : h0 kd = some (.inr (0, [.ref kdv, .int 0, kz2, kz3]))) (kkv : h0 kdv = some (.inl (dT 2, wP f en bg 1 - nF f en (wP f en bg 0), .inl gkd))) (ekd : ∀ k, k < wP f en bg 1 - nF f en (wP f en bg 0) → gkd k = f (nF f en (wP f en bg 0) + k)) (n0 : ¬ eqB gkd (wP f en bg 1 - nF f en (wP f en bg 0)) (ltW 0).2 (ltW 0).1 = true) (n1 : ¬ eqB gkd (wP f en bg 1 - nF f en (wP f en bg 0)) (ltW 1).2 (ltW 1).1 = true) (n2 : ¬ eqB gkd (wP f en bg 1 - nF f en (wP f en bg 0)) (ltW 2).2 (ltW 2).1 = true) : vMi l S0 D vcl GT y_Reader_takeLineOf prog_6_method_4_code 3 (some .boolean) 9 206 6 (40 + 2 * np + 2 * (en - bg)) [.ref (ad 6 0), .ref (ad 11 (ns - 1)), .ref kd] h0 (fun r h' => tkP dT dE S0.heap.size hcv h0 ad L rc A B nv ns np nc pf cb ce cs c0 (okLn A en (wP f en bg 1) nv ns (lkd (wV f (nF f en (wP f en bg 0)) (wP f en bg 1)))) (lnA A en (wP f en bg 1) nv ns np nc ln (lkd (wV f (nF f en (wP f en bg 0)) (wP f en bg 1)))) (lnB A B en (wP f en bg 1) nv ns nc (lkd (wV f (nF f en (wP f en bg 0)) (wP f en bg 1)))) (lnV nv (lkd (wV f (nF f en (wP f en bg 0)) (wP f en bg 1)))) (lnSc ns (lkd (wV f (nF f en (wP f en bg 0)) (wP f en bg 1)))) (lnP np (lkd (wV f (nF f en (wP f en bg 0)) (wP f en bg 1)))) (lnC nc (lkd (wV f (nF f en (wP f en bg 0)) (wP f en bg 1)))) r h') := by
  unfold vMi
  refine vM_ofQ hE.1 (by decide) (Nat.le_of_ble_eq_true rfl) (fun p e s m args below meth c ls Q hQ C hr hlk hnm X hl => ?_)
  have C : vC p s m _ c _ _ "MenuScreens$Reader" GT D vcl (vty dT) := C
  have hx := C.1.1
  have hb := C.1.2.1
  obtain ⟨H, eH⟩ : ∃ z, z = s.heap := ⟨_, rfl⟩
  obtain ⟨locs, elocs⟩ : ∃ z : List Loc, z = [] := ⟨_, rfl⟩
  rw [← eH, ← elocs] at X
  rw [← eH, ← elocs]
  clear eH elocs
  have hl : lv_has ls 3 [(0, .ref (ad 6 0)), (1, .ref (ad 11 (ns - 1))), (2, .ref kd)] := hl
  have hT0 := hT
  have hR0 := hR
  obtain ⟨hRP, h20, h60⟩ := hR0
  obtain ⟨t, tv, z2, z3, f8, fs, fe, ⟨kt, ot⟩, ⟨ktv, otv⟩, wtv, h70, h71, h72, hW, hb0, he, hN, hg⟩ := hT
  have hN0 := hN
  have hFT0 : nF f en (wP f en bg 0) < wP f en bg 1 := of_decide_eq_true (hW.2.1 0 hcw0)
  have hTe0 := (wP_in (f := f) hb0 1).2
  have hkdl := lkd_eq (g := gkd) hFT0 (fun k _ h2 => (hg k (by omega)).2) ekd
  obtain ⟨hS, hps, ⟨gk, hkn, hgk⟩, -, -⟩ := hRP.2.1.2 (ns - 1) (by omega)
  have en1 : ns - 1 + 1 = ns := by omega
  rw [en1] at hS hgk
  refine lv_aload_n hx hb d_Reader_takeLineOf_0 rfl (lv_at hl 2 rfl) ?_
  refine mv_ldcS C X hlw3 d_Reader_takeLineOf_1 ?_
  have hbk : wP f en bg 1 - nF f en (wP f en bg 0) < 2 ^ 30 := by omega
  refine mv_bi X (mv_rV (rest := []) (As := [.ref lw3]) gt_good C X k_5_60 (cm_String_equals hE hJ hbk (by decide) kkd kkv (x.old hlw31) (x.old hlw32)) kkd rfl rfl ⟨Nat.le_of_ble_eq_true rfl, Nat.le_of_ble_eq_true rfl⟩ rfl hl.1 rfl (Nat.le_of_ble_eq_true rfl) d_Reader_takeLineOf_3 ⟨Nat.zero_le _, Nat.zero_le _⟩) (fun r1 hN H locs hp X => ?_)
  obtain ⟨eh, eq3⟩ := hp
  replace eh := eh.symm
  subst eh
  refine lv_if_eq (tgt := 15) hx hb d_Reader_takeLineOf_6 (by decide) (fun c2 => ?_) (fun c2 => ?_)
  · skip
    refine lv_aload_n hx hb d_Reader_takeLineOf_15 rfl (lv_at hl 2 rfl) ?_
    refine mv_ldcS C X hlw4 d_Reader_takeLineOf_16 ?_
    refine mv_bi X (mv_rV (rest := []) (As := [.ref lw4]) gt_good C X k_5_60 (cm_String_equals hE hJ hbk (by decide) kkd kkv (x.old hlw41) (x.old hlw42)) kkd rfl rfl ⟨Nat.le_of_ble_eq_true rfl, Nat.le_of_ble_eq_true rfl⟩ rfl hl.1 rfl (Nat.le_of_ble_eq_true rfl) d_Reader_takeLineOf_18 ⟨Nat.zero_le _, Nat.zero_le _⟩) (fun r3 hN H locs hp X => ?_)
    obtain ⟨eh, eq4⟩ := hp
    replace eh := eh.symm
    subst eh
    refine lv_if_eq (tgt := 30) hx hb d_Reader_takeLineOf_21 (by decide) (fun c4 => ?_) (fun c4 => ?_)
    · skip
      refine lv_aload_n hx hb d_Reader_takeLineOf_30 rfl (lv_at hl 2 rfl) ?_
      refine mv_ldcS C X hlw5 d_Reader_takeLineOf_31 ?_
      refine mv_bi X (mv_rV (rest := []) (As := [.ref lw5]) gt_good C X k_5_60 (cm_String_equals hE hJ hbk (by decide) kkd kkv (x.old hlw51) (x.old hlw52)) kkd rfl rfl ⟨Nat.le_of_ble_eq_true rfl, Nat.le_of_ble_eq_true rfl⟩ rfl hl.1 rfl (Nat.le_of_ble_eq_true rfl) d_Reader_takeLineOf_33 ⟨Nat.zero_le _, Nat.zero_le _⟩) (fun r5 hN H locs hp X => ?_)
      obtain ⟨eh, eq5⟩ := hp
      replace eh := eh.symm
      subst eh
      refine lv_if_eq (tgt := 45) hx hb d_Reader_takeLineOf_36 (by decide) (fun c6 => ?_) (fun c6 => ?_)
      · skip
        refine lv_aload_n hx hb d_Reader_takeLineOf_45 rfl (lv_at hl 2 rfl) ?_
        refine mv_ldcS C X hlw6 d_Reader_takeLineOf_46 ?_
        refine mv_bi X (mv_rV (rest := []) (As := [.ref lw6]) gt_good C X k_5_60 (cm_String_equals hE hJ hbk (by decide) kkd kkv (x.old hlw61) (x.old hlw62)) kkd rfl rfl ⟨Nat.le_of_ble_eq_true rfl, Nat.le_of_ble_eq_true rfl⟩ rfl hl.1 rfl (Nat.le_of_ble_eq_true rfl) d_Reader_takeLineOf_48 ⟨Nat.zero_le _, Nat.zero_le _⟩) (fun r7 hN H locs hp X => ?_)
        obtain ⟨eh, eq6⟩ := hp
        replace eh := eh.symm
        subst eh
        refine lv_if_eq (tgt := 59) hx hb d_Reader_takeLineOf_51 (by decide) (fun c8 => ?_) (fun c8 => ?_)
        · skip
          refine lv_aload_n hx hb d_Reader_takeLineOf_59 rfl (lv_at hl 2 rfl) ?_
          refine mv_ldcS C X hlw7 d_Reader_takeLineOf_60 ?_
          refine mv_bi X (mv_rV (rest := []) (As := [.ref lw7]) gt_good C X k_5_60 (cm_String_equals hE hJ hbk (by decide) kkd kkv (x.old hlw71) (x.old hlw72)) kkd rfl rfl ⟨Nat.le_of_ble_eq_true rfl, Nat.le_of_ble_eq_true rfl⟩ rfl hl.1 rfl (Nat.le_of_ble_eq_true rfl) d_Reader_takeLineOf_62 ⟨Nat.zero_le _, Nat.zero_le _⟩) (fun r9 hN H locs hp X => ?_)
          obtain ⟨eh, eq7⟩ := hp
          replace eh := eh.symm
          subst eh
          refine lv_if_eq (tgt := 74) hx hb d_Reader_takeLineOf_65 (by decide) (fun c10 => ?_) (fun c10 => ?_)
          · skip
            refine lv_aload_n hx hb d_Reader_takeLineOf_74 rfl (lv_at hl 2 rfl) ?_
            refine mv_ldcS C X hlw8 d_Reader_takeLineOf_75 ?_
            refine mv_bi X (mv_rV (rest := []) (As := [.ref lw8]) gt_good C X k_5_60 (cm_String_equals hE hJ hbk (by decide) kkd kkv (x.old hlw81) (x.old hlw82)) kkd rfl rfl ⟨Nat.le_of_ble_eq_true rfl, Nat.le_of_ble_eq_true rfl⟩ rfl hl.1 rfl (Nat.le_of_ble_eq_true rfl) d_Reader_takeLineOf_77 ⟨Nat.zero_le _, Nat.zero_le _⟩) (fun r11 hN H locs hp X => ?_)
            obtain ⟨eh, eq8⟩ := hp
            replace eh := eh.symm
            subst eh
            refine lv_if_eq (tgt := 95) hx hb d_Reader_takeLineOf_80 (by decide) (fun c12 => ?_) (fun c12 => ?_)
            · skip
              refine lv_iconst (v := 0) hx hb d_Reader_takeLineOf_95 (by decide) ?_
              exact mq_iret hQ C X hr rfl hlk (by
                  have eKD : lkd (wV f (nF f en (wP f en bg 0)) (wP f en bg 1)) = 9 := by rw [hkdl, if_neg n0, if_neg n1, if_neg n2, if_neg (show ¬ eqB gkd (wP f en bg 1 - nF f en (wP f en bg 0)) (ltW 3).2 (ltW 3).1 = true from fun z => by rw [z] at eq3; exact absurd (eq3.symm.trans c2) (by decide)), if_neg (show ¬ eqB gkd (wP f en bg 1 - nF f en (wP f en bg 0)) (ltW 4).2 (ltW 4).1 = true from fun z => by rw [z] at eq4; exact absurd (eq4.symm.trans c4) (by decide)), if_neg (show ¬ eqB gkd (wP f en bg 1 - nF f en (wP f en bg 0)) (ltW 5).2 (ltW 5).1 = true from fun z => by rw [z] at eq5; exact absurd (eq5.symm.trans c6) (by decide)), if_neg (show ¬ eqB gkd (wP f en bg 1 - nF f en (wP f en bg 0)) (ltW 6).2 (ltW 6).1 = true from fun z => by rw [z] at eq6; exact absurd (eq6.symm.trans c8) (by decide)), if_neg (show ¬ eqB gkd (wP f en bg 1 - nF f en (wP f en bg 0)) (ltW 7).2 (ltW 7).1 = true from fun z => by rw [z] at eq7; exact absurd (eq7.symm.trans c10) (by decide)), if_neg (show ¬ eqB gkd (wP f en bg 1 - nF f en (wP f en bg 0)) (ltW 8).2 (ltW 8).1 = true from fun z => by rw [z] at eq8; exact absurd (eq8.symm.trans c12) (by decide))]
                  rw [eKD]; exact tkP_no x hR vfx.rf rfl) (by omega) (by omega) d_Reader_takeLineOf_96
            · skip
              refine lv_aload_n hx hb d_Reader_takeLineOf_83 rfl (lv_at hl 0 rfl) ?_
              refine lv_aload_n hx hb d_Reader_takeLineOf_84 rfl (lv_at hl 1 rfl) ?_
              refine mv_bi X (mv_rV (rest := []) (As := [.ref (ad 11 (ns - 1))]) gt_good C X k_5_109 (cm_Reader_takeBar hE hJ x hcE hR hnv hns hnp hnc hT0 hf6 hns0) (x.get (i := 6) (j := 0) h60) rfl rfl ⟨Nat.le_of_ble_eq_true rfl, Nat.le_of_ble_eq_true rfl⟩ rfl hl.1 rfl (Nat.le_of_ble_eq_true rfl) d_Reader_takeLineOf_85 ⟨Nat.zero_le _, Nat.zero_le _⟩) (fun r13 hN H locs hp X => ?_)
              have hq := hp
              refine lv_if_eq (tgt := 95) hx hb d_Reader_takeLineOf_88 (by decide) (fun c14 => ?_) (fun c14 => ?_)
              · skip
                refine lv_iconst (v := 0) hx hb d_Reader_takeLineOf_95 (by decide) ?_
                exact mq_iret hQ C X hr rfl hlk (by
                    have eKD : lkd (wV f (nF f en (wP f en bg 0)) (wP f en bg 1)) = 8 := by rw [hkdl, if_neg n0, if_neg n1, if_neg n2, if_neg (show ¬ eqB gkd (wP f en bg 1 - nF f en (wP f en bg 0)) (ltW 3).2 (ltW 3).1 = true from fun z => by rw [z] at eq3; exact absurd (eq3.symm.trans c2) (by decide)), if_neg (show ¬ eqB gkd (wP f en bg 1 - nF f en (wP f en bg 0)) (ltW 4).2 (ltW 4).1 = true from fun z => by rw [z] at eq4; exact absurd (eq4.symm.trans c4) (by decide)), if_neg (show ¬ eqB gkd (wP f en bg 1 - nF f en (wP f en bg 0)) (ltW 5).2 (ltW 5).1 = true from fun z => by rw [z] at eq5; exact absurd (eq5.symm.trans c6) (by decide)), if_neg (show ¬ eqB gkd (wP f en bg 1 - nF f en (wP f en bg 0)) (ltW 6).2 (ltW 6).1 = true from fun z => by rw [z] at eq6; exact absurd (eq6.symm.trans c8) (by decide)), if_neg (show ¬ eqB gkd (wP f en bg 1 - nF f en (wP f en bg 0)) (ltW 7).2 (ltW 7).1 = true from fun z => by rw [z] at eq7; exact absurd (eq7.symm.trans c10) (by decide)), if_pos (bI_n (fun z => c12 (eq8.trans z)))]
                    rw [eKD, (okLn_s hns0).2.2.2.2.2]; rw [c14] at hq; exact hq) (by omega) (by omega) d_Reader_takeLineOf_96
              · skip
                refine lv_iconst (v := 1) hx hb d_Reader_takeLineOf_91 (by decide) ?_
                refine lv_goto (tgt := 96) hx hb d_Reader_takeLineOf_92 (by decide) ?_
                exact mq_iret hQ C X hr rfl hlk (by
                    have eKD : lkd (wV f (nF f en (wP f en bg 0)) (wP f en bg 1)) = 8 := by rw [hkdl, if_neg n0, if_neg n1, if_neg n2, if_neg (show ¬ eqB gkd (wP f en bg 1 - nF f en (wP f en bg 0)) (ltW 3).2 (ltW 3).1 = true from fun z => by rw [z] at eq3; exact absurd (eq3.symm.trans c2) (by decide)), if_neg (show ¬ eqB gkd (wP f en bg 1 - nF f en (wP f en bg 0)) (ltW 4).2 (ltW 4).1 = true from fun z => by rw [z] at eq4; exact absurd (eq4.symm.trans c4) (by decide)), if_neg (show ¬ eqB gkd (wP f en bg 1 - nF f en (wP f en bg 0)) (ltW 5).2 (ltW 5).1 = true from fun z => by rw [z] at eq5; exact absurd (eq5.symm.trans c6) (by decide)), if_neg (show ¬ eqB gkd (wP f en bg 1 - nF f en (wP f en bg 0)) (ltW 6).2 (ltW 6).1 = true from fun z => by rw [z] at eq6; exact absurd (eq6.symm.trans c8) (by decide)), if_neg (show ¬ eqB gkd (wP f en bg 1 - nF f en (wP f en bg 0)) (ltW 7).2 (ltW 7).1 = true from fun z => by rw [z] at eq7; exact absurd (eq7.symm.trans c10) (by decide)), if_pos (bI_n (fun z => c12 (eq8.trans z)))]
                    rw [eKD, (okLn_s hns0).2.2.2.2.2]; exact tkP_1 hq c14) (by omega) (by omega) d_Reader_takeLineOf_96
          · skip
            refine lv_aload_n hx hb d_Reader_takeLineOf_68 rfl (lv_at hl 0 rfl) ?_
            refine lv_aload_n hx hb d_Reader_takeLineOf_69 rfl (lv_at hl 1 rfl) ?_
            refine mv_bi X (mv_rV (rest := []) (As := [.ref (ad 11 (ns - 1))]) gt_good C X k_5_104 (cm_Reader_takeKey hE hJ x hcE hR hnv hns hnp hnc hT0 hf6 hns0) (x.get (i := 6) (j := 0) h60) rfl rfl ⟨Nat.le_of_ble_eq_true rfl, Nat.le_of_ble_eq_true rfl⟩ rfl hl.1 rfl (Nat.le_of_ble_eq_true rfl) d_Reader_takeLineOf_70 ⟨Nat.zero_le _, Nat.zero_le _⟩) (fun r15 hN H locs hp X => ?_)
            have hq := hp
            exact mq_iret hQ C X hr (tkP_nar hq) hlk (by
                have eKD : lkd (wV f (nF f en (wP f en bg 0)) (wP f en bg 1)) = 7 := by rw [hkdl, if_neg n0, if_neg n1, if_neg n2, if_neg (show ¬ eqB gkd (wP f en bg 1 - nF f en (wP f en bg 0)) (ltW 3).2 (ltW 3).1 = true from fun z => by rw [z] at eq3; exact absurd (eq3.symm.trans c2) (by decide)), if_neg (show ¬ eqB gkd (wP f en bg 1 - nF f en (wP f en bg 0)) (ltW 4).2 (ltW 4).1 = true from fun z => by rw [z] at eq4; exact absurd (eq4.symm.trans c4) (by decide)), if_neg (show ¬ eqB gkd (wP f en bg 1 - nF f en (wP f en bg 0)) (ltW 5).2 (ltW 5).1 = true from fun z => by rw [z] at eq5; exact absurd (eq5.symm.trans c6) (by decide)), if_neg (show ¬ eqB gkd (wP f en bg 1 - nF f en (wP f en bg 0)) (ltW 6).2 (ltW 6).1 = true from fun z => by rw [z] at eq6; exact absurd (eq6.symm.trans c8) (by decide)), if_pos (bI_n (fun z => c10 (eq7.trans z)))]
                rw [eKD, (okLn_s hns0).2.2.2.2.1]; exact hq) (by omega) (by omega) d_Reader_takeLineOf_73
        · skip
          refine lv_aload_n hx hb d_Reader_takeLineOf_54 rfl (lv_at hl 0 rfl) ?_
          refine mv_bi X (mv_rV (rest := []) (As := []) gt_good C X k_5_99 (cm_Reader_takeIf hE hJ x hcE hR hnv hns hnp hnc hT0 hf6 hlt hlt1 hlt2 hle hle1 hle2 hle3 hll hll1 hll2 hll3 hlg hlg1 hlg2 hlg3) (x.get (i := 6) (j := 0) h60) rfl rfl ⟨Nat.le_of_ble_eq_true rfl, Nat.le_of_ble_eq_true rfl⟩ rfl hl.1 rfl (Nat.le_of_ble_eq_true rfl) d_Reader_takeLineOf_55 ⟨by show 0 + 4 ≤ 6; omega, by show 0 + (20 + (en - bg)) ≤ (40 + 2 * np + 2 * (en - bg)); omega⟩) (fun r16 hN H locs hp X => ?_)
          have hq := hp
          exact mq_iret hQ C X hr (tkP_nar hq) hlk (by
              have eKD : lkd (wV f (nF f en (wP f en bg 0)) (wP f en bg 1)) = 6 := by rw [hkdl, if_neg n0, if_neg n1, if_neg n2, if_neg (show ¬ eqB gkd (wP f en bg 1 - nF f en (wP f en bg 0)) (ltW 3).2 (ltW 3).1 = true from fun z => by rw [z] at eq3; exact absurd (eq3.symm.trans c2) (by decide)), if_neg (show ¬ eqB gkd (wP f en bg 1 - nF f en (wP f en bg 0)) (ltW 4).2 (ltW 4).1 = true from fun z => by rw [z] at eq4; exact absurd (eq4.symm.trans c4) (by decide)), if_neg (show ¬ eqB gkd (wP f en bg 1 - nF f en (wP f en bg 0)) (ltW 5).2 (ltW 5).1 = true from fun z => by rw [z] at eq5; exact absurd (eq5.symm.trans c6) (by decide)), if_pos (bI_n (fun z => c8 (eq6.trans z)))]
              rw [eKD, (okLn_s hns0).2.2.2.1]; exact hq) (by omega) (by omega) d_Reader_takeLineOf_58
      · skip
        refine lv_aload_n hx hb d_Reader_takeLineOf_39 rfl (lv_at hl 0 rfl) ?_
        refine lv_aload_n hx hb d_Reader_takeLineOf_40 rfl (lv_at hl 1 rfl) ?_
        refine mv_bi X (mv_rV (rest := []) (As := [.ref (ad 11 (ns - 1))]) gt_good C X k_5_94 (cm_Reader_takeShow hE hJ x hcE hR hnv hns hnp hnc hT0 hf6 hns0) (x.get (i := 6) (j := 0) h60) rfl rfl ⟨Nat.le_of_ble_eq_true rfl, Nat.le_of_ble_eq_true rfl⟩ rfl hl.1 rfl (Nat.le_of_ble_eq_true rfl) d_Reader_takeLineOf_41 ⟨by show 0 + 2 ≤ 6; omega, by show 0 + (20 + 2 * np) ≤ (40 + 2 * np + 2 * (en - bg)); omega⟩) (fun r17 hN H locs hp X => ?_)
        have hq := hp
        exact mq_iret hQ C X hr (tkP_nar hq) hlk (by
            have eKD : lkd (wV f (nF f en (wP f en bg 0)) (wP f en bg 1)) = 5 := by rw [hkdl, if_neg n0, if_neg n1, if_neg n2, if_neg (show ¬ eqB gkd (wP f en bg 1 - nF f en (wP f en bg 0)) (ltW 3).2 (ltW 3).1 = true from fun z => by rw [z] at eq3; exact absurd (eq3.symm.trans c2) (by decide)), if_neg (show ¬ eqB gkd (wP f en bg 1 - nF f en (wP f en bg 0)) (ltW 4).2 (ltW 4).1 = true from fun z => by rw [z] at eq4; exact absurd (eq4.symm.trans c4) (by decide)), if_pos (bI_n (fun z => c6 (eq5.trans z)))]
            rw [eKD, (okLn_s hns0).2.2.1]; exact hq) (by omega) (by omega) d_Reader_takeLineOf_44
    · skip
      refine lv_aload_n hx hb d_Reader_takeLineOf_24 rfl (lv_at hl 0 rfl) ?_
      refine lv_aload_n hx hb d_Reader_takeLineOf_25 rfl (lv_at hl 1 rfl) ?_
      refine mv_bi X (mv_rV (rest := []) (As := [.ref (ad 11 (ns - 1))]) gt_good C X k_5_89 (cm_Reader_takeSay hE hJ x hcE hR hnv hns hnp hnc hT0 hf6 hns0 hlt hlt1 hlt2 hdl hdl1 hdl2 hdl3) (x.get (i := 6) (j := 0) h60) rfl rfl ⟨Nat.le_of_ble_eq_true rfl, Nat.le_of_ble_eq_true rfl⟩ rfl hl.1 rfl (Nat.le_of_ble_eq_true rfl) d_Reader_takeLineOf_26 ⟨by show 0 + 6 ≤ 6; omega, by show 0 + (40 + 2 * np + 2 * (en - bg)) ≤ (40 + 2 * np + 2 * (en - bg)); omega⟩) (fun r18 hN H locs hp X => ?_)
      have hq := hp
      exact mq_iret hQ C X hr (tkP_nar hq) hlk (by
          have eKD : lkd (wV f (nF f en (wP f en bg 0)) (wP f en bg 1)) = 4 := by rw [hkdl, if_neg n0, if_neg n1, if_neg n2, if_neg (show ¬ eqB gkd (wP f en bg 1 - nF f en (wP f en bg 0)) (ltW 3).2 (ltW 3).1 = true from fun z => by rw [z] at eq3; exact absurd (eq3.symm.trans c2) (by decide)), if_pos (bI_n (fun z => c4 (eq4.trans z)))]
          rw [eKD, (okLn_s hns0).2.1]; exact hq) (by omega) (by omega) d_Reader_takeLineOf_29
  · skip
    refine lv_aload_n hx hb d_Reader_takeLineOf_9 rfl (lv_at hl 0 rfl) ?_
    refine lv_aload_n hx hb d_Reader_takeLineOf_10 rfl (lv_at hl 1 rfl) ?_
    refine mv_bi X (mv_rV (rest := []) (As := [.ref (ad 11 (ns - 1))]) gt_good C X k_5_83 (cm_Reader_takePut hE hJ x hcE hR hnv hns hnp hnc hT0 hf6 hns0 hlt hlt1 hlt2) (x.get (i := 6) (j := 0) h60) rfl rfl ⟨Nat.le_of_ble_eq_true rfl, Nat.le_of_ble_eq_true rfl⟩ rfl hl.1 rfl (Nat.le_of_ble_eq_true rfl) d_Reader_takeLineOf_11 ⟨by show 0 + 4 ≤ 6; omega, by show 0 + (30 + 2 * np + (en - bg)) ≤ (40 + 2 * np + 2 * (en - bg)); omega⟩) (fun r19 hN H locs hp X => ?_)
    have hq := hp
    exact mq_iret hQ C X hr (tkP_nar hq) hlk (by
        have eKD : lkd (wV f (nF f en (wP f en bg 0)) (wP f en bg 1)) = 3 := by rw [hkdl, if_neg n0, if_neg n1, if_neg n2, if_pos (bI_n (fun z => c2 (eq3.trans z)))]
        rw [eKD, (okLn_s hns0).1]; exact hq) (by omega) (by omega) d_Reader_takeLineOf_14
