theorem d_MenuScreens_value_0 : decode prog_1_method_4_code 0 = .ok (.aload_n 0, 1) := by decide +kernel
theorem d_MenuScreens_value_1 : decode prog_1_method_4_code 1 = .ok (.getfield 34, 3) := by decide +kernel
theorem d_MenuScreens_value_4 : decode prog_1_method_4_code 4 = .ok (.iload_n 1, 1) := by decide +kernel
theorem d_MenuScreens_value_5 : decode prog_1_method_4_code 5 = .ok (.invokevirtual 91, 3) := by decide +kernel
theorem d_MenuScreens_value_8 : decode prog_1_method_4_code 8 = .ok (.astore 5, 2) := by decide +kernel
theorem d_MenuScreens_value_10 : decode prog_1_method_4_code 10 = .ok (.aload 5, 2) := by decide +kernel
theorem d_MenuScreens_value_12 : decode prog_1_method_4_code 12 = .ok (.ifnonnull 5, 3) := by decide +kernel
theorem d_MenuScreens_value_15 : decode prog_1_method_4_code 15 = .ok (.iconst (-1), 1) := by decide +kernel
theorem d_MenuScreens_value_16 : decode prog_1_method_4_code 16 = .ok (.ireturn, 1) := by decide +kernel
theorem d_MenuScreens_value_17 : decode prog_1_method_4_code 17 = .ok (.lload_n 2, 1) := by decide +kernel
theorem d_MenuScreens_value_18 : decode prog_1_method_4_code 18 = .ok (.ldc2_w 95, 3) := by decide +kernel
theorem d_MenuScreens_value_21 : decode prog_1_method_4_code 21 = .ok (.lcmp, 1) := by decide +kernel
theorem d_MenuScreens_value_22 : decode prog_1_method_4_code 22 = .ok (.ifCond .lt 11, 3) := by decide +kernel
theorem d_MenuScreens_value_25 : decode prog_1_method_4_code 25 = .ok (.lload_n 2, 1) := by decide +kernel
theorem d_MenuScreens_value_26 : decode prog_1_method_4_code 26 = .ok (.ldc2_w 97, 3) := by decide +kernel
theorem d_MenuScreens_value_29 : decode prog_1_method_4_code 29 = .ok (.lcmp, 1) := by decide +kernel
theorem d_MenuScreens_value_30 : decode prog_1_method_4_code 30 = .ok (.ifCond .le 6, 3) := by decide +kernel
theorem d_MenuScreens_value_33 : decode prog_1_method_4_code 33 = .ok (.bipush (-2), 2) := by decide +kernel
theorem d_MenuScreens_value_35 : decode prog_1_method_4_code 35 = .ok (.ireturn, 1) := by decide +kernel
theorem d_MenuScreens_value_36 : decode prog_1_method_4_code 36 = .ok (.aload 5, 2) := by decide +kernel
theorem d_MenuScreens_value_38 : decode prog_1_method_4_code 38 = .ok (.getfield 99, 3) := by decide +kernel
theorem d_MenuScreens_value_41 : decode prog_1_method_4_code 41 = .ok (.ifCond .eq 6, 3) := by decide +kernel
theorem d_MenuScreens_value_44 : decode prog_1_method_4_code 44 = .ok (.bipush (-3), 2) := by decide +kernel
theorem d_MenuScreens_value_46 : decode prog_1_method_4_code 46 = .ok (.ireturn, 1) := by decide +kernel
theorem d_MenuScreens_value_47 : decode prog_1_method_4_code 47 = .ok (.aload 5, 2) := by decide +kernel
theorem d_MenuScreens_value_49 : decode prog_1_method_4_code 49 = .ok (.lload_n 2, 1) := by decide +kernel
theorem d_MenuScreens_value_50 : decode prog_1_method_4_code 50 = .ok (.putfield 105, 3) := by decide +kernel
theorem d_MenuScreens_value_53 : decode prog_1_method_4_code 53 = .ok (.aload 5, 2) := by decide +kernel
theorem d_MenuScreens_value_55 : decode prog_1_method_4_code 55 = .ok (.iload 4, 2) := by decide +kernel
theorem d_MenuScreens_value_57 : decode prog_1_method_4_code 57 = .ok (.putfield 109, 3) := by decide +kernel
theorem d_MenuScreens_value_60 : decode prog_1_method_4_code 60 = .ok (.iconst 1, 1) := by decide +kernel
theorem d_MenuScreens_value_61 : decode prog_1_method_4_code 61 = .ok (.ireturn, 1) := by decide +kernel
set_option maxRecDepth 100000 in
set_option maxHeartbeats 4000000 in
theorem cm_MenuScreens_value {l : Launch} {S0 : State} {b : Nat} {D : va_G} {dT : Nat → ClassId} (hE : vEnv S0 b D dT) {dE mO : Nat} (hJ : vJ S0 dE mO) {h0 : vH} {hcv : vH} {ad : Nat → Nat → Nat} {L : vL} {cap : Nat} {x : Nat → Int32} {y : Nat → Int64} {A : Nat → Nat → Int32} {B : Nat → Nat → Int64} (xl : LH S0.heap.size hcv h0 ad L) (hC : CR dT dE h0 ad L cap x y A B) (hcE : ∃ fE, hcv dE = some (aR dT 0 fE)) {p1 p3 : Int32} {p2 : Int64} (hb3 : narrow .boolean (.int p3) = .int p3) (hb4 : fits .boolean (.int p3) = true) : vMi l S0 D vcl GT y_MenuScreens_value prog_1_method_4_code 6 (some .int) 4 85 0 0 [.ref (ad 0 0), .int p1, .long p2, .int p3] h0 (fun r h' => clP dT dE S0.heap.size hcv h0 ad L cap (fun r x' y' A' B' => (x' = upd x 0 0 ∧ y' = y ∧ ∃ nv, x 12 = nI nv ∧ nv ≤ 40 ∧ ((p1 < 1 ∨ x 12 < p1) ∧ r = -1 ∧ A' = A ∧ B' = B ∨ ∃ j, 1 ≤ j ∧ j ≤ nv ∧ p1 = nI j ∧ ((p2 < -999999 ∨ 999999 < p2) ∧ r = -2 ∧ A' = A ∧ B' = B ∨ ¬ p2 < -999999 ∧ ¬ 999999 < p2 ∧ ¬ A 15 j = 0 ∧ r = -3 ∧ A' = A ∧ B' = B ∨ ¬ p2 < -999999 ∧ ¬ 999999 < p2 ∧ A 15 j = 0 ∧ r = 1 ∧ A' = va_up A 19 (upd (A 19) j p3) ∧ B' = va_up B 18 (vp_updL (B 18) j p2))))) r h') := by
  unfold vMi
  refine vM_ofQ hE.1 (by decide) (Nat.le_of_ble_eq_true rfl) (fun p e s m args below meth c ls Q hQ C hr hlk hnm X hl => ?_)
  have C : vC p s m _ c _ _ "MenuScreens" GT D vcl (vty dT) := C
  have hx := C.1.1
  have hb := C.1.2.1
  obtain ⟨H, eH⟩ : ∃ z, z = s.heap := ⟨_, rfl⟩
  obtain ⟨locs, elocs⟩ : ∃ z : List Loc, z = [] := ⟨_, rfl⟩
  rw [← eH, ← elocs] at X
  rw [← eH, ← elocs]
  clear eH elocs
  have hl : lv_has ls 6 [(0, .ref (ad 0 0)), (1, .int p1), (2, .long p2), (4, .int p3)] := hl
  have hC0 := hC
  obtain ⟨⟨sp, bl, hTop, hsp, hlm⟩, hdim, ⟨n3, e3, hBld⟩, ⟨n50, e50, hWr⟩, ⟨nr, e48, hPl⟩, hRe, hLi, ⟨nv, ns, np, nc, pf, cb, ce, cs, c0, lh, hnum, hpr, hRP, hTx, hrn⟩, hkey, hsm⟩ := hC0
  have hTop2 : L 0 0 = some (.inr (3, [.int (x 1), .int (x 2), .ref (ad 1 0), .ref (ad 6 0), .ref (ad 2 0), .ref (ad 8 0), .int (x 45), .int sp, .int (x 46), .int bl, .int (x 55), .long (y 56), .long (y 57)])) := hTop
  refine lv_aload_n hx hb d_MenuScreens_value_0 rfl (lv_at hl 0 rfl) ?_
  refine mv_get C X (xl.get (i := 0) (j := 0) hTop2) 4 f_0_34_3 (v := .ref (ad 2 0)) rfl d_MenuScreens_value_1 ?_
  refine lv_iload_n hx hb d_MenuScreens_value_4 rfl (lv_at hl 1 rfl) ?_
  obtain ⟨hPl1, hPl2, fr0, hPl3, hPl4⟩ := hPl
  obtain ⟨fE, hcE2⟩ := hcE
  obtain ⟨ea, cap2, fl, md, hLs, hfl, hLL, hea⟩ := hRP.1.1.hp xl hcE2
  obtain ⟨kl, wl, ke, ⟨hncap, hcap⟩, hd⟩ := hLs
  obtain ⟨env, hnv, ens, hns⟩ := hnum
  refine mv_bq X (mv_rV (rest := []) (As := [.int p1]) gt_good C X k_0_91 (cm_Plan_valueNumbered hE (g := ad 10) (fs := fun k => _) hncap (by omega) hfl (fun k hk => xl.get (i := 10) (j := k) (hRP.1.2 k hk)) (xl.get (i := 2) (j := 0) hPl1) kl ke) (xl.get (i := 2) (j := 0) hPl1) rfl rfl ⟨Nat.le_of_ble_eq_true rfl, Nat.le_of_ble_eq_true rfl⟩ rfl hl.1 rfl (Nat.le_of_ble_eq_true rfl) d_MenuScreens_value_5 ⟨Nat.zero_le _, Nat.zero_le _⟩) (fun r1 hN H locs hp X => ?_)
  obtain ⟨eh, hq⟩ := hp
  replace eh := eh.symm
  subst eh
  rcases hq with ⟨hq, er⟩ | ⟨k, hk, ek, er⟩
  · subst er
    change W _ _ _ _ _ _ _ _ _ _ _ _ _ _ _ (F0 _ _ _ (.null :: _))
    refine lv_astoreN (lv' := [(5, .null), (0, .ref (ad 0 0)), (1, .int p1), (2, .long p2), (4, .int p3)]) hx hb d_MenuScreens_value_8 hl (by decide) rfl (fun ls hl => ?_)
    refine lv_aloadN hx hb d_MenuScreens_value_10 (lv_at hl 0 rfl) ?_
    refine lv_ifnonnullN hx hb d_MenuScreens_value_12 ?_
    refine lv_iconst (v := (-1)) hx hb d_MenuScreens_value_15 (by decide) ?_
    exact mq_iret hQ C X hr rfl hlk (⟨ad, L, LR.of xl, ⟨fun _ _ => ⟨rfl, rfl⟩, rfl⟩, fun r' x' y' A' B' hst => by
        obtain ⟨a1, a2, n2, a3, a4, a5⟩ := hst
        subst a1 a2
        have en : n2 = nv := nI_eqI (by omega) (by omega) (a3.symm.trans env)
        subst en
        rcases a5 with ⟨u1, u2, u3, u4⟩ | ⟨j, u1, u2, u3, a6⟩
        · subst u2 u3 u4; exact ⟨rfl, hC.same⟩
        · exfalso
          rcases hq with q | q
          · rw [u3] at q; exact nI_nlt (b := 1) u1 (by omega) q
          · rw [u3] at q; have := (nI_ltI (by omega) (by omega)).mp q; omega⟩) (by omega) (by omega) d_MenuScreens_value_16
  · subst er
    change W _ _ _ _ _ _ _ _ _ _ _ _ _ _ _ (F0 _ _ _ (.ref (ad 10 k) :: _))
    have hV := hRP.1.2 k hk
    refine lv_astore (lv' := [(5, .ref (ad 10 k)), (0, .ref (ad 0 0)), (1, .int p1), (2, .long p2), (4, .int p3)]) hx hb d_MenuScreens_value_8 hl (by decide) rfl (fun ls hl => ?_)
    refine lv_aload hx hb d_MenuScreens_value_10 (lv_at hl 0 rfl) ?_
    refine lv_ifnonnull (tgt := 17) hx hb d_MenuScreens_value_12 (by decide) ?_
    refine lv_lload_n hx hb d_MenuScreens_value_17 rfl (lv_at hl 3 rfl) ?_
    refine lv_ldc2 (v := (-999999)) hx hb C.1.2.2.2.1 (C.1.2.2.2.2 _ (gt_4 116 (by decide +kernel) rfl)) d_MenuScreens_value_18 ?_
    refine W.lcmp hx hb d_MenuScreens_value_21 ?_
    refine lv_if_lt (tgt := 33) hx hb d_MenuScreens_value_22 (by decide) (fun c2 => ?_) (fun c2 => ?_)
    · skip
      refine lv_bipush (v := (-2)) hx hb d_MenuScreens_value_33 (by decide) ?_
      exact mq_iret hQ C X hr rfl hlk (⟨ad, L, LR.of xl, ⟨fun _ _ => ⟨rfl, rfl⟩, rfl⟩, fun r' x' y' A' B' hst => by
          obtain ⟨a1, a2, n2, a3, a4, a5⟩ := hst
          subst a1 a2
          have en : n2 = nv := nI_eqI (by omega) (by omega) (a3.symm.trans env)
          subst en
          rcases a5 with ⟨u1, u2, u3, u4⟩ | ⟨j, u1, u2, u3, a6⟩
          · exfalso
            rcases u1 with q | q
            · rw [ek] at q; exact nI_nlt (b := 1) (by omega) (by omega) q
            · rw [ek, a3] at q; have := (nI_ltI (by omega) (by omega)).mp q; omega
          have ej : j = k + 1 := nI_eqI (by omega) (by omega) (u3.symm.trans ek)
          subst ej
          rcases a6 with ⟨d1, d2, d3, d4⟩ | ⟨d1, d2, d3, d4, d5, d6⟩ | ⟨d1, d2, d3, d4, d5, d6⟩
          · subst d2 d3 d4; exact ⟨rfl, hC.same⟩
          · exact absurd ((lg_cmp_lt _ _).mp c2) d1
          · exact absurd ((lg_cmp_lt _ _).mp c2) d1⟩) (by omega) (by omega) d_MenuScreens_value_35
    · skip
      refine lv_lload_n hx hb d_MenuScreens_value_25 rfl (lv_at hl 3 rfl) ?_
      refine lv_ldc2 (v := 999999) hx hb C.1.2.2.2.1 (C.1.2.2.2.2 _ (gt_4 117 (by decide +kernel) rfl)) d_MenuScreens_value_26 ?_
      refine W.lcmp hx hb d_MenuScreens_value_29 ?_
      refine lv_if_le (tgt := 36) hx hb d_MenuScreens_value_30 (by decide) (fun c3 => ?_) (fun c3 => ?_)
      · skip
        refine lv_aload hx hb d_MenuScreens_value_36 (lv_at hl 0 rfl) ?_
        refine mv_get C X (xl.get (i := 10) (j := k) hV) 1 f_0_99_8 (v := .int (A 15 (k + 1))) rfl d_MenuScreens_value_38 ?_
        refine lv_if_eq (tgt := 47) hx hb d_MenuScreens_value_41 (by decide) (fun c4 => ?_) (fun c4 => ?_)
        · skip
          refine lv_aload hx hb d_MenuScreens_value_47 (lv_at hl 0 rfl) ?_
          refine lv_lload_n hx hb d_MenuScreens_value_49 rfl (lv_at hl 3 rfl) ?_
          refine mv_put C X (xl.get (i := 10) (j := k) hV) (xl.wr (i := 10) (j := k) hV) 4 p_0_105_8 rfl rfl (Nat.le_of_ble_eq_true rfl) d_MenuScreens_value_50 (fun H locs X => ?_)
          have X : vO S0 D vcl (vup h0 (ad 10 k) (.inr (8, [.long (nmV A 13 14 (k + 1)), .int (A 15 (k + 1)), .long (if A 15 (k + 1) = 0 then -999999 else B 16 (k + 1)), .long (if A 15 (k + 1) = 0 then 999999 else B 17 (k + 1)), .long p2, .int (A 19 (k + 1))]))) s H locs := X
          refine lv_aload hx hb d_MenuScreens_value_53 (lv_at hl 0 rfl) ?_
          refine lv_iload hx hb d_MenuScreens_value_55 (lv_at hl 4 rfl) ?_
          refine mv_put C X (vup_s _ _ _) (xl.wr (i := 10) (j := k) hV) 5 p_0_109_8 hb3 hb4 (Nat.le_of_ble_eq_true rfl) d_MenuScreens_value_57 (fun H locs X => ?_)
          rw [vup_u] at X
          have X : vO S0 D vcl (vup h0 (ad 10 k) (.inr (8, [.long (nmV A 13 14 (k + 1)), .int (A 15 (k + 1)), .long (if A 15 (k + 1) = 0 then -999999 else B 16 (k + 1)), .long (if A 15 (k + 1) = 0 then 999999 else B 17 (k + 1)), .long p2, .int p3]))) s H locs := X
          refine lv_iconst (v := 1) hx hb d_MenuScreens_value_60 (by decide) ?_
          exact mq_iret hQ C X hr rfl hlk (⟨ad, _, (LR.of xl).put (i := 10) (j := k) hV, ⟨fun i hi => ⟨lput_k _ _ (by omega), rfl⟩, rfl⟩, fun r' x' y' A' B' hst => by
              obtain ⟨a1, a2, n2, a3, a4, a5⟩ := hst
              subst a1 a2
              have en : n2 = nv := nI_eqI (by omega) (by omega) (a3.symm.trans env)
              subst en
              rcases a5 with ⟨u1, u2, u3, u4⟩ | ⟨j, u1, u2, u3, a6⟩
              · exfalso
                rcases u1 with q | q
                · rw [ek] at q; exact nI_nlt (b := 1) (by omega) (by omega) q
                · rw [ek, a3] at q; have := (nI_ltI (by omega) (by omega)).mp q; omega
              have ej : j = k + 1 := nI_eqI (by omega) (by omega) (u3.symm.trans ek)
              subst ej
              have g1 : ¬ p2 < -999999 := fun z => c2 ((lg_cmp_lt _ _).mpr z)
              have g2 : ¬ 999999 < p2 := Int64.not_lt.mpr ((lg_cmp_le _ _).mp c3)
              rcases a6 with ⟨d1, d2, d3, d4⟩ | ⟨d1, d2, d3, d4, d5, d6⟩ | ⟨d1, d2, d3, d4, d5, d6⟩
              · exfalso; rcases d1 with z | z
                · exact g1 z
                · exact g2 z
              · exact absurd c4 d3
              · subst d4 d5 d6
                exact ⟨rfl, hC.val env hnv hk rfl ((LR.of xl).put (i := 10) (j := k) hV).2 (smL_of g1 g2)⟩⟩) (by omega) (by omega) d_MenuScreens_value_61
        · skip
          refine lv_bipush (v := (-3)) hx hb d_MenuScreens_value_44 (by decide) ?_
          exact mq_iret hQ C X hr rfl hlk (⟨ad, L, LR.of xl, ⟨fun _ _ => ⟨rfl, rfl⟩, rfl⟩, fun r' x' y' A' B' hst => by
              obtain ⟨a1, a2, n2, a3, a4, a5⟩ := hst
              subst a1 a2
              have en : n2 = nv := nI_eqI (by omega) (by omega) (a3.symm.trans env)
              subst en
              rcases a5 with ⟨u1, u2, u3, u4⟩ | ⟨j, u1, u2, u3, a6⟩
              · exfalso
                rcases u1 with q | q
                · rw [ek] at q; exact nI_nlt (b := 1) (by omega) (by omega) q
                · rw [ek, a3] at q; have := (nI_ltI (by omega) (by omega)).mp q; omega
              have ej : j = k + 1 := nI_eqI (by omega) (by omega) (u3.symm.trans ek)
              subst ej
              have g1 : ¬ p2 < -999999 := fun z => c2 ((lg_cmp_lt _ _).mpr z)
              have g2 : ¬ 999999 < p2 := Int64.not_lt.mpr ((lg_cmp_le _ _).mp c3)
              rcases a6 with ⟨d1, d2, d3, d4⟩ | ⟨d1, d2, d3, d4, d5, d6⟩ | ⟨d1, d2, d3, d4, d5, d6⟩
              · exfalso; rcases d1 with z | z
                · exact g1 z
                · exact g2 z
              · subst d4 d5 d6; exact ⟨rfl, hC.same⟩
              · exact absurd d3 c4⟩) (by omega) (by omega) d_MenuScreens_value_46
      · skip
        refine lv_bipush (v := (-2)) hx hb d_MenuScreens_value_33 (by decide) ?_
        exact mq_iret hQ C X hr rfl hlk (⟨ad, L, LR.of xl, ⟨fun _ _ => ⟨rfl, rfl⟩, rfl⟩, fun r' x' y' A' B' hst => by
            obtain ⟨a1, a2, n2, a3, a4, a5⟩ := hst
            subst a1 a2
            have en : n2 = nv := nI_eqI (by omega) (by omega) (a3.symm.trans env)
            subst en
            rcases a5 with ⟨u1, u2, u3, u4⟩ | ⟨j, u1, u2, u3, a6⟩
            · exfalso
              rcases u1 with q | q
              · rw [ek] at q; exact nI_nlt (b := 1) (by omega) (by omega) q
              · rw [ek, a3] at q; have := (nI_ltI (by omega) (by omega)).mp q; omega
            have ej : j = k + 1 := nI_eqI (by omega) (by omega) (u3.symm.trans ek)
            subst ej
            rcases a6 with ⟨d1, d2, d3, d4⟩ | ⟨d1, d2, d3, d4, d5, d6⟩ | ⟨d1, d2, d3, d4, d5, d6⟩
            · subst d2 d3 d4; exact ⟨rfl, hC.same⟩
            · exact absurd ((Int64.not_le.mp (fun z => c3 ((lg_cmp_le _ _).mpr z)))) d2
            · exact absurd ((Int64.not_le.mp (fun z => c3 ((lg_cmp_le _ _).mpr z)))) d2⟩) (by omega) (by omega) d_MenuScreens_value_35
theorem d_MenuScreens_setting_0 : decode prog_1_method_15_code 0 = .ok (.aload_n 0, 1) := by decide +kernel
theorem d_MenuScreens_setting_1 : decode prog_1_method_15_code 1 = .ok (.getfield 34, 3) := by decide +kernel
theorem d_MenuScreens_setting_4 : decode prog_1_method_15_code 4 = .ok (.iload_n 1, 1) := by decide +kernel
theorem d_MenuScreens_setting_5 : decode prog_1_method_15_code 5 = .ok (.invokevirtual 91, 3) := by decide +kernel
theorem d_MenuScreens_setting_8 : decode prog_1_method_15_code 8 = .ok (.astore 4, 2) := by decide +kernel
theorem d_MenuScreens_setting_10 : decode prog_1_method_15_code 10 = .ok (.aload 4, 2) := by decide +kernel
theorem d_MenuScreens_setting_12 : decode prog_1_method_15_code 12 = .ok (.ifnonnull 5, 3) := by decide +kernel
theorem d_MenuScreens_setting_15 : decode prog_1_method_15_code 15 = .ok (.iconst (-1), 1) := by decide +kernel
theorem d_MenuScreens_setting_16 : decode prog_1_method_15_code 16 = .ok (.ireturn, 1) := by decide +kernel
theorem d_MenuScreens_setting_17 : decode prog_1_method_15_code 17 = .ok (.aload 4, 2) := by decide +kernel
theorem d_MenuScreens_setting_19 : decode prog_1_method_15_code 19 = .ok (.getfield 99, 3) := by decide +kernel
theorem d_MenuScreens_setting_22 : decode prog_1_method_15_code 22 = .ok (.ifCond .ne 6, 3) := by decide +kernel
theorem d_MenuScreens_setting_25 : decode prog_1_method_15_code 25 = .ok (.bipush (-3), 2) := by decide +kernel
theorem d_MenuScreens_setting_27 : decode prog_1_method_15_code 27 = .ok (.ireturn, 1) := by decide +kernel
theorem d_MenuScreens_setting_28 : decode prog_1_method_15_code 28 = .ok (.lload_n 2, 1) := by decide +kernel
theorem d_MenuScreens_setting_29 : decode prog_1_method_15_code 29 = .ok (.aload 4, 2) := by decide +kernel
theorem d_MenuScreens_setting_31 : decode prog_1_method_15_code 31 = .ok (.getfield 172, 3) := by decide +kernel
theorem d_MenuScreens_setting_34 : decode prog_1_method_15_code 34 = .ok (.lcmp, 1) := by decide +kernel
theorem d_MenuScreens_setting_35 : decode prog_1_method_15_code 35 = .ok (.ifCond .lt 13, 3) := by decide +kernel
theorem d_MenuScreens_setting_38 : decode prog_1_method_15_code 38 = .ok (.lload_n 2, 1) := by decide +kernel
theorem d_MenuScreens_setting_39 : decode prog_1_method_15_code 39 = .ok (.aload 4, 2) := by decide +kernel
theorem d_MenuScreens_setting_41 : decode prog_1_method_15_code 41 = .ok (.getfield 175, 3) := by decide +kernel
theorem d_MenuScreens_setting_44 : decode prog_1_method_15_code 44 = .ok (.lcmp, 1) := by decide +kernel
theorem d_MenuScreens_setting_45 : decode prog_1_method_15_code 45 = .ok (.ifCond .le 5, 3) := by decide +kernel
theorem d_MenuScreens_setting_48 : decode prog_1_method_15_code 48 = .ok (.iconst 0, 1) := by decide +kernel
theorem d_MenuScreens_setting_49 : decode prog_1_method_15_code 49 = .ok (.ireturn, 1) := by decide +kernel
theorem d_MenuScreens_setting_50 : decode prog_1_method_15_code 50 = .ok (.aload 4, 2) := by decide +kernel
theorem d_MenuScreens_setting_52 : decode prog_1_method_15_code 52 = .ok (.lload_n 2, 1) := by decide +kernel
theorem d_MenuScreens_setting_53 : decode prog_1_method_15_code 53 = .ok (.putfield 105, 3) := by decide +kernel
theorem d_MenuScreens_setting_56 : decode prog_1_method_15_code 56 = .ok (.iconst 1, 1) := by decide +kernel
theorem d_MenuScreens_setting_57 : decode prog_1_method_15_code 57 = .ok (.ireturn, 1) := by decide +kernel
set_option maxRecDepth 100000 in
set_option maxHeartbeats 4000000 in
theorem cm_MenuScreens_setting {l : Launch} {S0 : State} {b : Nat} {D : va_G} {dT : Nat → ClassId} (hE : vEnv S0 b D dT) {dE mO : Nat} (hJ : vJ S0 dE mO) {h0 : vH} {hcv : vH} {ad : Nat → Nat → Nat} {L : vL} {cap : Nat} {x : Nat → Int32} {y : Nat → Int64} {A : Nat → Nat → Int32} {B : Nat → Nat → Int64} (xl : LH S0.heap.size hcv h0 ad L) (hC : CR dT dE h0 ad L cap x y A B) (hcE : ∃ fE, hcv dE = some (aR dT 0 fE)) {p1 : Int32} {p2 : Int64} : vMi l S0 D vcl GT y_MenuScreens_setting prog_1_method_15_code 5 (some .int) 4 85 0 0 [.ref (ad 0 0), .int p1, .long p2] h0 (fun r h' => clP dT dE S0.heap.size hcv h0 ad L cap (fun r x' y' A' B' => (x' = upd x 0 0 ∧ y' = y ∧ A' = A ∧ ∃ nv, x 12 = nI nv ∧ nv ≤ 40 ∧ ((p1 < 1 ∨ x 12 < p1) ∧ r = -1 ∧ B' = B ∨ ∃ j, 1 ≤ j ∧ j ≤ nv ∧ p1 = nI j ∧ (A 15 j = 0 ∧ r = -3 ∧ B' = B ∨ ¬ A 15 j = 0 ∧ (p2 < B 16 j ∨ B 17 j < p2) ∧ r = 0 ∧ B' = B ∨ ¬ A 15 j = 0 ∧ ¬ p2 < B 16 j ∧ ¬ B 17 j < p2 ∧ r = 1 ∧ B' = va_up B 18 (vp_updL (B 18) j p2))))) r h') := by
  unfold vMi
  refine vM_ofQ hE.1 (by decide) (Nat.le_of_ble_eq_true rfl) (fun p e s m args below meth c ls Q hQ C hr hlk hnm X hl => ?_)
  have C : vC p s m _ c _ _ "MenuScreens" GT D vcl (vty dT) := C
  have hx := C.1.1
  have hb := C.1.2.1
  obtain ⟨H, eH⟩ : ∃ z, z = s.heap := ⟨_, rfl⟩
  obtain ⟨locs, elocs⟩ : ∃ z : List Loc, z = [] := ⟨_, rfl⟩
  rw [← eH, ← elocs] at X
  rw [← eH, ← elocs]
  clear eH elocs
  have hl : lv_has ls 5 [(0, .ref (ad 0 0)), (1, .int p1), (2, .long p2)] := hl
  have hC0 := hC
  obtain ⟨⟨sp, bl, hTop, hsp, hlm⟩, hdim, ⟨n3, e3, hBld⟩, ⟨n50, e50, hWr⟩, ⟨nr, e48, hPl⟩, hRe, hLi, ⟨nv, ns, np, nc, pf, cb, ce, cs, c0, lh, hnum, hpr, hRP, hTx, hrn⟩, hkey, hsm⟩ := hC0
  have hTop2 : L 0 0 = some (.inr (3, [.int (x 1), .int (x 2), .ref (ad 1 0), .ref (ad 6 0), .ref (ad 2 0), .ref (ad 8 0), .int (x 45), .int sp, .int (x 46), .int bl, .int (x 55), .long (y 56), .long (y 57)])) := hTop
  refine lv_aload_n hx hb d_MenuScreens_setting_0 rfl (lv_at hl 0 rfl) ?_
  refine mv_get C X (xl.get (i := 0) (j := 0) hTop2) 4 f_0_34_3 (v := .ref (ad 2 0)) rfl d_MenuScreens_setting_1 ?_
  refine lv_iload_n hx hb d_MenuScreens_setting_4 rfl (lv_at hl 1 rfl) ?_
  obtain ⟨hPl1, hPl2, fr0, hPl3, hPl4⟩ := hPl
  obtain ⟨fE, hcE2⟩ := hcE
  obtain ⟨ea, cap2, fl, md, hLs, hfl, hLL, hea⟩ := hRP.1.1.hp xl hcE2
  obtain ⟨kl, wl, ke, ⟨hncap, hcap⟩, hd⟩ := hLs
  obtain ⟨env, hnv, ens, hns⟩ := hnum
  refine mv_bq X (mv_rV (rest := []) (As := [.int p1]) gt_good C X k_0_91 (cm_Plan_valueNumbered hE (g := ad 10) (fs := fun k => _) hncap (by omega) hfl (fun k hk => xl.get (i := 10) (j := k) (hRP.1.2 k hk)) (xl.get (i := 2) (j := 0) hPl1) kl ke) (xl.get (i := 2) (j := 0) hPl1) rfl rfl ⟨Nat.le_of_ble_eq_true rfl, Nat.le_of_ble_eq_true rfl⟩ rfl hl.1 rfl (Nat.le_of_ble_eq_true rfl) d_MenuScreens_setting_5 ⟨Nat.zero_le _, Nat.zero_le _⟩) (fun r1 hN H locs hp X => ?_)
  obtain ⟨eh, hq⟩ := hp
  replace eh := eh.symm
  subst eh
  rcases hq with ⟨hq, er⟩ | ⟨k, hk, ek, er⟩
  · subst er
    change W _ _ _ _ _ _ _ _ _ _ _ _ _ _ _ (F0 _ _ _ (.null :: _))
    refine lv_astoreN (lv' := [(4, .null), (0, .ref (ad 0 0)), (1, .int p1), (2, .long p2)]) hx hb d_MenuScreens_setting_8 hl (by decide) rfl (fun ls hl => ?_)
    refine lv_aloadN hx hb d_MenuScreens_setting_10 (lv_at hl 0 rfl) ?_
    refine lv_ifnonnullN hx hb d_MenuScreens_setting_12 ?_
    refine lv_iconst (v := (-1)) hx hb d_MenuScreens_setting_15 (by decide) ?_
    exact mq_iret hQ C X hr rfl hlk (⟨ad, L, LR.of xl, ⟨fun _ _ => ⟨rfl, rfl⟩, rfl⟩, fun r' x' y' A' B' hst => by
        obtain ⟨a1, a2, a0, n2, a3, a4, a5⟩ := hst
        subst a1 a2 a0
        have en : n2 = nv := nI_eqI (by omega) (by omega) (a3.symm.trans env)
        subst en
        rcases a5 with ⟨u1, u2, u3⟩ | ⟨j, u1, u2, u3, a6⟩
        · subst u2 u3; exact ⟨rfl, hC.same⟩
        · exfalso
          rcases hq with q | q
          · rw [u3] at q; exact nI_nlt (b := 1) u1 (by omega) q
          · rw [u3] at q; have := (nI_ltI (by omega) (by omega)).mp q; omega⟩) (by omega) (by omega) d_MenuScreens_setting_16
  · subst er
    change W _ _ _ _ _ _ _ _ _ _ _ _ _ _ _ (F0 _ _ _ (.ref (ad 10 k) :: _))
    have hV := hRP.1.2 k hk
    refine lv_astore (lv' := [(4, .ref (ad 10 k)), (0, .ref (ad 0 0)), (1, .int p1), (2, .long p2)]) hx hb d_MenuScreens_setting_8 hl (by decide) rfl (fun ls hl => ?_)
    refine lv_aload hx hb d_MenuScreens_setting_10 (lv_at hl 0 rfl) ?_
    refine lv_ifnonnull (tgt := 17) hx hb d_MenuScreens_setting_12 (by decide) ?_
    refine lv_aload hx hb d_MenuScreens_setting_17 (lv_at hl 0 rfl) ?_
    refine mv_get C X (xl.get (i := 10) (j := k) hV) 1 f_0_99_8 (v := .int (A 15 (k + 1))) rfl d_MenuScreens_setting_19 ?_
    refine lv_if_ne (tgt := 28) hx hb d_MenuScreens_setting_22 (by decide) (fun c2 => ?_) (fun c2 => ?_)
    · skip
      refine lv_lload_n hx hb d_MenuScreens_setting_28 rfl (lv_at hl 3 rfl) ?_
      refine lv_aload hx hb d_MenuScreens_setting_29 (lv_at hl 0 rfl) ?_
      refine mv_get C X (xl.get (i := 10) (j := k) hV) 2 f_0_172_8 (v := .long (if A 15 (k + 1) = 0 then -999999 else B 16 (k + 1))) rfl d_MenuScreens_setting_31 ?_
      refine W.lcmp hx hb d_MenuScreens_setting_34 ?_
      refine lv_if_lt (tgt := 48) hx hb d_MenuScreens_setting_35 (by decide) (fun c3 => ?_) (fun c3 => ?_)
      · skip
        refine lv_iconst (v := 0) hx hb d_MenuScreens_setting_48 (by decide) ?_
        exact mq_iret hQ C X hr rfl hlk (⟨ad, L, LR.of xl, ⟨fun _ _ => ⟨rfl, rfl⟩, rfl⟩, fun r' x' y' A' B' hst => by
            obtain ⟨a1, a2, a0, n2, a3, a4, a5⟩ := hst
            subst a1 a2 a0
            have en : n2 = nv := nI_eqI (by omega) (by omega) (a3.symm.trans env)
            subst en
            rcases a5 with ⟨u1, u2, u3⟩ | ⟨j, u1, u2, u3, a6⟩
            · exfalso
              rcases u1 with q | q
              · rw [ek] at q; exact nI_nlt (b := 1) (by omega) (by omega) q
              · rw [ek, a3] at q; have := (nI_ltI (by omega) (by omega)).mp q; omega
            have ej : j = k + 1 := nI_eqI (by omega) (by omega) (u3.symm.trans ek)
            subst ej
            rcases a6 with ⟨d1, d2, d3⟩ | ⟨d1, d2, d3, d4⟩ | ⟨d1, d2, d3, d4, d5⟩
            · exact absurd d1 c2
            · subst d3 d4; exact ⟨rfl, hC.same⟩
            · exact absurd (by
                have w := (lg_cmp_lt _ _).mp c3
                rw [if_neg d1] at w; exact w) d2⟩) (by omega) (by omega) d_MenuScreens_setting_49
      · skip
        refine lv_lload_n hx hb d_MenuScreens_setting_38 rfl (lv_at hl 3 rfl) ?_
        refine lv_aload hx hb d_MenuScreens_setting_39 (lv_at hl 0 rfl) ?_
        refine mv_get C X (xl.get (i := 10) (j := k) hV) 3 f_0_175_8 (v := .long (if A 15 (k + 1) = 0 then 999999 else B 17 (k + 1))) rfl d_MenuScreens_setting_41 ?_
        refine W.lcmp hx hb d_MenuScreens_setting_44 ?_
        refine lv_if_le (tgt := 50) hx hb d_MenuScreens_setting_45 (by decide) (fun c4 => ?_) (fun c4 => ?_)
        · skip
          refine lv_aload hx hb d_MenuScreens_setting_50 (lv_at hl 0 rfl) ?_
          refine lv_lload_n hx hb d_MenuScreens_setting_52 rfl (lv_at hl 3 rfl) ?_
          refine mv_put C X (xl.get (i := 10) (j := k) hV) (xl.wr (i := 10) (j := k) hV) 4 p_0_105_8 rfl rfl (Nat.le_of_ble_eq_true rfl) d_MenuScreens_setting_53 (fun H locs X => ?_)
          have X : vO S0 D vcl (vup h0 (ad 10 k) (.inr (8, [.long (nmV A 13 14 (k + 1)), .int (A 15 (k + 1)), .long (if A 15 (k + 1) = 0 then -999999 else B 16 (k + 1)), .long (if A 15 (k + 1) = 0 then 999999 else B 17 (k + 1)), .long p2, .int (A 19 (k + 1))]))) s H locs := X
          refine lv_iconst (v := 1) hx hb d_MenuScreens_setting_56 (by decide) ?_
          exact mq_iret hQ C X hr rfl hlk (⟨ad, _, (LR.of xl).put (i := 10) (j := k) hV, ⟨fun i hi => ⟨lput_k _ _ (by omega), rfl⟩, rfl⟩, fun r' x' y' A' B' hst => by
              obtain ⟨a1, a2, a0, n2, a3, a4, a5⟩ := hst
              subst a1 a2 a0
              have en : n2 = nv := nI_eqI (by omega) (by omega) (a3.symm.trans env)
              subst en
              rcases a5 with ⟨u1, u2, u3⟩ | ⟨j, u1, u2, u3, a6⟩
              · exfalso
                rcases u1 with q | q
                · rw [ek] at q; exact nI_nlt (b := 1) (by omega) (by omega) q
                · rw [ek, a3] at q; have := (nI_ltI (by omega) (by omega)).mp q; omega
              have ej : j = k + 1 := nI_eqI (by omega) (by omega) (u3.symm.trans ek)
              subst ej
              rcases a6 with ⟨d1, d2, d3⟩ | ⟨d1, d2, d3, d4⟩ | ⟨d1, d2, d3, d4, d5⟩
              · exact absurd d1 c2
              · exfalso
                rcases d2 with z | z
                · exact c3 ((lg_cmp_lt _ _).mpr ((if_neg d1).symm ▸ z))
                · exact Int64.not_lt.mpr ((lg_cmp_le _ _).mp c4) ((if_neg d1).symm ▸ z)
              · subst d4 d5
                have q := hC.val (nw := p2) (vd := A' 19 (k + 1)) env hnv hk rfl ((LR.of xl).put (i := 10) (j := k) hV).2 (smL_in (hrn.2 (k + 1) (by omega) hk d1).1 (Int64.not_lt.mp d2) (Int64.not_lt.mp d3) (hrn.2 (k + 1) (by omega) hk d1).2)
                have eu : upd (A' 19) (k + 1) (A' 19 (k + 1)) = A' 19 := funext (fun i => by
                  by_cases w : i = k + 1
                  · rw [w]; exact pk_us
                  · exact pk_un w)
                rw [eu, va_up_id] at q
                exact ⟨rfl, q⟩⟩) (by omega) (by omega) d_MenuScreens_setting_57
        · skip
          refine lv_iconst (v := 0) hx hb d_MenuScreens_setting_48 (by decide) ?_
          exact mq_iret hQ C X hr rfl hlk (⟨ad, L, LR.of xl, ⟨fun _ _ => ⟨rfl, rfl⟩, rfl⟩, fun r' x' y' A' B' hst => by
              obtain ⟨a1, a2, a0, n2, a3, a4, a5⟩ := hst
              subst a1 a2 a0
              have en : n2 = nv := nI_eqI (by omega) (by omega) (a3.symm.trans env)
              subst en
              rcases a5 with ⟨u1, u2, u3⟩ | ⟨j, u1, u2, u3, a6⟩
              · exfalso
                rcases u1 with q | q
                · rw [ek] at q; exact nI_nlt (b := 1) (by omega) (by omega) q
                · rw [ek, a3] at q; have := (nI_ltI (by omega) (by omega)).mp q; omega
              have ej : j = k + 1 := nI_eqI (by omega) (by omega) (u3.symm.trans ek)
              subst ej
              rcases a6 with ⟨d1, d2, d3⟩ | ⟨d1, d2, d3, d4⟩ | ⟨d1, d2, d3, d4, d5⟩
              · exact absurd d1 c2
              · subst d3 d4; exact ⟨rfl, hC.same⟩
              · exact absurd (by
                  have w := Int64.not_le.mp (fun z => c4 ((lg_cmp_le _ _).mpr z))
                  rw [if_neg d1] at w; exact w) d3⟩) (by omega) (by omega) d_MenuScreens_setting_49
    · skip
      refine lv_bipush (v := (-3)) hx hb d_MenuScreens_setting_25 (by decide) ?_
      exact mq_iret hQ C X hr rfl hlk (⟨ad, L, LR.of xl, ⟨fun _ _ => ⟨rfl, rfl⟩, rfl⟩, fun r' x' y' A' B' hst => by
          obtain ⟨a1, a2, a0, n2, a3, a4, a5⟩ := hst
          subst a1 a2 a0
          have en : n2 = nv := nI_eqI (by omega) (by omega) (a3.symm.trans env)
          subst en
          rcases a5 with ⟨u1, u2, u3⟩ | ⟨j, u1, u2, u3, a6⟩
          · exfalso
            rcases u1 with q | q
            · rw [ek] at q; exact nI_nlt (b := 1) (by omega) (by omega) q
            · rw [ek, a3] at q; have := (nI_ltI (by omega) (by omega)).mp q; omega
          have ej : j = k + 1 := nI_eqI (by omega) (by omega) (u3.symm.trans ek)
          subst ej
          rcases a6 with ⟨d1, d2, d3⟩ | ⟨d1, d2, d3, d4⟩ | ⟨d1, d2, d3, d4, d5⟩
          · subst d2 d3; exact ⟨rfl, hC.same⟩
          · exact absurd c2 d1
          · exact absurd c2 d1⟩) (by omega) (by omega) d_MenuScreens_setting_27
