theorem d_MenuScreens_speed_0 : decode prog_1_method_12_code 0 = .ok (.lload_n 1, 1) := by decide +kernel
theorem d_MenuScreens_speed_1 : decode prog_1_method_12_code 1 = .ok (.lconst 0, 1) := by decide +kernel
theorem d_MenuScreens_speed_2 : decode prog_1_method_12_code 2 = .ok (.lcmp, 1) := by decide +kernel
theorem d_MenuScreens_speed_3 : decode prog_1_method_12_code 3 = .ok (.ifCond .lt 11, 3) := by decide +kernel
theorem d_MenuScreens_speed_6 : decode prog_1_method_12_code 6 = .ok (.lload_n 1, 1) := by decide +kernel
theorem d_MenuScreens_speed_7 : decode prog_1_method_12_code 7 = .ok (.ldc2_w 167, 3) := by decide +kernel
theorem d_MenuScreens_speed_10 : decode prog_1_method_12_code 10 = .ok (.lcmp, 1) := by decide +kernel
theorem d_MenuScreens_speed_11 : decode prog_1_method_12_code 11 = .ok (.ifCond .le 6, 3) := by decide +kernel
theorem d_MenuScreens_speed_14 : decode prog_1_method_12_code 14 = .ok (.bipush (-2), 2) := by decide +kernel
theorem d_MenuScreens_speed_16 : decode prog_1_method_12_code 16 = .ok (.ireturn, 1) := by decide +kernel
theorem d_MenuScreens_speed_17 : decode prog_1_method_12_code 17 = .ok (.aload_n 0, 1) := by decide +kernel
theorem d_MenuScreens_speed_18 : decode prog_1_method_12_code 18 = .ok (.lload_n 1, 1) := by decide +kernel
theorem d_MenuScreens_speed_19 : decode prog_1_method_12_code 19 = .ok (.l2i, 1) := by decide +kernel
theorem d_MenuScreens_speed_20 : decode prog_1_method_12_code 20 = .ok (.putfield 122, 3) := by decide +kernel
theorem d_MenuScreens_speed_23 : decode prog_1_method_12_code 23 = .ok (.aload_n 0, 1) := by decide +kernel
theorem d_MenuScreens_speed_24 : decode prog_1_method_12_code 24 = .ok (.getfield 34, 3) := by decide +kernel
theorem d_MenuScreens_speed_27 : decode prog_1_method_12_code 27 = .ok (.aload_n 0, 1) := by decide +kernel
theorem d_MenuScreens_speed_28 : decode prog_1_method_12_code 28 = .ok (.getfield 88, 3) := by decide +kernel
theorem d_MenuScreens_speed_31 : decode prog_1_method_12_code 31 = .ok (.invokevirtual 112, 3) := by decide +kernel
theorem d_MenuScreens_speed_34 : decode prog_1_method_12_code 34 = .ok (.astore_n 3, 1) := by decide +kernel
theorem d_MenuScreens_speed_35 : decode prog_1_method_12_code 35 = .ok (.aload_n 3, 1) := by decide +kernel
theorem d_MenuScreens_speed_36 : decode prog_1_method_12_code 36 = .ok (.ifnull 18, 3) := by decide +kernel
theorem d_MenuScreens_speed_39 : decode prog_1_method_12_code 39 = .ok (.aload_n 3, 1) := by decide +kernel
theorem d_MenuScreens_speed_40 : decode prog_1_method_12_code 40 = .ok (.aload_n 0, 1) := by decide +kernel
theorem d_MenuScreens_speed_41 : decode prog_1_method_12_code 41 = .ok (.getfield 122, 3) := by decide +kernel
theorem d_MenuScreens_speed_44 : decode prog_1_method_12_code 44 = .ok (.invokevirtual 125, 3) := by decide +kernel
theorem d_MenuScreens_speed_47 : decode prog_1_method_12_code 47 = .ok (.ifCond .eq 7, 3) := by decide +kernel
theorem d_MenuScreens_speed_50 : decode prog_1_method_12_code 50 = .ok (.iconst 1, 1) := by decide +kernel
theorem d_MenuScreens_speed_51 : decode prog_1_method_12_code 51 = .ok (.goto 4, 3) := by decide +kernel
theorem d_MenuScreens_speed_54 : decode prog_1_method_12_code 54 = .ok (.iconst 0, 1) := by decide +kernel
theorem d_MenuScreens_speed_55 : decode prog_1_method_12_code 55 = .ok (.ireturn, 1) := by decide +kernel
set_option maxRecDepth 100000 in
set_option maxHeartbeats 4000000 in
theorem cm_MenuScreens_speed {l : Launch} {S0 : State} {b : Nat} {D : va_G} {dT : Nat → ClassId} (hE : vEnv S0 b D dT) {dE mO : Nat} (hJ : vJ S0 dE mO) {h0 : vH} {hcv : vH} {ad : Nat → Nat → Nat} {L : vL} {cap : Nat} {x : Nat → Int32} {y : Nat → Int64} {A : Nat → Nat → Int32} {B : Nat → Nat → Int64} (xl : LH S0.heap.size hcv h0 ad L) (hC : CR dT dE h0 ad L cap x y A B) (hcE : ∃ fE, hcv dE = some (aR dT 0 fE)) {p1 : Int64} : vMi l S0 D vcl GT y_MenuScreens_speed prog_1_method_12_code 4 (some .int) 4 85 0 0 [.ref (ad 0 0), .long p1] h0 (fun r h' => clP dT dE S0.heap.size hcv h0 ad L cap (fun r x' y' A' B' => (x' = upd x 0 0 ∧ A' = A ∧ B' = B ∧ ∃ pr, x 45 = nI pr ∧ pr ≤ 30 ∧ ((p1 < 0 ∨ 999 < p1) ∧ r = -2 ∧ y' = y ∨ ¬ p1 < 0 ∧ ¬ 999 < p1 ∧ r = (if 0 < pr ∧ B 24 pr < p1 then 1 else 0) ∧ y' = vp_updL y 47 p1))) r h') := by
  unfold vMi
  refine vM_ofQ hE.1 (by decide) (Nat.le_of_ble_eq_true rfl) (fun p e s m args below meth c ls Q hQ C hr hlk hnm X hl => ?_)
  have C : vC p s m _ c _ _ "MenuScreens" GT D vcl (vty dT) := C
  have hx := C.1.1
  have hb := C.1.2.1
  obtain ⟨H, eH⟩ : ∃ z, z = s.heap := ⟨_, rfl⟩
  obtain ⟨locs, elocs⟩ : ∃ z : List Loc, z = [] := ⟨_, rfl⟩
  rw [← eH, ← elocs] at X
  rw [← eH, ← elocs]
  clear eH elocs
  have hl : lv_has ls 4 [(0, .ref (ad 0 0)), (1, .long p1)] := hl
  have hC0 := hC
  obtain ⟨⟨sp, bl, hTop, hsp, hlm⟩, hdim, ⟨n3, e3, hBld⟩, ⟨n50, e50, hWr⟩, ⟨nr, e48, hPl⟩, hRe, hLi, ⟨nv, ns, np, nc, pf, cb, ce, cs, c0, lh, hnum, hpr, hRP, hTx, hrn⟩, hkey, hsm⟩ := hC0
  have hTop2 : L 0 0 = some (.inr (3, [.int (x 1), .int (x 2), .ref (ad 1 0), .ref (ad 6 0), .ref (ad 2 0), .ref (ad 8 0), .int (x 45), .int sp, .int (x 46), .int bl, .int (x 55), .long (y 56), .long (y 57)])) := hTop
  refine lv_lload_n hx hb d_MenuScreens_speed_0 rfl (lv_at hl 1 rfl) ?_
  refine lv_lconst (v := 0) hx hb d_MenuScreens_speed_1 (by decide) ?_
  refine W.lcmp hx hb d_MenuScreens_speed_2 ?_
  refine lv_if_lt (tgt := 14) hx hb d_MenuScreens_speed_3 (by decide) (fun c1 => ?_) (fun c1 => ?_)
  · skip
    refine lv_bipush (v := (-2)) hx hb d_MenuScreens_speed_14 (by decide) ?_
    exact mq_iret hQ C X hr rfl hlk (⟨ad, L, LR.of xl, ⟨fun _ _ => ⟨rfl, rfl⟩, rfl⟩, fun r' x' y' A' B' hst => by
        obtain ⟨a1, a2, a3, pr2, -, -, a4⟩ := hst
        subst a1 a2 a3
        rcases a4 with ⟨b1, b2, b3⟩ | ⟨b1, b2, b3, b4⟩
        · subst b2 b3; exact ⟨rfl, hC.same⟩
        · exact absurd ((lg_cmp_lt _ _).mp c1) b1⟩) (by omega) (by omega) d_MenuScreens_speed_16
  · skip
    refine lv_lload_n hx hb d_MenuScreens_speed_6 rfl (lv_at hl 1 rfl) ?_
    refine lv_ldc2 (v := 999) hx hb C.1.2.2.2.1 (C.1.2.2.2.2 _ (gt_4 233 (by decide +kernel) rfl)) d_MenuScreens_speed_7 ?_
    refine W.lcmp hx hb d_MenuScreens_speed_10 ?_
    refine lv_if_le (tgt := 17) hx hb d_MenuScreens_speed_11 (by decide) (fun c2 => ?_) (fun c2 => ?_)
    · skip
      refine lv_aload_n hx hb d_MenuScreens_speed_17 rfl (lv_at hl 0 rfl) ?_
      refine lv_lload_n hx hb d_MenuScreens_speed_18 rfl (lv_at hl 1 rfl) ?_
      refine lv_l2i (v := (p1 : Int64).toInt32) hx hb d_MenuScreens_speed_19 rfl ?_
      refine mv_put C X (xl.get (i := 0) (j := 0) hTop2) (xl.wr (i := 0) (j := 0) hTop2) 7 p_0_122_3 rfl rfl (Nat.le_of_ble_eq_true rfl) d_MenuScreens_speed_20 (fun H locs X => ?_)
      have X : vO S0 D vcl (vup h0 (ad 0 0) (.inr (3, [.int (x 1), .int (x 2), .ref (ad 1 0), .ref (ad 6 0), .ref (ad 2 0), .ref (ad 8 0), .int (x 45), .int ((p1 : Int64).toInt32), .int (x 46), .int bl, .int (x 55), .long (y 56), .long (y 57)]))) s H locs := X
      have y1 := (LR.of xl).put (i := 0) (j := 0) (e' := .inr (3, [.int (x 1), .int (x 2), .ref (ad 1 0), .ref (ad 6 0), .ref (ad 2 0), .ref (ad 8 0), .int (x 45), .int p1.toInt32, .int (x 46), .int bl, .int (x 55), .long (y 56), .long (y 57)])) hTop2
      have x1 := y1.1
      have hRP1 := hRP.to y1.2 (fun i hi => ⟨lput_k _ _ (by omega), rfl⟩)
      obtain ⟨hPl1, hPl2, fr0, hPl3, hPl4⟩ := hPl
      have hPl12 : (lput L 0 0 (some (.inr (3, [.int (x 1), .int (x 2), .ref (ad 1 0), .ref (ad 6 0), .ref (ad 2 0), .ref (ad 8 0), .int (x 45), .int p1.toInt32, .int (x 46), .int bl, .int (x 55), .long (y 56), .long (y 57)])))) 2 0 = _ := hPl1
      have g1 : ¬ p1 < 0 := fun z => c1 ((lg_cmp_lt _ _).mpr z)
      have g2 : ¬ 999 < p1 := Int64.not_lt.mpr ((lg_cmp_le _ _).mp c2)
      have g3 := sp_of g1 g2
      refine lv_aload_n hx hb d_MenuScreens_speed_23 rfl (lv_at hl 0 rfl) ?_
      refine mv_get C X (vup_s _ _ _) 4 f_0_34_3 (v := .ref (ad 2 0)) rfl d_MenuScreens_speed_24 ?_
      refine lv_aload_n hx hb d_MenuScreens_speed_27 rfl (lv_at hl 0 rfl) ?_
      refine mv_get C X (vup_s _ _ _) 6 f_0_88_3 (v := .int (x 45)) rfl d_MenuScreens_speed_28 ?_
      obtain ⟨fE, hcE2⟩ := hcE
      obtain ⟨ea, cap2, fl, md, hLs, hfl, hLL, hea⟩ := hRP1.2.1.1.hp x1 hcE2
      obtain ⟨kl, wl, ke, ⟨hncap, hcap⟩, hd⟩ := hLs
      obtain ⟨env, hnv, ens, hns⟩ := hnum
      obtain ⟨pr, e45, hpr1, hpr2⟩ := hpr
      refine mv_bq X (mv_rV (rest := []) (As := [.int (x 45)]) gt_good C X k_0_112 (cm_Plan_screenNumbered hE (g := ad 11) (fs := fun k => _) hncap (by omega) hfl (fun k hk => x1.get (i := 11) (j := k) (hRP1.2.1.2 k hk).1) (x1.get (i := 2) (j := 0) hPl12) kl ke) (x1.get (i := 2) (j := 0) hPl12) rfl rfl ⟨Nat.le_of_ble_eq_true rfl, Nat.le_of_ble_eq_true rfl⟩ rfl hl.1 rfl (Nat.le_of_ble_eq_true rfl) d_MenuScreens_speed_31 ⟨Nat.zero_le _, Nat.zero_le _⟩) (fun r3 hN H locs hp X => ?_)
      obtain ⟨eh, hq⟩ := hp
      replace eh := eh.symm
      subst eh
      rcases hq with ⟨hq, er⟩ | ⟨k, hk, ek, er⟩
      · subst er
        have hpz := pr_0 e45 hpr1 hns hq
        change W _ _ _ _ _ _ _ _ _ _ _ _ _ _ _ (F0 _ _ _ (.null :: _))
        refine lv_astore_nN (lv' := [(3, .null), (0, .ref (ad 0 0)), (1, .long p1)]) hx hb d_MenuScreens_speed_34 rfl hl (by decide) rfl (fun ls hl => ?_)
        refine lv_aload_nN hx hb d_MenuScreens_speed_35 rfl (lv_at hl 0 rfl) ?_
        refine lv_ifnullN (tgt := 54) hx hb d_MenuScreens_speed_36 (by decide) ?_
        refine lv_iconst (v := 0) hx hb d_MenuScreens_speed_54 (by decide) ?_
        exact mq_iret hQ C X hr rfl hlk (⟨ad, _, y1, ⟨fun i hi => ⟨lput_k _ _ (by omega), rfl⟩, rfl⟩, fun r' x' y' A' B' hst => by
            obtain ⟨a1, a2, a3, pr2, a5, a6, a4⟩ := hst
            subst a1 a2 a3
            have ep : pr2 = pr := nI_eqI (by omega) (by omega) (a5.symm.trans e45)
            subst ep
            rcases a4 with ⟨b1, b2, b3⟩ | ⟨b1, b2, b3, b4⟩
            · exfalso; rcases b1 with z | z
              · exact g1 z
              · exact g2 z
            · subst b3 b4
              refine ⟨by
                rw [if_neg (fun z => by omega)], ?_⟩
              have q := CR.top (x' := upd x 0 0) (y' := vp_updL y 47 p1) (g := A' 58) hC rfl y1.2 (fun k a b c d => by rw [pk_un a]) rfl ⟨p1.toInt32, bl, rfl, g3, hlm⟩ (fun _ _ _ h => h)
              rw [va_up_id] at q; exact q⟩) (by omega) (by omega) d_MenuScreens_speed_55
      · subst er
        have hpz := pr_k e45 hpr1 hns hk ek
        change W _ _ _ _ _ _ _ _ _ _ _ _ _ _ _ (F0 _ _ _ (.ref (ad 11 k) :: _))
        obtain ⟨hS1, hS2, hS3, ⟨gk2, hS4, hS5⟩, hS6, hS7⟩ := hRP1.2.1.2 k hk
        refine lv_astore_n (lv' := [(3, .ref (ad 11 k)), (0, .ref (ad 0 0)), (1, .long p1)]) hx hb d_MenuScreens_speed_34 rfl hl (by decide) rfl (fun ls hl => ?_)
        refine lv_aload_n hx hb d_MenuScreens_speed_35 rfl (lv_at hl 0 rfl) ?_
        refine lv_ifnull hx hb d_MenuScreens_speed_36 ?_
        refine lv_aload_n hx hb d_MenuScreens_speed_39 rfl (lv_at hl 0 rfl) ?_
        refine lv_aload_n hx hb d_MenuScreens_speed_40 rfl (lv_at hl 1 rfl) ?_
        refine mv_get C X (vup_s _ _ _) 7 f_0_122_3 (v := .int ((p1 : Int64).toInt32)) rfl d_MenuScreens_speed_41 ?_
        refine mv_bi X (mv_rV (rest := []) (As := [.int ((p1 : Int64).toInt32)]) gt_good C X k_0_125 (cm_Screen_isBarredAt hE (x1.get (i := 11) (j := k) hS1)) (x1.get (i := 11) (j := k) hS1) rfl rfl ⟨Nat.le_of_ble_eq_true rfl, Nat.le_of_ble_eq_true rfl⟩ rfl hl.1 rfl (Nat.le_of_ble_eq_true rfl) d_MenuScreens_speed_44 ⟨Nat.zero_le _, Nat.zero_le _⟩) (fun r4 hN H locs hp X => ?_)
        obtain ⟨eh, er⟩ := hp
        replace eh := eh.symm
        replace er := er.symm
        subst eh er
        refine lv_if_eq (tgt := 54) hx hb d_MenuScreens_speed_47 (by decide) (fun c5 => ?_) (fun c5 => ?_)
        · skip
          refine lv_iconst (v := 0) hx hb d_MenuScreens_speed_54 (by decide) ?_
          exact mq_iret hQ C X hr rfl hlk (⟨ad, _, y1, ⟨fun i hi => ⟨lput_k _ _ (by omega), rfl⟩, rfl⟩, fun r' x' y' A' B' hst => by
              obtain ⟨a1, a2, a3, pr2, a5, a6, a4⟩ := hst
              subst a1 a2 a3
              have ep : pr2 = pr := nI_eqI (by omega) (by omega) (a5.symm.trans e45)
              subst ep
              rcases a4 with ⟨b1, b2, b3⟩ | ⟨b1, b2, b3, b4⟩
              · exfalso; rcases b1 with z | z
                · exact g1 z
                · exact g2 z
              · subst b3 b4
                refine ⟨by
                  rw [hpz, if_neg (fun z => by rw [if_pos ((brI_lt hS6.1 hS6.2 g3.1 g3.2.1 g3.2.2).mpr z.2)] at c5; exact absurd c5 (by decide))], ?_⟩
                have q := CR.top (x' := upd x 0 0) (y' := vp_updL y 47 p1) (g := A' 58) hC rfl y1.2 (fun k a b c d => by rw [pk_un a]) rfl ⟨p1.toInt32, bl, rfl, g3, hlm⟩ (fun _ _ _ h => h)
                rw [va_up_id] at q; exact q⟩) (by omega) (by omega) d_MenuScreens_speed_55
        · skip
          refine lv_iconst (v := 1) hx hb d_MenuScreens_speed_50 (by decide) ?_
          refine lv_goto (tgt := 55) hx hb d_MenuScreens_speed_51 (by decide) ?_
          exact mq_iret hQ C X hr rfl hlk (⟨ad, _, y1, ⟨fun i hi => ⟨lput_k _ _ (by omega), rfl⟩, rfl⟩, fun r' x' y' A' B' hst => by
              obtain ⟨a1, a2, a3, pr2, a5, a6, a4⟩ := hst
              subst a1 a2 a3
              have ep : pr2 = pr := nI_eqI (by omega) (by omega) (a5.symm.trans e45)
              subst ep
              rcases a4 with ⟨b1, b2, b3⟩ | ⟨b1, b2, b3, b4⟩
              · exfalso; rcases b1 with z | z
                · exact g1 z
                · exact g2 z
              · subst b3 b4
                refine ⟨by
                  rw [hpz, if_pos ⟨by omega, (brI_lt hS6.1 hS6.2 g3.1 g3.2.1 g3.2.2).mp (by
                  by_cases z : brI (B' 24 (k + 1)) < p1.toInt32
                  · exact z
                  · rw [if_neg z] at c5; exact absurd rfl c5)⟩], ?_⟩
                have q := CR.top (x' := upd x 0 0) (y' := vp_updL y 47 p1) (g := A' 58) hC rfl y1.2 (fun k a b c d => by rw [pk_un a]) rfl ⟨p1.toInt32, bl, rfl, g3, hlm⟩ (fun _ _ _ h => h)
                rw [va_up_id] at q; exact q⟩) (by omega) (by omega) d_MenuScreens_speed_55
    · skip
      refine lv_bipush (v := (-2)) hx hb d_MenuScreens_speed_14 (by decide) ?_
      exact mq_iret hQ C X hr rfl hlk (⟨ad, L, LR.of xl, ⟨fun _ _ => ⟨rfl, rfl⟩, rfl⟩, fun r' x' y' A' B' hst => by
          obtain ⟨a1, a2, a3, pr2, -, -, a4⟩ := hst
          subst a1 a2 a3
          rcases a4 with ⟨b1, b2, b3⟩ | ⟨b1, b2, b3, b4⟩
          · subst b2 b3; exact ⟨rfl, hC.same⟩
          · exact absurd (Int64.not_le.mp (fun z => c2 ((lg_cmp_le _ _).mpr z))) b2⟩) (by omega) (by omega) d_MenuScreens_speed_16
theorem d_MenuScreens_press_0 : decode prog_1_method_5_code 0 = .ok (.iload_n 1, 1) := by decide +kernel
theorem d_MenuScreens_press_1 : decode prog_1_method_5_code 1 = .ok (.iconst 1, 1) := by decide +kernel
theorem d_MenuScreens_press_2 : decode prog_1_method_5_code 2 = .ok (.if_icmp .lt 9, 3) := by decide +kernel
theorem d_MenuScreens_press_5 : decode prog_1_method_5_code 5 = .ok (.iload_n 1, 1) := by decide +kernel
theorem d_MenuScreens_press_6 : decode prog_1_method_5_code 6 = .ok (.bipush 9, 2) := by decide +kernel
theorem d_MenuScreens_press_8 : decode prog_1_method_5_code 8 = .ok (.if_icmp .le 6, 3) := by decide +kernel
theorem d_MenuScreens_press_11 : decode prog_1_method_5_code 11 = .ok (.bipush (-2), 2) := by decide +kernel
theorem d_MenuScreens_press_13 : decode prog_1_method_5_code 13 = .ok (.ireturn, 1) := by decide +kernel
theorem d_MenuScreens_press_14 : decode prog_1_method_5_code 14 = .ok (.aload_n 0, 1) := by decide +kernel
theorem d_MenuScreens_press_15 : decode prog_1_method_5_code 15 = .ok (.getfield 34, 3) := by decide +kernel
theorem d_MenuScreens_press_18 : decode prog_1_method_5_code 18 = .ok (.aload_n 0, 1) := by decide +kernel
theorem d_MenuScreens_press_19 : decode prog_1_method_5_code 19 = .ok (.getfield 88, 3) := by decide +kernel
theorem d_MenuScreens_press_22 : decode prog_1_method_5_code 22 = .ok (.invokevirtual 112, 3) := by decide +kernel
theorem d_MenuScreens_press_25 : decode prog_1_method_5_code 25 = .ok (.astore_n 2, 1) := by decide +kernel
theorem d_MenuScreens_press_26 : decode prog_1_method_5_code 26 = .ok (.aload_n 2, 1) := by decide +kernel
theorem d_MenuScreens_press_27 : decode prog_1_method_5_code 27 = .ok (.ifnonnull 6, 3) := by decide +kernel
theorem d_MenuScreens_press_30 : decode prog_1_method_5_code 30 = .ok (.bipush (-3), 2) := by decide +kernel
theorem d_MenuScreens_press_32 : decode prog_1_method_5_code 32 = .ok (.ireturn, 1) := by decide +kernel
theorem d_MenuScreens_press_33 : decode prog_1_method_5_code 33 = .ok (.aload_n 2, 1) := by decide +kernel
theorem d_MenuScreens_press_34 : decode prog_1_method_5_code 34 = .ok (.iload_n 1, 1) := by decide +kernel
theorem d_MenuScreens_press_35 : decode prog_1_method_5_code 35 = .ok (.invokevirtual 116, 3) := by decide +kernel
theorem d_MenuScreens_press_38 : decode prog_1_method_5_code 38 = .ok (.istore_n 3, 1) := by decide +kernel
theorem d_MenuScreens_press_39 : decode prog_1_method_5_code 39 = .ok (.iload_n 1, 1) := by decide +kernel
theorem d_MenuScreens_press_40 : decode prog_1_method_5_code 40 = .ok (.bipush 9, 2) := by decide +kernel
theorem d_MenuScreens_press_42 : decode prog_1_method_5_code 42 = .ok (.if_icmp .eq 14, 3) := by decide +kernel
theorem d_MenuScreens_press_45 : decode prog_1_method_5_code 45 = .ok (.aload_n 2, 1) := by decide +kernel
theorem d_MenuScreens_press_46 : decode prog_1_method_5_code 46 = .ok (.aload_n 0, 1) := by decide +kernel
theorem d_MenuScreens_press_47 : decode prog_1_method_5_code 47 = .ok (.getfield 122, 3) := by decide +kernel
theorem d_MenuScreens_press_50 : decode prog_1_method_5_code 50 = .ok (.invokevirtual 125, 3) := by decide +kernel
theorem d_MenuScreens_press_53 : decode prog_1_method_5_code 53 = .ok (.ifCond .ne 7, 3) := by decide +kernel
theorem d_MenuScreens_press_56 : decode prog_1_method_5_code 56 = .ok (.iconst 1, 1) := by decide +kernel
theorem d_MenuScreens_press_57 : decode prog_1_method_5_code 57 = .ok (.goto 4, 3) := by decide +kernel
theorem d_MenuScreens_press_60 : decode prog_1_method_5_code 60 = .ok (.iconst 0, 1) := by decide +kernel
theorem d_MenuScreens_press_61 : decode prog_1_method_5_code 61 = .ok (.istore 4, 2) := by decide +kernel
theorem d_MenuScreens_press_63 : decode prog_1_method_5_code 63 = .ok (.iload_n 3, 1) := by decide +kernel
theorem d_MenuScreens_press_64 : decode prog_1_method_5_code 64 = .ok (.ifCond .eq 13, 3) := by decide +kernel
theorem d_MenuScreens_press_67 : decode prog_1_method_5_code 67 = .ok (.iload 4, 2) := by decide +kernel
theorem d_MenuScreens_press_69 : decode prog_1_method_5_code 69 = .ok (.ifCond .eq 8, 3) := by decide +kernel
theorem d_MenuScreens_press_72 : decode prog_1_method_5_code 72 = .ok (.aload_n 0, 1) := by decide +kernel
theorem d_MenuScreens_press_73 : decode prog_1_method_5_code 73 = .ok (.iload_n 3, 1) := by decide +kernel
theorem d_MenuScreens_press_74 : decode prog_1_method_5_code 74 = .ok (.putfield 88, 3) := by decide +kernel
theorem d_MenuScreens_press_77 : decode prog_1_method_5_code 77 = .ok (.aload_n 0, 1) := by decide +kernel
theorem d_MenuScreens_press_78 : decode prog_1_method_5_code 78 = .ok (.getfield 88, 3) := by decide +kernel
theorem d_MenuScreens_press_81 : decode prog_1_method_5_code 81 = .ok (.ireturn, 1) := by decide +kernel
set_option maxRecDepth 100000 in
set_option maxHeartbeats 4000000 in
theorem cm_MenuScreens_press {l : Launch} {S0 : State} {b : Nat} {D : va_G} {dT : Nat → ClassId} (hE : vEnv S0 b D dT) {dE mO : Nat} (hJ : vJ S0 dE mO) {h0 : vH} {hcv : vH} {ad : Nat → Nat → Nat} {L : vL} {cap : Nat} {x : Nat → Int32} {y : Nat → Int64} {A : Nat → Nat → Int32} {B : Nat → Nat → Int64} (xl : LH S0.heap.size hcv h0 ad L) (hC : CR dT dE h0 ad L cap x y A B) (hcE : ∃ fE, hcv dE = some (aR dT 0 fE)) {p1 : Int32} : vMi l S0 D vcl GT y_MenuScreens_press prog_1_method_5_code 5 (some .int) 4 85 0 0 [.ref (ad 0 0), .int p1] h0 (fun r h' => clP dT dE S0.heap.size hcv h0 ad L cap (fun r x' y' A' B' => (y' = y ∧ A' = A ∧ B' = B ∧ ∃ pr n, x 45 = nI pr ∧ pr ≤ n ∧ x 20 = nI n ∧ n ≤ 30 ∧ (((p1 < 1 ∨ 9 < p1) ∧ r = -2 ∧ x' = upd x 0 0) ∨ (¬ p1 < 1 ∧ ¬ 9 < p1 ∧ pr = 0 ∧ r = -3 ∧ x' = upd x 0 0) ∨ ∃ k0, 1 ≤ k0 ∧ k0 ≤ 9 ∧ p1 = nI k0 ∧ 0 < pr ∧ ((0 < ldS A n (10 * pr + k0) ∧ (k0 = 9 ∨ ¬ (0 < pr ∧ B 24 pr < y 47))) ∧ r = nI (ldS A n (10 * pr + k0)) ∧ x' = upd (upd x 0 0) 45 (nI (ldS A n (10 * pr + k0))) ∨ ¬ (0 < ldS A n (10 * pr + k0) ∧ (k0 = 9 ∨ ¬ (0 < pr ∧ B 24 pr < y 47))) ∧ r = nI pr ∧ x' = upd x 0 0)))) r h') := by
  unfold vMi
  refine vM_ofQ hE.1 (by decide) (Nat.le_of_ble_eq_true rfl) (fun p e s m args below meth c ls Q hQ C hr hlk hnm X hl => ?_)
  have C : vC p s m _ c _ _ "MenuScreens" GT D vcl (vty dT) := C
  have hx := C.1.1
  have hb := C.1.2.1
  obtain ⟨H, eH⟩ : ∃ z, z = s.heap := ⟨_, rfl⟩
  obtain ⟨locs, elocs⟩ : ∃ z : List Loc, z = [] := ⟨_, rfl⟩
  rw [← eH, ← elocs] at X
  rw [← eH, ← elocs]
  clear eH elocs
  have hl : lv_has ls 5 [(0, .ref (ad 0 0)), (1, .int p1)] := hl
  have hC0 := hC
  obtain ⟨⟨sp, bl, hTop, hsp, hlm⟩, hdim, ⟨n3, e3, hBld⟩, ⟨n50, e50, hWr⟩, ⟨nr, e48, hPl⟩, hRe, hLi, ⟨nv, ns, np, nc, pf, cb, ce, cs, c0, lh, hnum, hpr, hRP, hTx, hrn⟩, hkey, hsm⟩ := hC0
  have hTop2 : L 0 0 = some (.inr (3, [.int (x 1), .int (x 2), .ref (ad 1 0), .ref (ad 6 0), .ref (ad 2 0), .ref (ad 8 0), .int (x 45), .int sp, .int (x 46), .int bl, .int (x 55), .long (y 56), .long (y 57)])) := hTop
  refine lv_iload_n hx hb d_MenuScreens_press_0 rfl (lv_at hl 1 rfl) ?_
  refine lv_iconst (v := 1) hx hb d_MenuScreens_press_1 (by decide) ?_
  refine lv_icmp_lt (tgt := 11) hx hb d_MenuScreens_press_2 (by decide) (fun c1 => ?_) (fun c1 => ?_)
  · skip
    refine lv_bipush (v := (-2)) hx hb d_MenuScreens_press_11 (by decide) ?_
    exact mq_iret hQ C X hr rfl hlk (⟨ad, L, LR.of xl, ⟨fun _ _ => ⟨rfl, rfl⟩, rfl⟩, fun r' x' y' A' B' hst => by
        obtain ⟨a1, a2, a3, pr2, n2, a4, a5, a6, a7, a8⟩ := hst
        subst a1 a2 a3
        rcases a8 with ⟨b1, b2, b3⟩ | ⟨b1, b2, b3, b4, b5⟩ | ⟨k0, b1, b2, b3, b4, b5⟩
        · subst b2 b3; exact ⟨rfl, hC.same⟩
        · exact absurd trivial (fun _ => b1 c1)
        · exact absurd trivial (fun _ => nI_nlt (b := 1) b1 (by omega) (b3 ▸ c1))⟩) (by omega) (by omega) d_MenuScreens_press_13
  · skip
    refine lv_iload_n hx hb d_MenuScreens_press_5 rfl (lv_at hl 1 rfl) ?_
    refine lv_bipush (v := 9) hx hb d_MenuScreens_press_6 (by decide) ?_
    refine lv_icmp_le (tgt := 14) hx hb d_MenuScreens_press_8 (by decide) (fun c2 => ?_) (fun c2 => ?_)
    · skip
      obtain ⟨hPl1, hPl2, fr0, hPl3, hPl4⟩ := hPl
      obtain ⟨k9, h91, h92, e9⟩ := ix_le1 (n := 9) c1 c2 (by decide)
      refine lv_aload_n hx hb d_MenuScreens_press_14 rfl (lv_at hl 0 rfl) ?_
      refine mv_get C X (xl.get (i := 0) (j := 0) hTop2) 4 f_0_34_3 (v := .ref (ad 2 0)) rfl d_MenuScreens_press_15 ?_
      refine lv_aload_n hx hb d_MenuScreens_press_18 rfl (lv_at hl 0 rfl) ?_
      refine mv_get C X (xl.get (i := 0) (j := 0) hTop2) 6 f_0_88_3 (v := .int (x 45)) rfl d_MenuScreens_press_19 ?_
      obtain ⟨fE, hcE2⟩ := hcE
      obtain ⟨ea, cap2, fl, md, hLs, hfl, hLL, hea⟩ := hRP.2.1.1.hp xl hcE2
      obtain ⟨kl, wl, ke, ⟨hncap, hcap⟩, hd⟩ := hLs
      obtain ⟨env, hnv, ens, hns⟩ := hnum
      obtain ⟨pr, e45, hpr1, hpr2⟩ := hpr
      refine mv_bq X (mv_rV (rest := []) (As := [.int (x 45)]) gt_good C X k_0_112 (cm_Plan_screenNumbered hE (g := ad 11) (fs := fun k => _) hncap (by omega) hfl (fun k hk => xl.get (i := 11) (j := k) (hRP.2.1.2 k hk).1) (xl.get (i := 2) (j := 0) hPl1) kl ke) (xl.get (i := 2) (j := 0) hPl1) rfl rfl ⟨Nat.le_of_ble_eq_true rfl, Nat.le_of_ble_eq_true rfl⟩ rfl hl.1 rfl (Nat.le_of_ble_eq_true rfl) d_MenuScreens_press_22 ⟨Nat.zero_le _, Nat.zero_le _⟩) (fun r3 hN H locs hp X => ?_)
      obtain ⟨eh, hq⟩ := hp
      replace eh := eh.symm
      subst eh
      rcases hq with ⟨hq, er⟩ | ⟨k, hk, ek, er⟩
      · subst er
        have hpz := pr_0 e45 hpr1 hns hq
        change W _ _ _ _ _ _ _ _ _ _ _ _ _ _ _ (F0 _ _ _ (.null :: _))
        refine lv_astore_nN (lv' := [(2, .null), (0, .ref (ad 0 0)), (1, .int p1)]) hx hb d_MenuScreens_press_25 rfl hl (by decide) rfl (fun ls hl => ?_)
        refine lv_aload_nN hx hb d_MenuScreens_press_26 rfl (lv_at hl 0 rfl) ?_
        refine lv_ifnonnullN hx hb d_MenuScreens_press_27 ?_
        refine lv_bipush (v := (-3)) hx hb d_MenuScreens_press_30 (by decide) ?_
        exact mq_iret hQ C X hr rfl hlk (⟨ad, L, LR.of xl, ⟨fun _ _ => ⟨rfl, rfl⟩, rfl⟩, fun r' x' y' A' B' hst => by
            obtain ⟨a1, a2, a3, pr2, n2, a4, a5, a6, a7, a8⟩ := hst
            subst a1 a2 a3
            have en : n2 = ns := nI_eqI (by omega) (by omega) (a6.symm.trans ens)
            subst en
            have ep : pr2 = pr := nI_eqI (by omega) (by omega) (a4.symm.trans e45)
            subst ep
            rcases a8 with ⟨b1, b2, b3⟩ | ⟨b1, b2, b3, b4, b5⟩ | ⟨k0, b1, b2, b3, b4, b5⟩
            · exfalso
              rcases b1 with z | z
              · rw [e9] at z; exact nI_nlt (b := 1) h91 (by omega) z
              · rw [e9] at z; exact nI_nlt (a := 9) h92 (by decide) z
            · subst b4 b5; exact ⟨rfl, hC.same⟩
            · omega⟩) (by omega) (by omega) d_MenuScreens_press_32
      · subst er
        have hpz := pr_k e45 hpr1 hns hk ek
        change W _ _ _ _ _ _ _ _ _ _ _ _ _ _ _ (F0 _ _ _ (.ref (ad 11 k) :: _))
        obtain ⟨hS1, hS2, hS3, ⟨gk2, hS4, hS5⟩, hS6, hS7⟩ := hRP.2.1.2 k hk
        refine lv_astore_n (lv' := [(2, .ref (ad 11 k)), (0, .ref (ad 0 0)), (1, .int p1)]) hx hb d_MenuScreens_press_25 rfl hl (by decide) rfl (fun ls hl => ?_)
        refine lv_aload_n hx hb d_MenuScreens_press_26 rfl (lv_at hl 0 rfl) ?_
        refine lv_ifnonnull (tgt := 33) hx hb d_MenuScreens_press_27 (by decide) ?_
        refine lv_aload_n hx hb d_MenuScreens_press_33 rfl (lv_at hl 0 rfl) ?_
        refine lv_iload_n hx hb d_MenuScreens_press_34 rfl (lv_at hl 2 rfl) ?_
        refine mv_bi X (mv_rV (rest := []) (As := [.int p1]) gt_good C X k_0_116 (cm_Screen_screenBehindKey hE (xl.get (i := 11) (j := k) hS1) (xl.get (i := 15) (j := k) hS4)) (xl.get (i := 11) (j := k) hS1) rfl rfl ⟨Nat.le_of_ble_eq_true rfl, Nat.le_of_ble_eq_true rfl⟩ rfl hl.1 rfl (Nat.le_of_ble_eq_true rfl) d_MenuScreens_press_35 ⟨Nat.zero_le _, Nat.zero_le _⟩) (fun r4 hN H locs hp X => ?_)
        obtain ⟨eh, hq⟩ := hp
        replace eh := eh.symm
        subst eh
        obtain ⟨nx, enx⟩ : ∃ z, z = ldS A ns (10 * (k + 1) + k9) := ⟨_, rfl⟩
        have hr : r4 = nI nx := by
          rcases hq with ⟨hq, -⟩ | ⟨k2, a1, a2, a3, a4⟩
          · exfalso
            rcases hq with hq | hq
            · exact absurd hq (by rw [e9]; exact nI_nlt (b := 1) h91 (by omega))
            · exact absurd hq (by rw [e9]; exact nI_nlt (a := 9) h92 (by decide))
          · have : k2 = k9 := nI_eqI (by omega) (by omega) (by rw [← a3]; exact e9)
            rw [a4, this, enx]; exact hS5 k9 h91 h92
        subst hr
        have hnx : nx ≤ ns := by rw [enx]; exact ldS_le _ _ _
        refine lv_istore_n (lv' := [(3, .int (nI nx)), (2, .ref (ad 11 k)), (0, .ref (ad 0 0)), (1, .int p1)]) hx hb d_MenuScreens_press_38 rfl hl (by decide) rfl (fun ls hl => ?_)
        refine lv_iload_n hx hb d_MenuScreens_press_39 rfl (lv_at hl 3 rfl) ?_
        refine lv_bipush (v := 9) hx hb d_MenuScreens_press_40 (by decide) ?_
        refine lv_icmp_eq (tgt := 56) hx hb d_MenuScreens_press_42 (by decide) (fun c5 => ?_) (fun c5 => ?_)
        · skip
          refine lv_iconst (v := 1) hx hb d_MenuScreens_press_56 (by decide) ?_
          refine lv_goto (tgt := 61) hx hb d_MenuScreens_press_57 (by decide) ?_
          refine lv_istore (lv' := [(4, .int 1), (3, .int (nI nx)), (2, .ref (ad 11 k)), (0, .ref (ad 0 0)), (1, .int p1)]) hx hb d_MenuScreens_press_61 hl (by decide) rfl (fun ls hl => ?_)
          refine lv_iload_n hx hb d_MenuScreens_press_63 rfl (lv_at hl 1 rfl) ?_
          refine lv_if_eq (tgt := 77) hx hb d_MenuScreens_press_64 (by decide) (fun c6 => ?_) (fun c6 => ?_)
          · skip
            refine lv_aload_n hx hb d_MenuScreens_press_77 rfl (lv_at hl 3 rfl) ?_
            refine mv_get C X (xl.get (i := 0) (j := 0) hTop2) 6 f_0_88_3 (v := .int (x 45)) rfl d_MenuScreens_press_78 ?_
            exact mq_iret hQ C X hr rfl hlk (⟨ad, L, LR.of xl, ⟨fun _ _ => ⟨rfl, rfl⟩, rfl⟩, fun r' x' y' A' B' hst => by
                obtain ⟨a1, a2, a3, pr2, n2, a4, a5, a6, a7, a8⟩ := hst
                subst a1 a2 a3
                have en : n2 = ns := nI_eqI (by omega) (by omega) (a6.symm.trans ens)
                subst en
                have ep : pr2 = pr := nI_eqI (by omega) (by omega) (a4.symm.trans e45)
                subst ep
                rcases a8 with ⟨b1, b2, b3⟩ | ⟨b1, b2, b3, b4, b5⟩ | ⟨k0, b1, b2, b3, b4, b5⟩
                · exfalso
                  rcases b1 with z | z
                  · rw [e9] at z; exact nI_nlt (b := 1) h91 (by omega) z
                  · rw [e9] at z; exact nI_nlt (a := 9) h92 (by decide) z
                · omega
                have ek0 : k0 = k9 := nI_eqI (by omega) (by omega) (b3.symm.trans e9)
                subst ek0
                subst hpz
                rw [← enx] at b5
                rcases b5 with ⟨d1, d2, d3⟩ | ⟨d1, d2, d3⟩
                · exact absurd d1 (fun z => by
                  have : nx = 0 := nI_eqI (by omega) (by decide) c6
                  omega)
                · subst d2 d3; exact ⟨e45, hC.same⟩⟩) (by omega) (by omega) d_MenuScreens_press_81
          · skip
            refine lv_iload hx hb d_MenuScreens_press_67 (lv_at hl 0 rfl) ?_
            refine lv_if_eq (tgt := 77) hx hb d_MenuScreens_press_69 (by decide) (fun z => absurd z (by decide)) (fun c7 => ?_)
            refine lv_aload_n hx hb d_MenuScreens_press_72 rfl (lv_at hl 3 rfl) ?_
            refine lv_iload_n hx hb d_MenuScreens_press_73 rfl (lv_at hl 1 rfl) ?_
            refine mv_put C X (xl.get (i := 0) (j := 0) hTop2) (xl.wr (i := 0) (j := 0) hTop2) 6 p_0_88_3 rfl rfl (Nat.le_of_ble_eq_true rfl) d_MenuScreens_press_74 (fun H locs X => ?_)
            have X : vO S0 D vcl (vup h0 (ad 0 0) (.inr (3, [.int (x 1), .int (x 2), .ref (ad 1 0), .ref (ad 6 0), .ref (ad 2 0), .ref (ad 8 0), .int (nI nx), .int sp, .int (x 46), .int bl, .int (x 55), .long (y 56), .long (y 57)]))) s H locs := X
            refine lv_aload_n hx hb d_MenuScreens_press_77 rfl (lv_at hl 3 rfl) ?_
            refine mv_get C X (vup_s _ _ _) 6 f_0_88_3 (v := .int (nI nx)) rfl d_MenuScreens_press_78 ?_
            exact mq_iret hQ C X hr rfl hlk (⟨ad, _, (LR.of xl).put (i := 0) (j := 0) hTop2, ⟨fun i hi => ⟨lput_k _ _ (by omega), rfl⟩, rfl⟩, fun r' x' y' A' B' hst => by
                obtain ⟨a1, a2, a3, pr2, n2, a4, a5, a6, a7, a8⟩ := hst
                subst a1 a2 a3
                have en : n2 = ns := nI_eqI (by omega) (by omega) (a6.symm.trans ens)
                subst en
                have ep : pr2 = pr := nI_eqI (by omega) (by omega) (a4.symm.trans e45)
                subst ep
                rcases a8 with ⟨b1, b2, b3⟩ | ⟨b1, b2, b3, b4, b5⟩ | ⟨k0, b1, b2, b3, b4, b5⟩
                · exfalso
                  rcases b1 with z | z
                  · rw [e9] at z; exact nI_nlt (b := 1) h91 (by omega) z
                  · rw [e9] at z; exact nI_nlt (a := 9) h92 (by decide) z
                · omega
                have ek0 : k0 = k9 := nI_eqI (by omega) (by omega) (b3.symm.trans e9)
                subst ek0
                subst hpz
                rw [← enx] at b5
                have hw : k0 = 9 ∨ ¬ (0 < k + 1 ∧ B' 24 (k + 1) < y' 47) := Or.inl (nI_eqI (b := 9) (by omega) (by decide) (e9.symm.trans c5))
                have h0 : 0 < nx := Nat.pos_of_ne_zero (fun z => c6 (by rw [z]; rfl))
                rcases b5 with ⟨d1, d2, d3⟩ | ⟨d1, d2, d3⟩
                · subst d2 d3
                  refine ⟨rfl, ?_⟩
                  have q := CR.top (x' := upd (upd x 0 0) 45 (nI nx)) (y' := y') (g := A' 58) hC rfl ((LR.of xl).put (i := 0) (j := 0) hTop2).2 (fun k a b c d => by rw [pk_un b, pk_un a]) rfl ⟨sp, bl, rfl, hsp, hlm⟩ (fun ns2 q1 q2 _ => ⟨nx, rfl, by
                    have : ns2 = n2 := nI_eqI (by omega) (by omega) (q1.symm.trans ens)
                    omega, fun _ => h0⟩)
                  rw [va_up_id] at q; exact q
                · exact absurd ⟨h0, hw⟩ d1⟩) (by omega) (by omega) d_MenuScreens_press_81
        · skip
          refine lv_aload_n hx hb d_MenuScreens_press_45 rfl (lv_at hl 1 rfl) ?_
          refine lv_aload_n hx hb d_MenuScreens_press_46 rfl (lv_at hl 2 rfl) ?_
          refine mv_get C X (xl.get (i := 0) (j := 0) hTop2) 7 f_0_122_3 (v := .int sp) rfl d_MenuScreens_press_47 ?_
          refine mv_bi X (mv_rV (rest := []) (As := [.int sp]) gt_good C X k_0_125 (cm_Screen_isBarredAt hE (xl.get (i := 11) (j := k) hS1)) (xl.get (i := 11) (j := k) hS1) rfl rfl ⟨Nat.le_of_ble_eq_true rfl, Nat.le_of_ble_eq_true rfl⟩ rfl hl.1 rfl (Nat.le_of_ble_eq_true rfl) d_MenuScreens_press_50 ⟨Nat.zero_le _, Nat.zero_le _⟩) (fun r8 hN H locs hp X => ?_)
          obtain ⟨eh, er⟩ := hp
          replace eh := eh.symm
          replace er := er.symm
          subst eh er
          refine lv_if_ne (tgt := 60) hx hb d_MenuScreens_press_53 (by decide) (fun c9 => ?_) (fun c9 => ?_)
          · skip
            refine lv_iconst (v := 0) hx hb d_MenuScreens_press_60 (by decide) ?_
            refine lv_istore (lv' := [(4, .int 0), (3, .int (nI nx)), (2, .ref (ad 11 k)), (0, .ref (ad 0 0)), (1, .int p1)]) hx hb d_MenuScreens_press_61 hl (by decide) rfl (fun ls hl => ?_)
            refine lv_iload_n hx hb d_MenuScreens_press_63 rfl (lv_at hl 1 rfl) ?_
            refine lv_if_eq (tgt := 77) hx hb d_MenuScreens_press_64 (by decide) (fun c10 => ?_) (fun c10 => ?_)
            · skip
              refine lv_aload_n hx hb d_MenuScreens_press_77 rfl (lv_at hl 3 rfl) ?_
              refine mv_get C X (xl.get (i := 0) (j := 0) hTop2) 6 f_0_88_3 (v := .int (x 45)) rfl d_MenuScreens_press_78 ?_
              exact mq_iret hQ C X hr rfl hlk (⟨ad, L, LR.of xl, ⟨fun _ _ => ⟨rfl, rfl⟩, rfl⟩, fun r' x' y' A' B' hst => by
                  obtain ⟨a1, a2, a3, pr2, n2, a4, a5, a6, a7, a8⟩ := hst
                  subst a1 a2 a3
                  have en : n2 = ns := nI_eqI (by omega) (by omega) (a6.symm.trans ens)
                  subst en
                  have ep : pr2 = pr := nI_eqI (by omega) (by omega) (a4.symm.trans e45)
                  subst ep
                  rcases a8 with ⟨b1, b2, b3⟩ | ⟨b1, b2, b3, b4, b5⟩ | ⟨k0, b1, b2, b3, b4, b5⟩
                  · exfalso
                    rcases b1 with z | z
                    · rw [e9] at z; exact nI_nlt (b := 1) h91 (by omega) z
                    · rw [e9] at z; exact nI_nlt (a := 9) h92 (by decide) z
                  · omega
                  have ek0 : k0 = k9 := nI_eqI (by omega) (by omega) (b3.symm.trans e9)
                  subst ek0
                  subst hpz
                  rw [← enx] at b5
                  rcases b5 with ⟨d1, d2, d3⟩ | ⟨d1, d2, d3⟩
                  · exact absurd d1 (fun z => (fun z => by
                    rcases z with z | z
                    · exact c5 (by rw [e9, z]; rfl)
                    · exact z ⟨by omega, (brI_lt hS6.1 hS6.2 hsp.1 hsp.2.1 hsp.2.2).mp (by
                        by_cases q : brI (B' 24 (k + 1)) < sp
                        · exact q
                        · rw [if_neg q] at c9; exact absurd rfl c9)⟩) z.2)
                  · subst d2 d3; exact ⟨e45, hC.same⟩⟩) (by omega) (by omega) d_MenuScreens_press_81
            · skip
              refine lv_iload hx hb d_MenuScreens_press_67 (lv_at hl 0 rfl) ?_
              refine lv_if_eq (tgt := 77) hx hb d_MenuScreens_press_69 (by decide) (fun c11 => ?_) (fun z => absurd rfl z)
              refine lv_aload_n hx hb d_MenuScreens_press_77 rfl (lv_at hl 3 rfl) ?_
              refine mv_get C X (xl.get (i := 0) (j := 0) hTop2) 6 f_0_88_3 (v := .int (x 45)) rfl d_MenuScreens_press_78 ?_
              exact mq_iret hQ C X hr rfl hlk (⟨ad, L, LR.of xl, ⟨fun _ _ => ⟨rfl, rfl⟩, rfl⟩, fun r' x' y' A' B' hst => by
                  obtain ⟨a1, a2, a3, pr2, n2, a4, a5, a6, a7, a8⟩ := hst
                  subst a1 a2 a3
                  have en : n2 = ns := nI_eqI (by omega) (by omega) (a6.symm.trans ens)
                  subst en
                  have ep : pr2 = pr := nI_eqI (by omega) (by omega) (a4.symm.trans e45)
                  subst ep
                  rcases a8 with ⟨b1, b2, b3⟩ | ⟨b1, b2, b3, b4, b5⟩ | ⟨k0, b1, b2, b3, b4, b5⟩
                  · exfalso
                    rcases b1 with z | z
                    · rw [e9] at z; exact nI_nlt (b := 1) h91 (by omega) z
                    · rw [e9] at z; exact nI_nlt (a := 9) h92 (by decide) z
                  · omega
                  have ek0 : k0 = k9 := nI_eqI (by omega) (by omega) (b3.symm.trans e9)
                  subst ek0
                  subst hpz
                  rw [← enx] at b5
                  rcases b5 with ⟨d1, d2, d3⟩ | ⟨d1, d2, d3⟩
                  · exact absurd d1 (fun z => (fun z => by
                    rcases z with z | z
                    · exact c5 (by rw [e9, z]; rfl)
                    · exact z ⟨by omega, (brI_lt hS6.1 hS6.2 hsp.1 hsp.2.1 hsp.2.2).mp (by
                        by_cases q : brI (B' 24 (k + 1)) < sp
                        · exact q
                        · rw [if_neg q] at c9; exact absurd rfl c9)⟩) z.2)
                  · subst d2 d3; exact ⟨e45, hC.same⟩⟩) (by omega) (by omega) d_MenuScreens_press_81
          · skip
            refine lv_iconst (v := 1) hx hb d_MenuScreens_press_56 (by decide) ?_
            refine lv_goto (tgt := 61) hx hb d_MenuScreens_press_57 (by decide) ?_
            refine lv_istore (lv' := [(4, .int 1), (3, .int (nI nx)), (2, .ref (ad 11 k)), (0, .ref (ad 0 0)), (1, .int p1)]) hx hb d_MenuScreens_press_61 hl (by decide) rfl (fun ls hl => ?_)
            refine lv_iload_n hx hb d_MenuScreens_press_63 rfl (lv_at hl 1 rfl) ?_
            refine lv_if_eq (tgt := 77) hx hb d_MenuScreens_press_64 (by decide) (fun c12 => ?_) (fun c12 => ?_)
            · skip
              refine lv_aload_n hx hb d_MenuScreens_press_77 rfl (lv_at hl 3 rfl) ?_
              refine mv_get C X (xl.get (i := 0) (j := 0) hTop2) 6 f_0_88_3 (v := .int (x 45)) rfl d_MenuScreens_press_78 ?_
              exact mq_iret hQ C X hr rfl hlk (⟨ad, L, LR.of xl, ⟨fun _ _ => ⟨rfl, rfl⟩, rfl⟩, fun r' x' y' A' B' hst => by
                  obtain ⟨a1, a2, a3, pr2, n2, a4, a5, a6, a7, a8⟩ := hst
                  subst a1 a2 a3
                  have en : n2 = ns := nI_eqI (by omega) (by omega) (a6.symm.trans ens)
                  subst en
                  have ep : pr2 = pr := nI_eqI (by omega) (by omega) (a4.symm.trans e45)
                  subst ep
                  rcases a8 with ⟨b1, b2, b3⟩ | ⟨b1, b2, b3, b4, b5⟩ | ⟨k0, b1, b2, b3, b4, b5⟩
                  · exfalso
                    rcases b1 with z | z
                    · rw [e9] at z; exact nI_nlt (b := 1) h91 (by omega) z
                    · rw [e9] at z; exact nI_nlt (a := 9) h92 (by decide) z
                  · omega
                  have ek0 : k0 = k9 := nI_eqI (by omega) (by omega) (b3.symm.trans e9)
                  subst ek0
                  subst hpz
                  rw [← enx] at b5
                  rcases b5 with ⟨d1, d2, d3⟩ | ⟨d1, d2, d3⟩
                  · exact absurd d1 (fun z => by
                    have : nx = 0 := nI_eqI (by omega) (by decide) c12
                    omega)
                  · subst d2 d3; exact ⟨e45, hC.same⟩⟩) (by omega) (by omega) d_MenuScreens_press_81
            · skip
              refine lv_iload hx hb d_MenuScreens_press_67 (lv_at hl 0 rfl) ?_
              refine lv_if_eq (tgt := 77) hx hb d_MenuScreens_press_69 (by decide) (fun z => absurd z (by decide)) (fun c13 => ?_)
              refine lv_aload_n hx hb d_MenuScreens_press_72 rfl (lv_at hl 3 rfl) ?_
              refine lv_iload_n hx hb d_MenuScreens_press_73 rfl (lv_at hl 1 rfl) ?_
              refine mv_put C X (xl.get (i := 0) (j := 0) hTop2) (xl.wr (i := 0) (j := 0) hTop2) 6 p_0_88_3 rfl rfl (Nat.le_of_ble_eq_true rfl) d_MenuScreens_press_74 (fun H locs X => ?_)
              have X : vO S0 D vcl (vup h0 (ad 0 0) (.inr (3, [.int (x 1), .int (x 2), .ref (ad 1 0), .ref (ad 6 0), .ref (ad 2 0), .ref (ad 8 0), .int (nI nx), .int sp, .int (x 46), .int bl, .int (x 55), .long (y 56), .long (y 57)]))) s H locs := X
              refine lv_aload_n hx hb d_MenuScreens_press_77 rfl (lv_at hl 3 rfl) ?_
              refine mv_get C X (vup_s _ _ _) 6 f_0_88_3 (v := .int (nI nx)) rfl d_MenuScreens_press_78 ?_
              exact mq_iret hQ C X hr rfl hlk (⟨ad, _, (LR.of xl).put (i := 0) (j := 0) hTop2, ⟨fun i hi => ⟨lput_k _ _ (by omega), rfl⟩, rfl⟩, fun r' x' y' A' B' hst => by
                  obtain ⟨a1, a2, a3, pr2, n2, a4, a5, a6, a7, a8⟩ := hst
                  subst a1 a2 a3
                  have en : n2 = ns := nI_eqI (by omega) (by omega) (a6.symm.trans ens)
                  subst en
                  have ep : pr2 = pr := nI_eqI (by omega) (by omega) (a4.symm.trans e45)
                  subst ep
                  rcases a8 with ⟨b1, b2, b3⟩ | ⟨b1, b2, b3, b4, b5⟩ | ⟨k0, b1, b2, b3, b4, b5⟩
                  · exfalso
                    rcases b1 with z | z
                    · rw [e9] at z; exact nI_nlt (b := 1) h91 (by omega) z
                    · rw [e9] at z; exact nI_nlt (a := 9) h92 (by decide) z
                  · omega
                  have ek0 : k0 = k9 := nI_eqI (by omega) (by omega) (b3.symm.trans e9)
                  subst ek0
                  subst hpz
                  rw [← enx] at b5
                  have hw : k0 = 9 ∨ ¬ (0 < k + 1 ∧ B' 24 (k + 1) < y' 47) := Or.inr (fun z => by
                    rw [if_pos ((brI_lt hS6.1 hS6.2 hsp.1 hsp.2.1 hsp.2.2).mpr z.2)] at c9; exact absurd c9 (by decide))
                  have h0 : 0 < nx := Nat.pos_of_ne_zero (fun z => c12 (by rw [z]; rfl))
                  rcases b5 with ⟨d1, d2, d3⟩ | ⟨d1, d2, d3⟩
                  · subst d2 d3
                    refine ⟨rfl, ?_⟩
                    have q := CR.top (x' := upd (upd x 0 0) 45 (nI nx)) (y' := y') (g := A' 58) hC rfl ((LR.of xl).put (i := 0) (j := 0) hTop2).2 (fun k a b c d => by rw [pk_un b, pk_un a]) rfl ⟨sp, bl, rfl, hsp, hlm⟩ (fun ns2 q1 q2 _ => ⟨nx, rfl, by
                      have : ns2 = n2 := nI_eqI (by omega) (by omega) (q1.symm.trans ens)
                      omega, fun _ => h0⟩)
                    rw [va_up_id] at q; exact q
                  · exact absurd ⟨h0, hw⟩ d1⟩) (by omega) (by omega) d_MenuScreens_press_81
    · skip
      refine lv_bipush (v := (-2)) hx hb d_MenuScreens_press_11 (by decide) ?_
      exact mq_iret hQ C X hr rfl hlk (⟨ad, L, LR.of xl, ⟨fun _ _ => ⟨rfl, rfl⟩, rfl⟩, fun r' x' y' A' B' hst => by
          obtain ⟨a1, a2, a3, pr2, n2, a4, a5, a6, a7, a8⟩ := hst
          subst a1 a2 a3
          rcases a8 with ⟨b1, b2, b3⟩ | ⟨b1, b2, b3, b4, b5⟩ | ⟨k0, b1, b2, b3, b4, b5⟩
          · subst b2 b3; exact ⟨rfl, hC.same⟩
          · exact absurd trivial (fun _ => c2 (Int32.not_lt.mp b2))
          · exact absurd trivial (fun _ => c2 (by rw [b3]; exact nI_le (b := 9) b2 (by decide)))⟩) (by omega) (by omega) d_MenuScreens_press_13
