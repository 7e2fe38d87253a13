theorem d_MenuScreens_shown_0 : decode prog_1_method_6_code 0 = .ok (.iload_n 1, 1) := by decide +kernel
theorem d_MenuScreens_shown_1 : decode prog_1_method_6_code 1 = .ok (.ifCond .lt 23, 3) := by decide +kernel
theorem d_MenuScreens_shown_4 : decode prog_1_method_6_code 4 = .ok (.iload_n 1, 1) := by decide +kernel
theorem d_MenuScreens_shown_5 : decode prog_1_method_6_code 5 = .ok (.aload_n 0, 1) := by decide +kernel
theorem d_MenuScreens_shown_6 : decode prog_1_method_6_code 6 = .ok (.getfield 9, 3) := by decide +kernel
theorem d_MenuScreens_shown_9 : decode prog_1_method_6_code 9 = .ok (.if_icmp .ge 15, 3) := by decide +kernel
theorem d_MenuScreens_shown_12 : decode prog_1_method_6_code 12 = .ok (.iload_n 2, 1) := by decide +kernel
theorem d_MenuScreens_shown_13 : decode prog_1_method_6_code 13 = .ok (.ifCond .lt 11, 3) := by decide +kernel
theorem d_MenuScreens_shown_16 : decode prog_1_method_6_code 16 = .ok (.iload_n 2, 1) := by decide +kernel
theorem d_MenuScreens_shown_17 : decode prog_1_method_6_code 17 = .ok (.aload_n 0, 1) := by decide +kernel
theorem d_MenuScreens_shown_18 : decode prog_1_method_6_code 18 = .ok (.getfield 13, 3) := by decide +kernel
theorem d_MenuScreens_shown_21 : decode prog_1_method_6_code 21 = .ok (.if_icmp .lt 6, 3) := by decide +kernel
theorem d_MenuScreens_shown_24 : decode prog_1_method_6_code 24 = .ok (.bipush (-2), 2) := by decide +kernel
theorem d_MenuScreens_shown_26 : decode prog_1_method_6_code 26 = .ok (.ireturn, 1) := by decide +kernel
theorem d_MenuScreens_shown_27 : decode prog_1_method_6_code 27 = .ok (.iload_n 1, 1) := by decide +kernel
theorem d_MenuScreens_shown_28 : decode prog_1_method_6_code 28 = .ok (.aload_n 0, 1) := by decide +kernel
theorem d_MenuScreens_shown_29 : decode prog_1_method_6_code 29 = .ok (.getfield 9, 3) := by decide +kernel
theorem d_MenuScreens_shown_32 : decode prog_1_method_6_code 32 = .ok (.iconst 1, 1) := by decide +kernel
theorem d_MenuScreens_shown_33 : decode prog_1_method_6_code 33 = .ok (.isub, 1) := by decide +kernel
theorem d_MenuScreens_shown_34 : decode prog_1_method_6_code 34 = .ok (.if_icmp .ne 14, 3) := by decide +kernel
theorem d_MenuScreens_shown_37 : decode prog_1_method_6_code 37 = .ok (.aload_n 0, 1) := by decide +kernel
theorem d_MenuScreens_shown_38 : decode prog_1_method_6_code 38 = .ok (.getfield 38, 3) := by decide +kernel
theorem d_MenuScreens_shown_41 : decode prog_1_method_6_code 41 = .ok (.iload_n 2, 1) := by decide +kernel
theorem d_MenuScreens_shown_42 : decode prog_1_method_6_code 42 = .ok (.invokevirtual 129, 3) := by decide +kernel
theorem d_MenuScreens_shown_45 : decode prog_1_method_6_code 45 = .ok (.goto 4, 3) := by decide +kernel
theorem d_MenuScreens_shown_48 : decode prog_1_method_6_code 48 = .ok (.iconst 0, 1) := by decide +kernel
theorem d_MenuScreens_shown_49 : decode prog_1_method_6_code 49 = .ok (.istore_n 3, 1) := by decide +kernel
theorem d_MenuScreens_shown_50 : decode prog_1_method_6_code 50 = .ok (.iload_n 3, 1) := by decide +kernel
theorem d_MenuScreens_shown_51 : decode prog_1_method_6_code 51 = .ok (.ifCond .eq 5, 3) := by decide +kernel
theorem d_MenuScreens_shown_54 : decode prog_1_method_6_code 54 = .ok (.iload_n 3, 1) := by decide +kernel
theorem d_MenuScreens_shown_55 : decode prog_1_method_6_code 55 = .ok (.ireturn, 1) := by decide +kernel
theorem d_MenuScreens_shown_56 : decode prog_1_method_6_code 56 = .ok (.aload_n 0, 1) := by decide +kernel
theorem d_MenuScreens_shown_57 : decode prog_1_method_6_code 57 = .ok (.getfield 34, 3) := by decide +kernel
theorem d_MenuScreens_shown_60 : decode prog_1_method_6_code 60 = .ok (.aload_n 0, 1) := by decide +kernel
theorem d_MenuScreens_shown_61 : decode prog_1_method_6_code 61 = .ok (.getfield 88, 3) := by decide +kernel
theorem d_MenuScreens_shown_64 : decode prog_1_method_6_code 64 = .ok (.invokevirtual 112, 3) := by decide +kernel
theorem d_MenuScreens_shown_67 : decode prog_1_method_6_code 67 = .ok (.astore 4, 2) := by decide +kernel
theorem d_MenuScreens_shown_69 : decode prog_1_method_6_code 69 = .ok (.aload 4, 2) := by decide +kernel
theorem d_MenuScreens_shown_71 : decode prog_1_method_6_code 71 = .ok (.ifnull 15, 3) := by decide +kernel
theorem d_MenuScreens_shown_74 : decode prog_1_method_6_code 74 = .ok (.aload 4, 2) := by decide +kernel
theorem d_MenuScreens_shown_76 : decode prog_1_method_6_code 76 = .ok (.aload_n 0, 1) := by decide +kernel
theorem d_MenuScreens_shown_77 : decode prog_1_method_6_code 77 = .ok (.getfield 122, 3) := by decide +kernel
theorem d_MenuScreens_shown_80 : decode prog_1_method_6_code 80 = .ok (.invokevirtual 125, 3) := by decide +kernel
theorem d_MenuScreens_shown_83 : decode prog_1_method_6_code 83 = .ok (.ifCond .eq 6, 3) := by decide +kernel
theorem d_MenuScreens_shown_86 : decode prog_1_method_6_code 86 = .ok (.bipush 32, 2) := by decide +kernel
theorem d_MenuScreens_shown_88 : decode prog_1_method_6_code 88 = .ok (.ireturn, 1) := by decide +kernel
theorem d_MenuScreens_shown_89 : decode prog_1_method_6_code 89 = .ok (.aload 4, 2) := by decide +kernel
theorem d_MenuScreens_shown_91 : decode prog_1_method_6_code 91 = .ok (.iload_n 1, 1) := by decide +kernel
theorem d_MenuScreens_shown_92 : decode prog_1_method_6_code 92 = .ok (.iload_n 2, 1) := by decide +kernel
theorem d_MenuScreens_shown_93 : decode prog_1_method_6_code 93 = .ok (.aload_n 0, 1) := by decide +kernel
theorem d_MenuScreens_shown_94 : decode prog_1_method_6_code 94 = .ok (.getfield 132, 3) := by decide +kernel
theorem d_MenuScreens_shown_97 : decode prog_1_method_6_code 97 = .ok (.invokevirtual 135, 3) := by decide +kernel
theorem d_MenuScreens_shown_100 : decode prog_1_method_6_code 100 = .ok (.ireturn, 1) := by decide +kernel
set_option maxRecDepth 100000 in
set_option maxHeartbeats 4000000 in
theorem cm_MenuScreens_shown {l : Launch} {S0 : State} {b : Nat} {D : va_G} {dT : Nat → ClassId} (hE : vEnv S0 b D dT) {dE mO : Nat} (hJ : vJ S0 dE mO) {h0 : vH} {hcv : vH} {ad : Nat → Nat → Nat} {L : vL} {cap : Nat} {x : Nat → Int32} {y : Nat → Int64} {A : Nat → Nat → Int32} {B : Nat → Nat → Int64} (xl : LH S0.heap.size hcv h0 ad L) (hC : CR dT dE h0 ad L cap x y A B) (hcE : ∃ fE, hcv dE = some (aR dT 0 fE)) {p1 p2 : Int32} : vMi l S0 D vcl GT y_MenuScreens_shown prog_1_method_6_code 5 (some .int) 6 134 0 0 [.ref (ad 0 0), .int p1, .int p2] h0 (fun r h' => clP dT dE S0.heap.size hcv h0 ad L cap (fun r x' y' A' B' => (x' = upd x 0 0 ∧ y' = y ∧ A' = A ∧ B' = B ∧ ∃ n hh wd0 pr np nc, (x 50 = nI n ∧ n ≤ 200 ∧ x 1 = nI hh ∧ hh ≤ 40 ∧ x 2 = nI wd0 ∧ wd0 ≤ 40 ∧ x 45 = nI pr ∧ pr ≤ 30 ∧ (0 < pr → x 28 = nI np ∧ x 39 = nI nc ∧ np ≤ 512 ∧ nc ≤ 512)) ∧ ((p1 < 0 ∨ x 1 ≤ p1 ∨ p2 < 0 ∨ x 2 ≤ p2) ∧ r = -2 ∨ ∃ ro co, p1 = nI ro ∧ p2 = nI co ∧ ro < hh ∧ co < wd0 ∧ ∃ W0, W0 ≤ n ∧ (W0 = 0 → ∀ k, 1 ≤ k → k ≤ n → ¬ A 53 k = 0) ∧ (0 < W0 → A 53 W0 = 0 ∧ ∀ k, 1 ≤ k → k ≤ n → A 53 k = 0 → A 51 k ≤ A 51 W0) ∧ ((0 < W0 ∧ ro = hh - 1 ∧ co < 3) ∧ r = (if co = 0 then 33 else if co = 1 then 48 + A 51 W0 / 10 else 48 + (A 51 W0 - A 51 W0 / 10 * 10)) ∨ ¬ (0 < W0 ∧ ro = hh - 1 ∧ co < 3) ∧ ((pr = 0 ∨ B 24 pr < y 47) ∧ r = 32 ∨ 0 < pr ∧ ¬ B 24 pr < y 47 ∧ r = scn (fun p => ptV A B (x 45) (x 46) nc p p1 co) np))))) r h') := by
  unfold vMi
  refine vM_ofQ hE.1 (by decide) (Nat.le_of_ble_eq_true rfl) (fun p e s m args below meth c ls Q hQ C hr hlk hnm X hl => ?_)
  have C : vC p s m _ c _ _ "MenuScreens" GT D vcl (vty dT) := C
  have hx := C.1.1
  have hb := C.1.2.1
  obtain ⟨H, eH⟩ : ∃ z, z = s.heap := ⟨_, rfl⟩
  obtain ⟨locs, elocs⟩ : ∃ z : List Loc, z = [] := ⟨_, rfl⟩
  rw [← eH, ← elocs] at X
  rw [← eH, ← elocs]
  clear eH elocs
  have hl : lv_has ls 5 [(0, .ref (ad 0 0)), (1, .int p1), (2, .int p2)] := hl
  have hC0 := hC
  obtain ⟨⟨sp, bl, hTop, hsp, hlm⟩, hdim, ⟨n3, e3, hBld⟩, ⟨n50, e50, hWr⟩, ⟨nr, e48, hPl⟩, hRe, hLi, ⟨nv, ns, np, nc, pf, cb, ce, cs, c0, lh, hnum, hpr, hRP, hTx, hrn⟩, hkey, hsm⟩ := hC0
  have hTop2 : L 0 0 = some (.inr (3, [.int (x 1), .int (x 2), .ref (ad 1 0), .ref (ad 6 0), .ref (ad 2 0), .ref (ad 8 0), .int (x 45), .int sp, .int (x 46), .int bl, .int (x 55), .long (y 56), .long (y 57)])) := hTop
  refine lv_iload_n hx hb d_MenuScreens_shown_0 rfl (lv_at hl 1 rfl) ?_
  refine lv_if_lt (tgt := 24) hx hb d_MenuScreens_shown_1 (by decide) (fun c1 => ?_) (fun c1 => ?_)
  · skip
    refine lv_bipush (v := (-2)) hx hb d_MenuScreens_shown_24 (by decide) ?_
    exact mq_iret hQ C X hr rfl hlk (⟨ad, L, LR.of xl, ⟨fun _ _ => ⟨rfl, rfl⟩, rfl⟩, fun r' x' y' A' B' hst => by
        obtain ⟨a1, a2, a3, a4, n', hh', wd', pr', np', nc', ⟨q1, q2, q3, q4, q5, q6, q7, q8, q9⟩, a5⟩ := hst
        subst a1 a2 a3 a4
        rcases a5 with ⟨b1, b2⟩ | ⟨ro, co, u1, u2, u3, u4, -⟩
        · subst b2; exact ⟨rfl, hC.same⟩
        · exact absurd trivial (fun _ => by rw [u1] at c1; exact nI_pos (by omega) c1)⟩) (by omega) (by omega) d_MenuScreens_shown_26
  · skip
    refine lv_iload_n hx hb d_MenuScreens_shown_4 rfl (lv_at hl 1 rfl) ?_
    refine lv_aload_n hx hb d_MenuScreens_shown_5 rfl (lv_at hl 0 rfl) ?_
    refine mv_get C X (xl.get (i := 0) (j := 0) hTop2) 0 f_0_9_3 (v := .int (x 1)) rfl d_MenuScreens_shown_6 ?_
    refine lv_icmp_ge (tgt := 24) hx hb d_MenuScreens_shown_9 (by decide) (fun c2 => ?_) (fun c2 => ?_)
    · skip
      refine lv_bipush (v := (-2)) hx hb d_MenuScreens_shown_24 (by decide) ?_
      exact mq_iret hQ C X hr rfl hlk (⟨ad, L, LR.of xl, ⟨fun _ _ => ⟨rfl, rfl⟩, rfl⟩, fun r' x' y' A' B' hst => by
          obtain ⟨a1, a2, a3, a4, n', hh', wd', pr', np', nc', ⟨q1, q2, q3, q4, q5, q6, q7, q8, q9⟩, a5⟩ := hst
          subst a1 a2 a3 a4
          rcases a5 with ⟨b1, b2⟩ | ⟨ro, co, u1, u2, u3, u4, -⟩
          · subst b2; exact ⟨rfl, hC.same⟩
          · exact absurd trivial (fun _ => by
              have w := c2
              rw [u1, q3] at w
              have := (nI_leI (by omega) (by omega)).mp w; omega)⟩) (by omega) (by omega) d_MenuScreens_shown_26
    · skip
      refine lv_iload_n hx hb d_MenuScreens_shown_12 rfl (lv_at hl 2 rfl) ?_
      refine lv_if_lt (tgt := 24) hx hb d_MenuScreens_shown_13 (by decide) (fun c3 => ?_) (fun c3 => ?_)
      · skip
        refine lv_bipush (v := (-2)) hx hb d_MenuScreens_shown_24 (by decide) ?_
        exact mq_iret hQ C X hr rfl hlk (⟨ad, L, LR.of xl, ⟨fun _ _ => ⟨rfl, rfl⟩, rfl⟩, fun r' x' y' A' B' hst => by
            obtain ⟨a1, a2, a3, a4, n', hh', wd', pr', np', nc', ⟨q1, q2, q3, q4, q5, q6, q7, q8, q9⟩, a5⟩ := hst
            subst a1 a2 a3 a4
            rcases a5 with ⟨b1, b2⟩ | ⟨ro, co, u1, u2, u3, u4, -⟩
            · subst b2; exact ⟨rfl, hC.same⟩
            · exact absurd trivial (fun _ => by rw [u2] at c3; exact nI_pos (by omega) c3)⟩) (by omega) (by omega) d_MenuScreens_shown_26
      · skip
        refine lv_iload_n hx hb d_MenuScreens_shown_16 rfl (lv_at hl 2 rfl) ?_
        refine lv_aload_n hx hb d_MenuScreens_shown_17 rfl (lv_at hl 0 rfl) ?_
        refine mv_get C X (xl.get (i := 0) (j := 0) hTop2) 1 f_0_13_3 (v := .int (x 2)) rfl d_MenuScreens_shown_18 ?_
        refine lv_icmp_lt (tgt := 27) hx hb d_MenuScreens_shown_21 (by decide) (fun c4 => ?_) (fun c4 => ?_)
        · skip
          obtain ⟨hh, ww, e1, hh1, hh2, e2, ww1, ww2⟩ := hdim
          obtain ⟨ro, hro, ero⟩ := ix_lt (n := hh) c1 (by rw [← e1]; exact Int32.not_le.mp c2) (by omega)
          obtain ⟨co, hco, eco⟩ := ix_lt (n := ww) c3 (by rw [← e2]; exact c4) (by omega)
          obtain ⟨no, op, fr, ft, fo, hw0, hw1, hw2, hw3, hwk, hwo, hop, hac, hmo, hn200, hnon, hla⟩ := hWr
          obtain ⟨hPl1, hPl2, fr0, hPl3, hPl4⟩ := hPl
          have hw00 : 0 < no → fo 0 = nI (op 0) ∧ 1 ≤ op 0 ∧ op 0 ≤ n50 := fun z => ⟨hwo 0 z, (hop.1 0 z).1, (hop.1 0 z).2.1⟩
          have hfr : 0 < no → fr (op 0 - 1) = A 51 (op 0) ∧ 0 ≤ (fr (op 0 - 1)).toInt ∧ (fr (op 0 - 1)).toInt ≤ 99 := fun z => by
            have q := hwk (op 0) (hop.1 0 z).1 (hop.1 0 z).2.1
            exact ⟨q.1, by rw [q.1]; exact q.2.2.1, by rw [q.1]; exact q.2.2.2.1⟩
          refine lv_iload_n hx hb d_MenuScreens_shown_27 rfl (lv_at hl 1 rfl) ?_
          refine lv_aload_n hx hb d_MenuScreens_shown_28 rfl (lv_at hl 0 rfl) ?_
          refine mv_get C X (xl.get (i := 0) (j := 0) hTop2) 0 f_0_9_3 (v := .int (x 1)) rfl d_MenuScreens_shown_29 ?_
          refine lv_iconst (v := 1) hx hb d_MenuScreens_shown_32 (by decide) ?_
          refine lv_isub hx hb d_MenuScreens_shown_33 ?_
          refine lv_icmp_ne (tgt := 48) hx hb d_MenuScreens_shown_34 (by decide) (fun c5 => ?_) (fun c5 => ?_)
          · skip
            refine lv_iconst (v := 0) hx hb d_MenuScreens_shown_48 (by decide) ?_
            refine lv_istore_n (lv' := [(3, .int 0), (0, .ref (ad 0 0)), (1, .int p1), (2, .int p2)]) hx hb d_MenuScreens_shown_49 rfl hl (by decide) rfl (fun ls hl => ?_)
            refine lv_iload_n hx hb d_MenuScreens_shown_50 rfl (lv_at hl 0 rfl) ?_
            refine lv_if_eq (tgt := 56) hx hb d_MenuScreens_shown_51 (by decide) (fun c6 => ?_) (fun z => absurd rfl z)
            refine lv_aload_n hx hb d_MenuScreens_shown_56 rfl (lv_at hl 1 rfl) ?_
            refine mv_get C X (xl.get (i := 0) (j := 0) hTop2) 4 f_0_34_3 (v := .ref (ad 2 0)) rfl d_MenuScreens_shown_57 ?_
            refine lv_aload_n hx hb d_MenuScreens_shown_60 rfl (lv_at hl 1 rfl) ?_
            refine mv_get C X (xl.get (i := 0) (j := 0) hTop2) 6 f_0_88_3 (v := .int (x 45)) rfl d_MenuScreens_shown_61 ?_
            obtain ⟨fE, hcE2⟩ := hcE
            obtain ⟨ea, cap2, fl, md, hLs, hfl, hLL, hea⟩ := hRP.2.1.1.hp xl hcE2
            obtain ⟨kl, wl, ke, ⟨hncap, hcap⟩, hd⟩ := hLs
            obtain ⟨env, hnv, ens, hns⟩ := hnum
            obtain ⟨pr, e45, hpr1, hpr2⟩ := hpr
            refine mv_bq X (mv_rV (rest := []) (As := [.int (x 45)]) gt_good C X k_0_112 (cm_Plan_screenNumbered hE (g := ad 11) (fs := fun k => _) hncap (by omega) hfl (fun k hk => xl.get (i := 11) (j := k) (hRP.2.1.2 k hk).1) (xl.get (i := 2) (j := 0) hPl1) kl ke) (xl.get (i := 2) (j := 0) hPl1) rfl rfl ⟨Nat.le_of_ble_eq_true rfl, Nat.le_of_ble_eq_true rfl⟩ rfl hl.1 rfl (Nat.le_of_ble_eq_true rfl) d_MenuScreens_shown_64 ⟨Nat.zero_le _, Nat.zero_le _⟩) (fun r7 hN H locs hp X => ?_)
            obtain ⟨eh, hq⟩ := hp
            replace eh := eh.symm
            subst eh
            rcases hq with ⟨hq, er⟩ | ⟨k, hk, ek, er⟩
            · subst er
              have hpz := pr_0 e45 hpr1 hns hq
              change W _ _ _ _ _ _ _ _ _ _ _ _ _ _ _ (F0 _ _ _ (.null :: _))
              refine lv_astoreN (lv' := [(4, .null), (3, .int 0), (0, .ref (ad 0 0)), (1, .int p1), (2, .int p2)]) hx hb d_MenuScreens_shown_67 hl (by decide) rfl (fun ls hl => ?_)
              refine lv_aloadN hx hb d_MenuScreens_shown_69 (lv_at hl 0 rfl) ?_
              refine lv_ifnullN (tgt := 86) hx hb d_MenuScreens_shown_71 (by decide) ?_
              refine lv_bipush (v := 32) hx hb d_MenuScreens_shown_86 (by decide) ?_
              exact mq_iret hQ C X hr rfl hlk (⟨ad, L, LR.of xl, ⟨fun _ _ => ⟨rfl, rfl⟩, rfl⟩, fun r' x' y' A' B' hst => by
                  obtain ⟨a1, a2, a3, a4, n', hh', wd', pr', np', nc', ⟨q1, q2, q3, q4, q5, q6, q7, q8, q9⟩, a5⟩ := hst
                  subst a1 a2 a3 a4
                  have y1 : n' = n50 := nI_eqI (by omega) (by omega) (q1.symm.trans e50)
                  have y2 : hh' = hh := nI_eqI (by omega) (by omega) (q3.symm.trans e1)
                  have y3 : wd' = ww := nI_eqI (by omega) (by omega) (q5.symm.trans e2)
                  subst y1 y2 y3
                  rcases a5 with ⟨b1, b2⟩ | ⟨ro2, co2, u1, u2, u3, u4, W0, v1, v2, v3, a6⟩
                  · exfalso
                    rcases b1 with z | z | z | z
                    · exact c1 z
                    · exact c2 z
                    · exact c3 z
                    · exact absurd c4 (Int32.not_lt.mpr z)
                  have y4 : ro2 = ro := nI_eqI (by omega) (by omega) (u1.symm.trans ero)
                  have y5 : co2 = co := nI_eqI (by omega) (by omega) (u2.symm.trans eco)
                  subst y4 y5
                  obtain ⟨wa, wb⟩ := wr_hand hop v1 v2 v3
                  rcases a6 with ⟨d1, -⟩ | ⟨-, a7⟩
                  · exact absurd d1 (fun z => c5 (by rw [ero, z.2.1, ← nI_sub hh1, ← e1]; rfl))
                  have y6 : pr' = pr := nI_eqI (by omega) (by omega) (q7.symm.trans e45)
                  subst y6
                  rcases a7 with ⟨d1, d2⟩ | ⟨d1, d2, d3⟩
                  · rw [d2]; exact ⟨rfl, hC.same⟩
                  · omega⟩) (by omega) (by omega) d_MenuScreens_shown_88
            · subst er
              have hpz := pr_k e45 hpr1 hns hk ek
              change W _ _ _ _ _ _ _ _ _ _ _ _ _ _ _ (F0 _ _ _ (.ref (ad 11 k) :: _))
              obtain ⟨hS1, hS2, hS3, ⟨gk2, hS4, hS5⟩, hS6, hS7⟩ := hRP.2.1.2 k hk
              refine lv_astore (lv' := [(4, .ref (ad 11 k)), (3, .int 0), (0, .ref (ad 0 0)), (1, .int p1), (2, .int p2)]) hx hb d_MenuScreens_shown_67 hl (by decide) rfl (fun ls hl => ?_)
              refine lv_aload hx hb d_MenuScreens_shown_69 (lv_at hl 0 rfl) ?_
              refine lv_ifnull hx hb d_MenuScreens_shown_71 ?_
              refine lv_aload hx hb d_MenuScreens_shown_74 (lv_at hl 0 rfl) ?_
              refine lv_aload_n hx hb d_MenuScreens_shown_76 rfl (lv_at hl 2 rfl) ?_
              refine mv_get C X (xl.get (i := 0) (j := 0) hTop2) 7 f_0_122_3 (v := .int sp) rfl d_MenuScreens_shown_77 ?_
              refine mv_bi X (mv_rV (rest := []) (As := [.int sp]) gt_good C X k_0_125 (cm_Screen_isBarredAt hE (xl.get (i := 11) (j := k) hS1)) (xl.get (i := 11) (j := k) hS1) rfl rfl ⟨Nat.le_of_ble_eq_true rfl, Nat.le_of_ble_eq_true rfl⟩ rfl hl.1 rfl (Nat.le_of_ble_eq_true rfl) d_MenuScreens_shown_80 ⟨Nat.zero_le _, Nat.zero_le _⟩) (fun r8 hN H locs hp X => ?_)
              obtain ⟨eh, er⟩ := hp
              replace eh := eh.symm
              replace er := er.symm
              subst eh er
              refine lv_if_eq (tgt := 89) hx hb d_MenuScreens_shown_83 (by decide) (fun c9 => ?_) (fun c9 => ?_)
              · skip
                refine lv_aload hx hb d_MenuScreens_shown_89 (lv_at hl 0 rfl) ?_
                refine lv_iload_n hx hb d_MenuScreens_shown_91 rfl (lv_at hl 3 rfl) ?_
                refine lv_iload_n hx hb d_MenuScreens_shown_92 rfl (lv_at hl 4 rfl) ?_
                refine lv_aload_n hx hb d_MenuScreens_shown_93 rfl (lv_at hl 2 rfl) ?_
                refine mv_get C X (xl.get (i := 0) (j := 0) hTop2) 8 f_0_132_3 (v := .int (x 46)) rfl d_MenuScreens_shown_94 ?_
                obtain ⟨ea3, cap3, fl3, md3, hLs3, hfl3, hLL3, hea3⟩ := hS2.hp xl hcE2
                obtain ⟨kl3, wl3, ke3, ⟨hncap3, hcap3⟩, hd3⟩ := hLs3
                obtain ⟨t1, t2, t3, t4, t5, sz, t6, t7, t8⟩ := hTx (by omega)
                have pf1 := hRP.2.2.2.2.1.1
                have hpc : ∀ j, j < pf (k + 1) - pf k → pcI dT h0 (ad 16 (pf k + j)) p1 (nI co) (x 46) (gcV A B (x 46) (pf k + j) p1 co) (allB (fun q => cnB A B (cb (pf k + j) + q)) (ce (pf k + j) - cb (pf k + j))) := fun j hj => by
                  have hm := pf_mono hRP.2.2.2.2.1 (ns - (k + 1)) (k + 1) (by omega)
                  rw [show k + 1 + (ns - (k + 1)) = ns by omega, pf1.2.1] at hm
                  have hp : pf k + j < np := by omega
                  exact pc_of xl hRP hnv hp (t5 _ hp) t7 t6 (t8 _ hp) hsm (by omega)
                rw [← eco] at hpc
                refine mv_bi X (mv_rV (rest := []) (As := [.int p1, .int p2, .int (x 46)]) gt_good C X k_0_135 (cm_Screen_signAt hE hJ (g := fun j => ad 16 (pf k + j)) hncap3 (by omega) hfl3 hpc (xl.get (i := 11) (j := k) hS1) kl3 ke3) (xl.get (i := 11) (j := k) hS1) rfl rfl ⟨Nat.le_of_ble_eq_true rfl, Nat.le_of_ble_eq_true rfl⟩ rfl hl.1 rfl (Nat.le_of_ble_eq_true rfl) d_MenuScreens_shown_97 ⟨Nat.zero_le _, Nat.zero_le _⟩) (fun r10 hN H locs hp X => ?_)
                obtain ⟨eh, er⟩ := hp
                replace eh := eh.symm
                replace er := er.symm
                subst eh er
                exact mq_iret hQ C X hr rfl hlk (⟨ad, L, LR.of xl, ⟨fun _ _ => ⟨rfl, rfl⟩, rfl⟩, fun r' x' y' A' B' hst => by
                    obtain ⟨a1, a2, a3, a4, n', hh', wd', pr', np', nc', ⟨q1, q2, q3, q4, q5, q6, q7, q8, q9⟩, a5⟩ := hst
                    subst a1 a2 a3 a4
                    have y1 : n' = n50 := nI_eqI (by omega) (by omega) (q1.symm.trans e50)
                    have y2 : hh' = hh := nI_eqI (by omega) (by omega) (q3.symm.trans e1)
                    have y3 : wd' = ww := nI_eqI (by omega) (by omega) (q5.symm.trans e2)
                    subst y1 y2 y3
                    rcases a5 with ⟨b1, b2⟩ | ⟨ro2, co2, u1, u2, u3, u4, W0, v1, v2, v3, a6⟩
                    · exfalso
                      rcases b1 with z | z | z | z
                      · exact c1 z
                      · exact c2 z
                      · exact c3 z
                      · exact absurd c4 (Int32.not_lt.mpr z)
                    have y4 : ro2 = ro := nI_eqI (by omega) (by omega) (u1.symm.trans ero)
                    have y5 : co2 = co := nI_eqI (by omega) (by omega) (u2.symm.trans eco)
                    subst y4 y5
                    obtain ⟨wa, wb⟩ := wr_hand hop v1 v2 v3
                    rcases a6 with ⟨d1, -⟩ | ⟨-, a7⟩
                    · exact absurd d1 (fun z => c5 (by rw [ero, z.2.1, ← nI_sub hh1, ← e1]; rfl))
                    have y6 : pr' = pr := nI_eqI (by omega) (by omega) (q7.symm.trans e45)
                    subst y6
                    subst hpz
                    have hbr : ¬ B' 24 (k + 1) < y' 47 := fun z => by
                      rw [if_pos ((brI_lt hS6.1 hS6.2 hsp.1 hsp.2.1 hsp.2.2).mpr z)] at c9; exact absurd c9 (by decide)
                    rcases a7 with ⟨d1, d2⟩ | ⟨d1, d2, d3⟩
                    · exfalso
                      rcases d1 with z | z
                      · omega
                      · exact hbr z
                    · refine ⟨?_, hC.same⟩
                      obtain ⟨w1, w2, w3, w4⟩ := q9 d1
                      have z1 : np' = np := nI_eqI (by omega) (by omega) (w1.symm.trans t1)
                      have z2 : nc' = nc := nI_eqI (by omega) (by omega) (w2.symm.trans t2)
                      subst z1 z2
                      rw [d3, e45]
                      refine (shown_sc2 (pr := k + 1) hRP.2.2.2.2.1 hns (by omega) (by omega) (fun p q hp => ?_)).symm
                      unfold pvV
                      by_cases w30 : A' 30 p = 2
                      · rw [if_pos w30]
                        split
                        · exact dgF_0
                        · decide
                      · rw [if_neg w30]; exact wdV_0 t7 (t8 p hp w30).1 (t8 p hp w30).2⟩) (by omega) (by omega) d_MenuScreens_shown_100
              · skip
                refine lv_bipush (v := 32) hx hb d_MenuScreens_shown_86 (by decide) ?_
                exact mq_iret hQ C X hr rfl hlk (⟨ad, L, LR.of xl, ⟨fun _ _ => ⟨rfl, rfl⟩, rfl⟩, fun r' x' y' A' B' hst => by
                    obtain ⟨a1, a2, a3, a4, n', hh', wd', pr', np', nc', ⟨q1, q2, q3, q4, q5, q6, q7, q8, q9⟩, a5⟩ := hst
                    subst a1 a2 a3 a4
                    have y1 : n' = n50 := nI_eqI (by omega) (by omega) (q1.symm.trans e50)
                    have y2 : hh' = hh := nI_eqI (by omega) (by omega) (q3.symm.trans e1)
                    have y3 : wd' = ww := nI_eqI (by omega) (by omega) (q5.symm.trans e2)
                    subst y1 y2 y3
                    rcases a5 with ⟨b1, b2⟩ | ⟨ro2, co2, u1, u2, u3, u4, W0, v1, v2, v3, a6⟩
                    · exfalso
                      rcases b1 with z | z | z | z
                      · exact c1 z
                      · exact c2 z
                      · exact c3 z
                      · exact absurd c4 (Int32.not_lt.mpr z)
                    have y4 : ro2 = ro := nI_eqI (by omega) (by omega) (u1.symm.trans ero)
                    have y5 : co2 = co := nI_eqI (by omega) (by omega) (u2.symm.trans eco)
                    subst y4 y5
                    obtain ⟨wa, wb⟩ := wr_hand hop v1 v2 v3
                    rcases a6 with ⟨d1, -⟩ | ⟨-, a7⟩
                    · exact absurd d1 (fun z => c5 (by rw [ero, z.2.1, ← nI_sub hh1, ← e1]; rfl))
                    have y6 : pr' = pr := nI_eqI (by omega) (by omega) (q7.symm.trans e45)
                    subst y6
                    subst hpz
                    have hbr : B' 24 (k + 1) < y' 47 := (brI_lt hS6.1 hS6.2 hsp.1 hsp.2.1 hsp.2.2).mp (by
                          by_cases q : brI (B' 24 (k + 1)) < sp
                          · exact q
                          · rw [if_neg q] at c9; exact absurd rfl c9)
                    rcases a7 with ⟨d1, d2⟩ | ⟨d1, d2, d3⟩
                    · rw [d2]; exact ⟨rfl, hC.same⟩
                    · exact absurd hbr d2⟩) (by omega) (by omega) d_MenuScreens_shown_88
          · skip
            refine lv_aload_n hx hb d_MenuScreens_shown_37 rfl (lv_at hl 0 rfl) ?_
            refine mv_get C X (xl.get (i := 0) (j := 0) hTop2) 5 f_0_38_3 (v := .ref (ad 8 0)) rfl d_MenuScreens_shown_38 ?_
            refine lv_iload_n hx hb d_MenuScreens_shown_41 rfl (lv_at hl 2 rfl) ?_
            refine mv_bi X (mv_rV (rest := []) (As := [.int p2]) gt_good C X k_0_129 (cm_Warnings_signAt hE (k := op 0) (by omega) hn200 hw00 (xl.get (i := 8) (j := 0) hw0) (xl.get (i := 8) (j := 1) hw1) (xl.get (i := 8) (j := 3) hw3)) (xl.get (i := 8) (j := 0) hw0) rfl rfl ⟨Nat.le_of_ble_eq_true rfl, Nat.le_of_ble_eq_true rfl⟩ rfl hl.1 rfl (Nat.le_of_ble_eq_true rfl) d_MenuScreens_shown_42 ⟨Nat.zero_le _, Nat.zero_le _⟩) (fun r11 hN H locs hp X => ?_)
            obtain ⟨eh, hqw⟩ := hp
            replace eh := eh.symm
            subst eh
            have hsg := sg_w hqw eco (by omega) (fun z => (hfr z).2)
            refine lv_goto (tgt := 49) hx hb d_MenuScreens_shown_45 (by decide) ?_
            refine lv_istore_n (lv' := [(3, .int r11), (0, .ref (ad 0 0)), (1, .int p1), (2, .int p2)]) hx hb d_MenuScreens_shown_49 rfl hl (by decide) rfl (fun ls hl => ?_)
            refine lv_iload_n hx hb d_MenuScreens_shown_50 rfl (lv_at hl 0 rfl) ?_
            refine lv_if_eq (tgt := 56) hx hb d_MenuScreens_shown_51 (by decide) (fun c12 => ?_) (fun c12 => ?_)
            · skip
              refine lv_aload_n hx hb d_MenuScreens_shown_56 rfl (lv_at hl 1 rfl) ?_
              refine mv_get C X (xl.get (i := 0) (j := 0) hTop2) 4 f_0_34_3 (v := .ref (ad 2 0)) rfl d_MenuScreens_shown_57 ?_
              refine lv_aload_n hx hb d_MenuScreens_shown_60 rfl (lv_at hl 1 rfl) ?_
              refine mv_get C X (xl.get (i := 0) (j := 0) hTop2) 6 f_0_88_3 (v := .int (x 45)) rfl d_MenuScreens_shown_61 ?_
              obtain ⟨fE, hcE2⟩ := hcE
              obtain ⟨ea, cap2, fl, md, hLs, hfl, hLL, hea⟩ := hRP.2.1.1.hp xl hcE2
              obtain ⟨kl, wl, ke, ⟨hncap, hcap⟩, hd⟩ := hLs
              obtain ⟨env, hnv, ens, hns⟩ := hnum
              obtain ⟨pr, e45, hpr1, hpr2⟩ := hpr
              refine mv_bq X (mv_rV (rest := []) (As := [.int (x 45)]) gt_good C X k_0_112 (cm_Plan_screenNumbered hE (g := ad 11) (fs := fun k => _) hncap (by omega) hfl (fun k hk => xl.get (i := 11) (j := k) (hRP.2.1.2 k hk).1) (xl.get (i := 2) (j := 0) hPl1) kl ke) (xl.get (i := 2) (j := 0) hPl1) rfl rfl ⟨Nat.le_of_ble_eq_true rfl, Nat.le_of_ble_eq_true rfl⟩ rfl hl.1 rfl (Nat.le_of_ble_eq_true rfl) d_MenuScreens_shown_64 ⟨Nat.zero_le _, Nat.zero_le _⟩) (fun r13 hN H locs hp X => ?_)
              obtain ⟨eh, hq⟩ := hp
              replace eh := eh.symm
              subst eh
              rcases hq with ⟨hq, er⟩ | ⟨k, hk, ek, er⟩
              · subst er
                have hpz := pr_0 e45 hpr1 hns hq
                change W _ _ _ _ _ _ _ _ _ _ _ _ _ _ _ (F0 _ _ _ (.null :: _))
                refine lv_astoreN (lv' := [(4, .null), (3, .int r11), (0, .ref (ad 0 0)), (1, .int p1), (2, .int p2)]) hx hb d_MenuScreens_shown_67 hl (by decide) rfl (fun ls hl => ?_)
                refine lv_aloadN hx hb d_MenuScreens_shown_69 (lv_at hl 0 rfl) ?_
                refine lv_ifnullN (tgt := 86) hx hb d_MenuScreens_shown_71 (by decide) ?_
                refine lv_bipush (v := 32) hx hb d_MenuScreens_shown_86 (by decide) ?_
                exact mq_iret hQ C X hr rfl hlk (⟨ad, L, LR.of xl, ⟨fun _ _ => ⟨rfl, rfl⟩, rfl⟩, fun r' x' y' A' B' hst => by
                    obtain ⟨a1, a2, a3, a4, n', hh', wd', pr', np', nc', ⟨q1, q2, q3, q4, q5, q6, q7, q8, q9⟩, a5⟩ := hst
                    subst a1 a2 a3 a4
                    have y1 : n' = n50 := nI_eqI (by omega) (by omega) (q1.symm.trans e50)
                    have y2 : hh' = hh := nI_eqI (by omega) (by omega) (q3.symm.trans e1)
                    have y3 : wd' = ww := nI_eqI (by omega) (by omega) (q5.symm.trans e2)
                    subst y1 y2 y3
                    rcases a5 with ⟨b1, b2⟩ | ⟨ro2, co2, u1, u2, u3, u4, W0, v1, v2, v3, a6⟩
                    · exfalso
                      rcases b1 with z | z | z | z
                      · exact c1 z
                      · exact c2 z
                      · exact c3 z
                      · exact absurd c4 (Int32.not_lt.mpr z)
                    have y4 : ro2 = ro := nI_eqI (by omega) (by omega) (u1.symm.trans ero)
                    have y5 : co2 = co := nI_eqI (by omega) (by omega) (u2.symm.trans eco)
                    subst y4 y5
                    obtain ⟨wa, wb⟩ := wr_hand hop v1 v2 v3
                    have erw : ro2 = hh' - 1 := nI_eqI (by omega) (by omega) (by rw [← ero, ← nI_sub hh1, ← e1]; exact c5)
                    rcases a6 with ⟨d1, -⟩ | ⟨-, a7⟩
                    · exact absurd d1 (fun z => hsg.1 c12 ⟨wa.mp z.1, z.2.2⟩)
                    have y6 : pr' = pr := nI_eqI (by omega) (by omega) (q7.symm.trans e45)
                    subst y6
                    rcases a7 with ⟨d1, d2⟩ | ⟨d1, d2, d3⟩
                    · rw [d2]; exact ⟨rfl, hC.same⟩
                    · omega⟩) (by omega) (by omega) d_MenuScreens_shown_88
              · subst er
                have hpz := pr_k e45 hpr1 hns hk ek
                change W _ _ _ _ _ _ _ _ _ _ _ _ _ _ _ (F0 _ _ _ (.ref (ad 11 k) :: _))
                obtain ⟨hS1, hS2, hS3, ⟨gk2, hS4, hS5⟩, hS6, hS7⟩ := hRP.2.1.2 k hk
                refine lv_astore (lv' := [(4, .ref (ad 11 k)), (3, .int r11), (0, .ref (ad 0 0)), (1, .int p1), (2, .int p2)]) hx hb d_MenuScreens_shown_67 hl (by decide) rfl (fun ls hl => ?_)
                refine lv_aload hx hb d_MenuScreens_shown_69 (lv_at hl 0 rfl) ?_
                refine lv_ifnull hx hb d_MenuScreens_shown_71 ?_
                refine lv_aload hx hb d_MenuScreens_shown_74 (lv_at hl 0 rfl) ?_
                refine lv_aload_n hx hb d_MenuScreens_shown_76 rfl (lv_at hl 2 rfl) ?_
                refine mv_get C X (xl.get (i := 0) (j := 0) hTop2) 7 f_0_122_3 (v := .int sp) rfl d_MenuScreens_shown_77 ?_
                refine mv_bi X (mv_rV (rest := []) (As := [.int sp]) gt_good C X k_0_125 (cm_Screen_isBarredAt hE (xl.get (i := 11) (j := k) hS1)) (xl.get (i := 11) (j := k) hS1) rfl rfl ⟨Nat.le_of_ble_eq_true rfl, Nat.le_of_ble_eq_true rfl⟩ rfl hl.1 rfl (Nat.le_of_ble_eq_true rfl) d_MenuScreens_shown_80 ⟨Nat.zero_le _, Nat.zero_le _⟩) (fun r14 hN H locs hp X => ?_)
                obtain ⟨eh, er⟩ := hp
                replace eh := eh.symm
                replace er := er.symm
                subst eh er
                refine lv_if_eq (tgt := 89) hx hb d_MenuScreens_shown_83 (by decide) (fun c15 => ?_) (fun c15 => ?_)
                · skip
                  refine lv_aload hx hb d_MenuScreens_shown_89 (lv_at hl 0 rfl) ?_
                  refine lv_iload_n hx hb d_MenuScreens_shown_91 rfl (lv_at hl 3 rfl) ?_
                  refine lv_iload_n hx hb d_MenuScreens_shown_92 rfl (lv_at hl 4 rfl) ?_
                  refine lv_aload_n hx hb d_MenuScreens_shown_93 rfl (lv_at hl 2 rfl) ?_
                  refine mv_get C X (xl.get (i := 0) (j := 0) hTop2) 8 f_0_132_3 (v := .int (x 46)) rfl d_MenuScreens_shown_94 ?_
                  obtain ⟨ea3, cap3, fl3, md3, hLs3, hfl3, hLL3, hea3⟩ := hS2.hp xl hcE2
                  obtain ⟨kl3, wl3, ke3, ⟨hncap3, hcap3⟩, hd3⟩ := hLs3
                  obtain ⟨t1, t2, t3, t4, t5, sz, t6, t7, t8⟩ := hTx (by omega)
                  have pf1 := hRP.2.2.2.2.1.1
                  have hpc : ∀ j, j < pf (k + 1) - pf k → pcI dT h0 (ad 16 (pf k + j)) p1 (nI co) (x 46) (gcV A B (x 46) (pf k + j) p1 co) (allB (fun q => cnB A B (cb (pf k + j) + q)) (ce (pf k + j) - cb (pf k + j))) := fun j hj => by
                    have hm := pf_mono hRP.2.2.2.2.1 (ns - (k + 1)) (k + 1) (by omega)
                    rw [show k + 1 + (ns - (k + 1)) = ns by omega, pf1.2.1] at hm
                    have hp : pf k + j < np := by omega
                    exact pc_of xl hRP hnv hp (t5 _ hp) t7 t6 (t8 _ hp) hsm (by omega)
                  rw [← eco] at hpc
                  refine mv_bi X (mv_rV (rest := []) (As := [.int p1, .int p2, .int (x 46)]) gt_good C X k_0_135 (cm_Screen_signAt hE hJ (g := fun j => ad 16 (pf k + j)) hncap3 (by omega) hfl3 hpc (xl.get (i := 11) (j := k) hS1) kl3 ke3) (xl.get (i := 11) (j := k) hS1) rfl rfl ⟨Nat.le_of_ble_eq_true rfl, Nat.le_of_ble_eq_true rfl⟩ rfl hl.1 rfl (Nat.le_of_ble_eq_true rfl) d_MenuScreens_shown_97 ⟨Nat.zero_le _, Nat.zero_le _⟩) (fun r16 hN H locs hp X => ?_)
                  obtain ⟨eh, er⟩ := hp
                  replace eh := eh.symm
                  replace er := er.symm
                  subst eh er
                  exact mq_iret hQ C X hr rfl hlk (⟨ad, L, LR.of xl, ⟨fun _ _ => ⟨rfl, rfl⟩, rfl⟩, fun r' x' y' A' B' hst => by
                      obtain ⟨a1, a2, a3, a4, n', hh', wd', pr', np', nc', ⟨q1, q2, q3, q4, q5, q6, q7, q8, q9⟩, a5⟩ := hst
                      subst a1 a2 a3 a4
                      have y1 : n' = n50 := nI_eqI (by omega) (by omega) (q1.symm.trans e50)
                      have y2 : hh' = hh := nI_eqI (by omega) (by omega) (q3.symm.trans e1)
                      have y3 : wd' = ww := nI_eqI (by omega) (by omega) (q5.symm.trans e2)
                      subst y1 y2 y3
                      rcases a5 with ⟨b1, b2⟩ | ⟨ro2, co2, u1, u2, u3, u4, W0, v1, v2, v3, a6⟩
                      · exfalso
                        rcases b1 with z | z | z | z
                        · exact c1 z
                        · exact c2 z
                        · exact c3 z
                        · exact absurd c4 (Int32.not_lt.mpr z)
                      have y4 : ro2 = ro := nI_eqI (by omega) (by omega) (u1.symm.trans ero)
                      have y5 : co2 = co := nI_eqI (by omega) (by omega) (u2.symm.trans eco)
                      subst y4 y5
                      obtain ⟨wa, wb⟩ := wr_hand hop v1 v2 v3
                      have erw : ro2 = hh' - 1 := nI_eqI (by omega) (by omega) (by rw [← ero, ← nI_sub hh1, ← e1]; exact c5)
                      rcases a6 with ⟨d1, -⟩ | ⟨-, a7⟩
                      · exact absurd d1 (fun z => hsg.1 c12 ⟨wa.mp z.1, z.2.2⟩)
                      have y6 : pr' = pr := nI_eqI (by omega) (by omega) (q7.symm.trans e45)
                      subst y6
                      subst hpz
                      have hbr : ¬ B' 24 (k + 1) < y' 47 := fun z => by
                        rw [if_pos ((brI_lt hS6.1 hS6.2 hsp.1 hsp.2.1 hsp.2.2).mpr z)] at c15; exact absurd c15 (by decide)
                      rcases a7 with ⟨d1, d2⟩ | ⟨d1, d2, d3⟩
                      · exfalso
                        rcases d1 with z | z
                        · omega
                        · exact hbr z
                      · refine ⟨?_, hC.same⟩
                        obtain ⟨w1, w2, w3, w4⟩ := q9 d1
                        have z1 : np' = np := nI_eqI (by omega) (by omega) (w1.symm.trans t1)
                        have z2 : nc' = nc := nI_eqI (by omega) (by omega) (w2.symm.trans t2)
                        subst z1 z2
                        rw [d3, e45]
                        refine (shown_sc2 (pr := k + 1) hRP.2.2.2.2.1 hns (by omega) (by omega) (fun p q hp => ?_)).symm
                        unfold pvV
                        by_cases w30 : A' 30 p = 2
                        · rw [if_pos w30]
                          split
                          · exact dgF_0
                          · decide
                        · rw [if_neg w30]; exact wdV_0 t7 (t8 p hp w30).1 (t8 p hp w30).2⟩) (by omega) (by omega) d_MenuScreens_shown_100
                · skip
                  refine lv_bipush (v := 32) hx hb d_MenuScreens_shown_86 (by decide) ?_
                  exact mq_iret hQ C X hr rfl hlk (⟨ad, L, LR.of xl, ⟨fun _ _ => ⟨rfl, rfl⟩, rfl⟩, fun r' x' y' A' B' hst => by
                      obtain ⟨a1, a2, a3, a4, n', hh', wd', pr', np', nc', ⟨q1, q2, q3, q4, q5, q6, q7, q8, q9⟩, a5⟩ := hst
                      subst a1 a2 a3 a4
                      have y1 : n' = n50 := nI_eqI (by omega) (by omega) (q1.symm.trans e50)
                      have y2 : hh' = hh := nI_eqI (by omega) (by omega) (q3.symm.trans e1)
                      have y3 : wd' = ww := nI_eqI (by omega) (by omega) (q5.symm.trans e2)
                      subst y1 y2 y3
                      rcases a5 with ⟨b1, b2⟩ | ⟨ro2, co2, u1, u2, u3, u4, W0, v1, v2, v3, a6⟩
                      · exfalso
                        rcases b1 with z | z | z | z
                        · exact c1 z
                        · exact c2 z
                        · exact c3 z
                        · exact absurd c4 (Int32.not_lt.mpr z)
                      have y4 : ro2 = ro := nI_eqI (by omega) (by omega) (u1.symm.trans ero)
                      have y5 : co2 = co := nI_eqI (by omega) (by omega) (u2.symm.trans eco)
                      subst y4 y5
                      obtain ⟨wa, wb⟩ := wr_hand hop v1 v2 v3
                      have erw : ro2 = hh' - 1 := nI_eqI (by omega) (by omega) (by rw [← ero, ← nI_sub hh1, ← e1]; exact c5)
                      rcases a6 with ⟨d1, -⟩ | ⟨-, a7⟩
                      · exact absurd d1 (fun z => hsg.1 c12 ⟨wa.mp z.1, z.2.2⟩)
                      have y6 : pr' = pr := nI_eqI (by omega) (by omega) (q7.symm.trans e45)
                      subst y6
                      subst hpz
                      have hbr : B' 24 (k + 1) < y' 47 := (brI_lt hS6.1 hS6.2 hsp.1 hsp.2.1 hsp.2.2).mp (by
                            by_cases q : brI (B' 24 (k + 1)) < sp
                            · exact q
                            · rw [if_neg q] at c15; exact absurd rfl c15)
                      rcases a7 with ⟨d1, d2⟩ | ⟨d1, d2, d3⟩
                      · rw [d2]; exact ⟨rfl, hC.same⟩
                      · exact absurd hbr d2⟩) (by omega) (by omega) d_MenuScreens_shown_88
            · skip
              refine lv_iload_n hx hb d_MenuScreens_shown_54 rfl (lv_at hl 0 rfl) ?_
              exact mq_iret hQ C X hr rfl hlk (⟨ad, L, LR.of xl, ⟨fun _ _ => ⟨rfl, rfl⟩, rfl⟩, fun r' x' y' A' B' hst => by
                  obtain ⟨a1, a2, a3, a4, n', hh', wd', pr', np', nc', ⟨q1, q2, q3, q4, q5, q6, q7, q8, q9⟩, a5⟩ := hst
                  subst a1 a2 a3 a4
                  have y1 : n' = n50 := nI_eqI (by omega) (by omega) (q1.symm.trans e50)
                  have y2 : hh' = hh := nI_eqI (by omega) (by omega) (q3.symm.trans e1)
                  have y3 : wd' = ww := nI_eqI (by omega) (by omega) (q5.symm.trans e2)
                  subst y1 y2 y3
                  rcases a5 with ⟨b1, b2⟩ | ⟨ro2, co2, u1, u2, u3, u4, W0, v1, v2, v3, a6⟩
                  · exfalso
                    rcases b1 with z | z | z | z
                    · exact c1 z
                    · exact c2 z
                    · exact c3 z
                    · exact absurd c4 (Int32.not_lt.mpr z)
                  have y4 : ro2 = ro := nI_eqI (by omega) (by omega) (u1.symm.trans ero)
                  have y5 : co2 = co := nI_eqI (by omega) (by omega) (u2.symm.trans eco)
                  subst y4 y5
                  obtain ⟨wa, wb⟩ := wr_hand hop v1 v2 v3
                  have erw : ro2 = hh' - 1 := nI_eqI (by omega) (by omega) (by rw [← ero, ← nI_sub hh1, ← e1]; exact c5)
                  obtain ⟨g1, g2⟩ := hsg.2 c12
                  rcases a6 with ⟨d1, d2⟩ | ⟨d1, -⟩
                  · refine ⟨?_, hC.same⟩
                    rw [d2, g2, (hfr g1.1).1, wb g1.1]
                  · exact absurd ⟨wa.mpr g1.1, erw, g1.2⟩ d1⟩) (by omega) (by omega) d_MenuScreens_shown_55
        · skip
          refine lv_bipush (v := (-2)) hx hb d_MenuScreens_shown_24 (by decide) ?_
          exact mq_iret hQ C X hr rfl hlk (⟨ad, L, LR.of xl, ⟨fun _ _ => ⟨rfl, rfl⟩, rfl⟩, fun r' x' y' A' B' hst => by
              obtain ⟨a1, a2, a3, a4, n', hh', wd', pr', np', nc', ⟨q1, q2, q3, q4, q5, q6, q7, q8, q9⟩, a5⟩ := hst
              subst a1 a2 a3 a4
              rcases a5 with ⟨b1, b2⟩ | ⟨ro, co, u1, u2, u3, u4, -⟩
              · subst b2; exact ⟨rfl, hC.same⟩
              · exact absurd trivial (fun _ => by
                  exact c4 (by rw [u2, q5]; exact nI_lt (by omega) (by omega)))⟩) (by omega) (by omega) d_MenuScreens_shown_26
