theorem d_MenuScreens_sign_0 : decode prog_1_method_2_code 0 = .ok (.bipush 24, 2) := by decide +kernel
theorem d_MenuScreens_sign_2 : decode prog_1_method_2_code 2 = .ok (.istore_n 2, 1) := by decide +kernel
theorem d_MenuScreens_sign_3 : decode prog_1_method_2_code 3 = .ok (.iload_n 2, 1) := by decide +kernel
theorem d_MenuScreens_sign_4 : decode prog_1_method_2_code 4 = .ok (.ifCond .lt 51, 3) := by decide +kernel
theorem d_MenuScreens_sign_7 : decode prog_1_method_2_code 7 = .ok (.iload_n 1, 1) := by decide +kernel
theorem d_MenuScreens_sign_8 : decode prog_1_method_2_code 8 = .ok (.iload_n 2, 1) := by decide +kernel
theorem d_MenuScreens_sign_9 : decode prog_1_method_2_code 9 = .ok (.iushr, 1) := by decide +kernel
theorem d_MenuScreens_sign_10 : decode prog_1_method_2_code 10 = .ok (.sipush 255, 3) := by decide +kernel
theorem d_MenuScreens_sign_13 : decode prog_1_method_2_code 13 = .ok (.iand, 1) := by decide +kernel
theorem d_MenuScreens_sign_14 : decode prog_1_method_2_code 14 = .ok (.istore_n 3, 1) := by decide +kernel
theorem d_MenuScreens_sign_15 : decode prog_1_method_2_code 15 = .ok (.iload_n 3, 1) := by decide +kernel
theorem d_MenuScreens_sign_16 : decode prog_1_method_2_code 16 = .ok (.iconst 1, 1) := by decide +kernel
theorem d_MenuScreens_sign_17 : decode prog_1_method_2_code 17 = .ok (.if_icmp .lt 32, 3) := by decide +kernel
theorem d_MenuScreens_sign_20 : decode prog_1_method_2_code 20 = .ok (.iload_n 3, 1) := by decide +kernel
theorem d_MenuScreens_sign_21 : decode prog_1_method_2_code 21 = .ok (.bipush 127, 2) := by decide +kernel
theorem d_MenuScreens_sign_23 : decode prog_1_method_2_code 23 = .ok (.if_icmp .gt 26, 3) := by decide +kernel
theorem d_MenuScreens_sign_26 : decode prog_1_method_2_code 26 = .ok (.aload_n 0, 1) := by decide +kernel
theorem d_MenuScreens_sign_27 : decode prog_1_method_2_code 27 = .ok (.getfield 19, 3) := by decide +kernel
theorem d_MenuScreens_sign_30 : decode prog_1_method_2_code 30 = .ok (.invokevirtual 42, 3) := by decide +kernel
theorem d_MenuScreens_sign_33 : decode prog_1_method_2_code 33 = .ok (.sipush 4000, 3) := by decide +kernel
theorem d_MenuScreens_sign_36 : decode prog_1_method_2_code 36 = .ok (.if_icmp .ge 13, 3) := by decide +kernel
theorem d_MenuScreens_sign_39 : decode prog_1_method_2_code 39 = .ok (.aload_n 0, 1) := by decide +kernel
theorem d_MenuScreens_sign_40 : decode prog_1_method_2_code 40 = .ok (.getfield 19, 3) := by decide +kernel
theorem d_MenuScreens_sign_43 : decode prog_1_method_2_code 43 = .ok (.iload_n 3, 1) := by decide +kernel
theorem d_MenuScreens_sign_44 : decode prog_1_method_2_code 44 = .ok (.i2c, 1) := by decide +kernel
theorem d_MenuScreens_sign_45 : decode prog_1_method_2_code 45 = .ok (.invokevirtual 46, 3) := by decide +kernel
theorem d_MenuScreens_sign_48 : decode prog_1_method_2_code 48 = .ok (.pop, 1) := by decide +kernel
theorem d_MenuScreens_sign_49 : decode prog_1_method_2_code 49 = .ok (.iinc 2 (-8), 3) := by decide +kernel
theorem d_MenuScreens_sign_52 : decode prog_1_method_2_code 52 = .ok (.goto (-49), 3) := by decide +kernel
theorem d_MenuScreens_sign_55 : decode prog_1_method_2_code 55 = .ok (.return_, 1) := by decide +kernel
set_option maxRecDepth 100000 in
set_option maxHeartbeats 4000000 in
theorem cm_MenuScreens_sign {l : Launch} {S0 : State} {b : Nat} {D : va_G} {dT : Nat → ClassId} (hE : vEnv S0 b D dT) {dE mO : Nat} (hJ : vJ S0 dE mO) {h0 : vH} {hcv : vH} {ad : Nat → Nat → Nat} {L : vL} {cap : Nat} {x : Nat → Int32} {y : Nat → Int64} {A : Nat → Nat → Int32} {B : Nat → Nat → Int64} (xl : LH S0.heap.size hcv h0 ad L) (hC : CR dT dE h0 ad L cap x y A B) {p1 : Int32} {n0 : Nat} (hn0 : x 3 = nI n0) (hn1 : n0 ≤ 4000) : vMv l S0 D vcl GT y_MenuScreens_sign prog_1_method_2_code 4 none 6 126 4 (2 * ((cpS p1 n0 (A 4) cap 4) - cap)) [.ref (ad 0 0), .int p1] h0 (fun h' => ∃ ad' L', LR S0.heap.size hcv h0 ad L h' ad' L' ∧ kpF ad L ad' L' ∧ ∀ x' y' A' B', (y' = y ∧ B' = B ∧ ∃ n, x 3 = nI n ∧ n ≤ 4000 ∧ x' = upd (upd x 0 0) 3 (nI (sgN p1 n (A 4) 4).1) ∧ A' = va_up A 4 (sgN p1 n (A 4) 4).2) → CR dT dE h' ad' L' (cpS p1 n0 (A 4) cap 4) x' y' A' B') := by
  unfold vMv
  refine vM_ofQ hE.1 (by decide) (Nat.le_of_ble_eq_true rfl) (fun p e s m args below meth c ls Q hQ C hr hlk hnm X hl => ?_)
  have C : vC p s m _ c _ _ "MenuScreens" GT D vcl (vty dT) := C
  have hx := C.1.1
  have hb := C.1.2.1
  obtain ⟨H, eH⟩ : ∃ z, z = s.heap := ⟨_, rfl⟩
  obtain ⟨locs, elocs⟩ : ∃ z : List Loc, z = [] := ⟨_, rfl⟩
  rw [← eH, ← elocs] at X
  rw [← eH, ← elocs]
  clear eH elocs
  have hl : lv_has ls 4 [(0, .ref (ad 0 0)), (1, .int p1)] := hl
  have hC0 := hC
  obtain ⟨⟨sp, bl, hTop, hsp, hlm⟩, hdim, ⟨n3, e3, hBld⟩, ⟨n50, e50, hWr⟩, ⟨nr, e48, hPl⟩, hRe, hLi, ⟨nv, ns, np, nc, pf, cb, ce, cs, c0, lh, hnum, hpr, hRP, hTx, hrn⟩, hkey, hsm⟩ := hC0
  have hTop2 : L 0 0 = some (.inr (3, [.int (x 1), .int (x 2), .ref (ad 1 0), .ref (ad 6 0), .ref (ad 2 0), .ref (ad 8 0), .int (x 45), .int sp, .int (x 46), .int bl, .int (x 55), .long (y 56), .long (y 57)])) := hTop
  have e30 : n0 = n3 := nI_eqI (by omega) (by obtain ⟨_, _, _, _, _, _, q, _⟩ := hBld; omega) (hn0.symm.trans e3)
  subst e30
  have hBld0 : cBld dT ad L (sgN p1 n0 (A 4) 0).1 (cpS p1 n0 (A 4) cap 0) (sgN p1 n0 (A 4) 0).2 := hBld
  obtain ⟨_, _, _, _, hcb1, hcb2, _⟩ := hBld
  refine lv_bipush (v := 24) hx hb d_MenuScreens_sign_0 (by decide) ?_
  refine lv_istore_n (lv' := [(2, .int 24), (0, .ref (ad 0 0)), (1, .int p1)]) hx hb d_MenuScreens_sign_2 rfl hl (by decide) rfl (fun ls hl => ?_)
  have lp : ∀ (n_lp : Nat) (k : Nat) (ad1 : Nat → Nat → Nat) (L1 : vL) (i : Int32) (cu : Nat) (su : Nat) (ls : Array Slot) (h : vH) (H : Heap) (locs : List Loc), (i = 24 - 8 * nI k) → (k ≤ 4) → (LR S0.heap.size hcv h0 ad L h ad1 L1) → (∀ i, i ≠ 1 → L1 i = L i ∧ ad1 i = ad i) → (ad1 1 0 = ad 1 0) → (cBld dT ad1 L1 (sgN p1 n0 (A 4) k).1 (cpS p1 n0 (A 4) cap k) (sgN p1 n0 (A 4) k).2) → (cu ≤ k) → (su ≤ 2 * ((cpS p1 n0 (A 4) cap k) - cap)) → (4 - k) < n_lp → vO S0 D vcl h s H locs → lv_has ls 4 [(0, .ref (ad 0 0)), (1, .int p1), (2, .int i)] → W p l e (vRm 6 126 4 (2 * ((cpS p1 n0 (A 4) cap 4) - cap))) s m args below meth c H locs cu su Q (F0 m 3 ls []) := by
    intro n_lp
    induction n_lp with
    | zero => intros; exact absurd (by assumption) (Nat.not_lt_zero _)
    | succ n_lp ih_lp =>
      intro k ad1 L1 i cu su ls h H locs ei hk y1 hkp h10 hB hcu hsu hmu_lp X hl
      refine lv_iload_n hx hb d_MenuScreens_sign_3 rfl (lv_at hl 2 rfl) ?_
      refine lv_if_lt (tgt := 55) hx hb d_MenuScreens_sign_4 (by decide) (fun c1 => ?_) (fun c1 => ?_)
      · skip
        have hcm0 := cpS_mono (c := p1) (n0 := n0) (t0 := A 4) (cap := cap) (4 - k) k
        rw [show k + (4 - k) = 4 by omega] at hcm0
        exact mq_vret hQ C X hr hlk (⟨ad1, L1, y1, ⟨fun i hi => hkp i (by omega), congrFun (hkp 0 (by decide)).2 0⟩, fun x' y' A' B' hst => by
            have hk4 : k = 4 := (sh_4 k hk).1.mp (by rw [← ei]; exact c1)
            obtain ⟨a1, a2, n, a3, a4, a5, a6⟩ := hst
            have en : n = n0 := nI_eqI (by omega) (by omega) (a3.symm.trans hn0)
            subst en
            rw [hk4] at hB
            subst a1 a2 a5 a6
            exact hC.sgn hkp h10 y1.2 hB⟩) (by omega) (by omega) d_MenuScreens_sign_55
      · skip
        have hk4 : k < 4 := by
          rcases Nat.eq_or_lt_of_le hk with q | q
          · exact absurd (by rw [ei]; exact (sh_4 k hk).1.mpr q) c1
          · exact q
        obtain ⟨bb, hbb, ebb⟩ := byt_in p1 k
        have hcm := cpS_mono (c := p1) (n0 := n0) (t0 := A 4) (cap := cap) (4 - (k + 1)) (k + 1)
        rw [show k + 1 + (4 - (k + 1)) = 4 by omega] at hcm
        have hcs := cpS_s (c := p1) (n0 := n0) (t0 := A 4) (cap := cap) k
        have hc0 := (cpS_le (c := p1) (t0 := A 4) hn1 hcb1 hcb2 k).1
        refine lv_iload_n hx hb d_MenuScreens_sign_7 rfl (lv_at hl 1 rfl) ?_
        refine lv_iload_n hx hb d_MenuScreens_sign_8 rfl (lv_at hl 2 rfl) ?_
        refine lv_iushr (v := (p1.toUInt32 >>> ((i : Int32).toUInt32 &&& Int32.toUInt32 31)).toInt32) hx hb d_MenuScreens_sign_9 rfl ?_
        refine lv_sipush (v := 255) hx hb d_MenuScreens_sign_10 (by decide) ?_
        refine lv_iand hx hb d_MenuScreens_sign_13 ?_
        have E1 : (((p1.toUInt32 >>> ((i : Int32).toUInt32 &&& Int32.toUInt32 31)).toInt32) &&& 255) = nI bb := by rw [ei, ((sh_4 k hk).2 hk4).1, byt_u p1 hk4, ebb]
        rw [E1]
        refine lv_istore_n (lv' := [(3, .int (nI bb)), (0, .ref (ad 0 0)), (1, .int p1), (2, .int i)]) hx hb d_MenuScreens_sign_14 rfl hl (by decide) rfl (fun ls hl => ?_)
        refine lv_iload_n hx hb d_MenuScreens_sign_15 rfl (lv_at hl 0 rfl) ?_
        refine lv_iconst (v := 1) hx hb d_MenuScreens_sign_16 (by decide) ?_
        refine lv_icmp_lt (tgt := 49) hx hb d_MenuScreens_sign_17 (by decide) (fun c2 => ?_) (fun c2 => ?_)
        · skip
          have hsk := sgN_skip (n0 := n0) (t0 := A 4) (cap := cap) ebb hbb (Or.inl (by
            have := (nI_ltI (b := 1) (by omega) (by decide)).mp c2
            omega))
          refine lv_iinc (v := (i + (-8))) (lv' := [(2, .int (i + (-8))), (3, .int (nI bb)), (0, .ref (ad 0 0)), (1, .int p1)]) hx hb d_MenuScreens_sign_49 hl (k := 3) rfl rfl (by decide) rfl (fun ls hl => ?_)
          refine lv_goto (tgt := 3) hx hb d_MenuScreens_sign_52 (by decide) ?_
          exact ih_lp (k + 1) ad1 L1 (i + (-8)) cu su ls _ _ _ (by rw [ei]; exact ((sh_4 k hk).2 hk4).2) (by omega) y1 hkp h10 (by rw [hsk.1, hsk.2]; exact hB) (by omega) (by rw [hsk.2]; exact hsu) (by omega) X (lv_sub hl [2, 3, 0] rfl)
        · skip
          refine lv_iload_n hx hb d_MenuScreens_sign_20 rfl (lv_at hl 0 rfl) ?_
          refine lv_bipush (v := 127) hx hb d_MenuScreens_sign_21 (by decide) ?_
          refine lv_icmp_gt (tgt := 49) hx hb d_MenuScreens_sign_23 (by decide) (fun c3 => ?_) (fun c3 => ?_)
          · skip
            have hsk := sgN_skip (n0 := n0) (t0 := A 4) (cap := cap) ebb hbb (Or.inr (Or.inl ((nI_ltI (a := 127) (by decide) (by omega)).mp c3)))
            refine lv_iinc (v := (i + (-8))) (lv' := [(2, .int (i + (-8))), (3, .int (nI bb)), (0, .ref (ad 0 0)), (1, .int p1)]) hx hb d_MenuScreens_sign_49 hl (k := 3) rfl rfl (by decide) rfl (fun ls hl => ?_)
            refine lv_goto (tgt := 3) hx hb d_MenuScreens_sign_52 (by decide) ?_
            exact ih_lp (k + 1) ad1 L1 (i + (-8)) cu su ls _ _ _ (by rw [ei]; exact ((sh_4 k hk).2 hk4).2) (by omega) y1 hkp h10 (by rw [hsk.1, hsk.2]; exact hB) (by omega) (by rw [hsk.2]; exact hsu) (by omega) X (lv_sub hl [2, 3, 0] rfl)
          · skip
            have hb1 : 1 ≤ bb := by
              rcases Nat.eq_zero_or_pos bb with q | q
              · exact absurd (by rw [q]; decide) c2
              · exact q
            have hb2 : bb ≤ 127 := (nI_leI (b := 127) (by omega) (by decide)).mp (Int32.not_lt.mp c3)
            have hT0 := hTop2
            rw [← (hkp 0 (by decide)).1] at hT0
            have kT := y1.1.get (i := 0) (j := 0) hT0
            rw [(hkp 0 (by decide)).2] at kT
            have hB0 := hB
            obtain ⟨fb, ml, hb10, hb11, hbn, hbc, hbn4, hbf, hbt⟩ := hB0
            have kb := y1.1.get (i := 1) (j := 0) hb10
            have wb := y1.1.wr (i := 1) (j := 0) hb10
            rw [h10] at kb wb
            have kv := y1.1.get (i := 1) (j := 1) hb11
            have wv := y1.1.wr (i := 1) (j := 1) hb11
            refine lv_aload_n hx hb d_MenuScreens_sign_26 rfl (lv_at hl 1 rfl) ?_
            refine mv_get C X kT 2 f_0_19_3 (v := .ref (ad 1 0)) rfl d_MenuScreens_sign_27 ?_
            refine mv_bi X (mv_rV (rest := []) (As := []) gt_good C X k_0_42 (cm_StringBuilder_length hE kb) kb rfl rfl ⟨Nat.le_of_ble_eq_true rfl, Nat.le_of_ble_eq_true rfl⟩ rfl hl.1 rfl (Nat.le_of_ble_eq_true rfl) d_MenuScreens_sign_30 ⟨by show cu + 0 ≤ 4; omega, by show su + 0 ≤ (2 * ((cpS p1 n0 (A 4) cap 4) - cap)); omega⟩) (fun r4 hN H locs hp X => ?_)
            obtain ⟨eh, er⟩ := hp
            replace eh := eh.symm
            replace er := er.symm
            subst eh er
            refine lv_sipush (v := 4000) hx hb d_MenuScreens_sign_33 (by decide) ?_
            refine lv_icmp_ge (tgt := 49) hx hb d_MenuScreens_sign_36 (by decide) (fun c5 => ?_) (fun c5 => ?_)
            · skip
              have hsk := sgN_skip (n0 := n0) (t0 := A 4) (cap := cap) ebb hbb (Or.inr (Or.inr (by
                have := (nI_leI (a := 4000) (by decide) (by omega)).mp c5
                omega)))
              refine lv_iinc (v := (i + (-8))) (lv' := [(2, .int (i + (-8))), (3, .int (nI bb)), (0, .ref (ad 0 0)), (1, .int p1)]) hx hb d_MenuScreens_sign_49 hl (k := 3) rfl rfl (by decide) rfl (fun ls hl => ?_)
              refine lv_goto (tgt := 3) hx hb d_MenuScreens_sign_52 (by decide) ?_
              exact ih_lp (k + 1) ad1 L1 (i + (-8)) (cu + 0) (su + 0) ls _ _ _ (by rw [ei]; exact ((sh_4 k hk).2 hk4).2) (by omega) y1 hkp h10 (by rw [hsk.1, hsk.2]; exact hB) (by omega) (by rw [hsk.2]; exact hsu) (by omega) X (lv_sub hl [2, 3, 0] rfl)
            · skip
              refine lv_aload_n hx hb d_MenuScreens_sign_39 rfl (lv_at hl 1 rfl) ?_
              refine mv_get C X kT 2 f_0_19_3 (v := .ref (ad 1 0)) rfl d_MenuScreens_sign_40 ?_
              refine lv_iload_n hx hb d_MenuScreens_sign_43 rfl (lv_at hl 0 rfl) ?_
              refine lv_i2c (v := (((nI bb) : Int32).toUInt32 % 65536).toInt32) hx hb d_MenuScreens_sign_44 rfl ?_
              have hb4 : (sgN p1 n0 (A 4) k).1 < 4000 := (nI_ltI (b := 4000) (by omega) (by decide)).mp (Int32.not_le.mp c5)
              have E2 : (((nI bb) : Int32).toUInt32 % 65536).toInt32 = nI bb := i2c_7 bb (by omega)
              rw [E2]
              have hput := sgN_put (n0 := n0) (t0 := A 4) (cap := cap) ebb hb1 hb2 hb4
              by_cases hnc : (sgN p1 n0 (A 4) k).1 < (cpS p1 n0 (A 4) cap k)
              · have hput2 := hput.2
                rw [if_pos hnc] at hput2
                refine mv_bq X (mv_rV (rest := []) (As := [.int (nI bb)]) gt_good C X k_0_46 (cm_SB_append0 hE hJ (by omega) (by omega) hbf hnc kb wb kv wv) kb rfl rfl ⟨Nat.le_of_ble_eq_true rfl, Nat.le_of_ble_eq_true rfl⟩ rfl hl.1 rfl (Nat.le_of_ble_eq_true rfl) d_MenuScreens_sign_45 ⟨by show (cu + 0) + 0 ≤ 4; omega, by show (su + 0) + 0 ≤ (2 * ((cpS p1 n0 (A 4) cap 4) - cap)); omega⟩) (fun r6 hN H locs hp X => ?_)
                obtain ⟨er, av2, cap2, f2, q1, q2, q3, q4, q5, q6, q7, q8, q9⟩ := hp
                subst er
                change W _ _ _ _ _ _ _ _ _ _ _ _ _ _ _ (F0 _ _ _ (.ref (ad 1 0) :: _))
                have q1 := q1
                rw [← h10] at q1 q8
                have y2 := y1.two (i := 1) (j := 0) (i1 := 1) (j1 := 1) hb10 (by decide) q8 (fun c hc => hc.imp id (fun z => ⟨z, _, hb11⟩)) q1 q2 (q9.imp (fun z => ⟨z, _, hb11⟩) (fun z => ⟨z, q3⟩))
                obtain ⟨ad2, ead2⟩ : ∃ z, z = lput ad1 1 1 av2 := ⟨_, rfl⟩
                obtain ⟨L2, eL2⟩ : ∃ z : vL, z = lput (lput L1 1 0 (some (.inr (1, [.ref av2, .int 0, .int ml, .int (nI ((sgN p1 n0 (A 4) k).1 + 1))])))) 1 1 (some (.inl (dT 2, cap2, .inl f2))) := ⟨_, rfl⟩
                replace y2 : LR S0.heap.size hcv h0 ad L hN ad2 L2 := by rw [ead2, eL2]; exact y2
                have hkp2 : ∀ i, i ≠ 1 → L2 i = L i ∧ ad2 i = ad i := fun i hi => ⟨by rw [eL2, lput_k _ _ hi, lput_k _ _ hi]; exact (hkp i hi).1, by rw [ead2, lput_k _ _ hi]; exact (hkp i hi).2⟩
                have h102 : ad2 1 0 = ad 1 0 := by rw [ead2]; exact h10
                have e4 : cap2 = (cpS p1 n0 (A 4) cap (k + 1)) := by rw [q4]; exact hput.2.symm
                have hB2 : cBld dT ad2 L2 (sgN p1 n0 (A 4) (k + 1)).1 (cpS p1 n0 (A 4) cap (k + 1)) (sgN p1 n0 (A 4) (k + 1)).2 := by
                  rw [hput.1, ← e4]
                  refine B_put (ml := ml) hb4 hbc hb1 (by omega) hbt hbn q4 q5 q6 q7 ?_ ?_
                  · rw [eL2, ead2]; rfl
                  · rw [eL2]; rfl
                refine lv_pop hx hb d_MenuScreens_sign_48 rfl ?_
                refine lv_iinc (v := (i + (-8))) (lv' := [(2, .int (i + (-8))), (3, .int (nI bb)), (0, .ref (ad 0 0)), (1, .int p1)]) hx hb d_MenuScreens_sign_49 hl (k := 3) rfl rfl (by decide) rfl (fun ls hl => ?_)
                refine lv_goto (tgt := 3) hx hb d_MenuScreens_sign_52 (by decide) ?_
                exact ih_lp (k + 1) ad2 L2 (i + (-8)) ((cu + 0) + 0) ((su + 0) + 0) ls _ _ _ (by rw [ei]; exact ((sh_4 k hk).2 hk4).2) (by omega) y2 hkp2 h102 hB2 (by omega) (by omega) (by omega) X (lv_sub hl [2, 3, 0] rfl)
              · have hput2 := hput.2
                rw [if_neg hnc] at hput2
                have hnc : (sgN p1 n0 (A 4) k).1 = (cpS p1 n0 (A 4) cap k) := by omega
                refine mv_bq X (mv_rV (rest := []) (As := [.int (nI bb)]) gt_good C X k_0_46 (cm_SB_append1 hE hJ (by omega) (by omega) hbf hnc kb wb kv wv) kb rfl rfl ⟨Nat.le_of_ble_eq_true rfl, Nat.le_of_ble_eq_true rfl⟩ rfl hl.1 rfl (Nat.le_of_ble_eq_true rfl) d_MenuScreens_sign_45 ⟨by show (cu + 0) + 1 ≤ 4; omega, by show (su + 0) + (2 * (cpS p1 n0 (A 4) cap k) + 2) ≤ (2 * ((cpS p1 n0 (A 4) cap 4) - cap)); omega⟩) (fun r7 hN H locs hp X => ?_)
                obtain ⟨er, av2, cap2, f2, q1, q2, q3, q4, q5, q6, q7, q8, q9⟩ := hp
                subst er
                change W _ _ _ _ _ _ _ _ _ _ _ _ _ _ _ (F0 _ _ _ (.ref (ad 1 0) :: _))
                have q1 := q1
                rw [← h10] at q1 q8
                have y2 := y1.two (i := 1) (j := 0) (i1 := 1) (j1 := 1) hb10 (by decide) q8 (fun c hc => hc.imp id (fun z => ⟨z, _, hb11⟩)) q1 q2 (q9.imp (fun z => ⟨z, _, hb11⟩) (fun z => ⟨z, q3⟩))
                obtain ⟨ad2, ead2⟩ : ∃ z, z = lput ad1 1 1 av2 := ⟨_, rfl⟩
                obtain ⟨L2, eL2⟩ : ∃ z : vL, z = lput (lput L1 1 0 (some (.inr (1, [.ref av2, .int 0, .int ml, .int (nI ((sgN p1 n0 (A 4) k).1 + 1))])))) 1 1 (some (.inl (dT 2, cap2, .inl f2))) := ⟨_, rfl⟩
                replace y2 : LR S0.heap.size hcv h0 ad L hN ad2 L2 := by rw [ead2, eL2]; exact y2
                have hkp2 : ∀ i, i ≠ 1 → L2 i = L i ∧ ad2 i = ad i := fun i hi => ⟨by rw [eL2, lput_k _ _ hi, lput_k _ _ hi]; exact (hkp i hi).1, by rw [ead2, lput_k _ _ hi]; exact (hkp i hi).2⟩
                have h102 : ad2 1 0 = ad 1 0 := by rw [ead2]; exact h10
                have e4 : cap2 = (cpS p1 n0 (A 4) cap (k + 1)) := by rw [q4]; exact hput.2.symm
                have hB2 : cBld dT ad2 L2 (sgN p1 n0 (A 4) (k + 1)).1 (cpS p1 n0 (A 4) cap (k + 1)) (sgN p1 n0 (A 4) (k + 1)).2 := by
                  rw [hput.1, ← e4]
                  refine B_put (ml := ml) hb4 hbc hb1 (by omega) hbt hbn q4 q5 q6 q7 ?_ ?_
                  · rw [eL2, ead2]; rfl
                  · rw [eL2]; rfl
                refine lv_pop hx hb d_MenuScreens_sign_48 rfl ?_
                refine lv_iinc (v := (i + (-8))) (lv' := [(2, .int (i + (-8))), (3, .int (nI bb)), (0, .ref (ad 0 0)), (1, .int p1)]) hx hb d_MenuScreens_sign_49 hl (k := 3) rfl rfl (by decide) rfl (fun ls hl => ?_)
                refine lv_goto (tgt := 3) hx hb d_MenuScreens_sign_52 (by decide) ?_
                exact ih_lp (k + 1) ad2 L2 (i + (-8)) ((cu + 0) + 1) ((su + 0) + (2 * (cpS p1 n0 (A 4) cap k) + 2)) ls _ _ _ (by rw [ei]; exact ((sh_4 k hk).2 hk4).2) (by omega) y2 hkp2 h102 hB2 (by omega) (by omega) (by omega) X (lv_sub hl [2, 3, 0] rfl)
  exact lp (4 - 0 + 1) 0 ad L 24 0 0 ls _ _ _ rfl (Nat.zero_le _) (LR.of xl) (fun _ _ => ⟨rfl, rfl⟩) rfl hBld0 (Nat.le_refl _) (Nat.zero_le _) (Nat.lt_succ_self _) X (lv_sub hl [1, 2, 0] rfl)
