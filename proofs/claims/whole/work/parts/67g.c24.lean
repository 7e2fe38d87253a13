theorem d_MenuScreens_accept_0 : decode prog_1_method_9_code 0 = .ok (.aload_n 0, 1) := by decide +kernel
theorem d_MenuScreens_accept_1 : decode prog_1_method_9_code 1 = .ok (.getfield 38, 3) := by decide +kernel
theorem d_MenuScreens_accept_4 : decode prog_1_method_9_code 4 = .ok (.iload_n 1, 1) := by decide +kernel
theorem d_MenuScreens_accept_5 : decode prog_1_method_9_code 5 = .ok (.invokevirtual 145, 3) := by decide +kernel
theorem d_MenuScreens_accept_8 : decode prog_1_method_9_code 8 = .ok (.ireturn, 1) := by decide +kernel
set_option maxRecDepth 100000 in
set_option maxHeartbeats 4000000 in
theorem cm_MenuScreens_accept {l : Launch} {S0 : State} {b : Nat} {D : va_G} {dT : Nat → ClassId} (hE : vEnv S0 b D dT) {dE mO : Nat} (hJ : vJ S0 dE mO) {h0 : vH} {hcv : vH} {ad : Nat → Nat → Nat} {L : vL} {cap : Nat} {x : Nat → Int32} {y : Nat → Int64} {A : Nat → Nat → Int32} {B : Nat → Nat → Int64} (xl : LH S0.heap.size hcv h0 ad L) (hC : CR dT dE h0 ad L cap x y A B) {p1 : Int32} : vMi l S0 D vcl GT y_MenuScreens_accept prog_1_method_9_code 2 (some .int) 2 45 0 0 [.ref (ad 0 0), .int p1] h0 (fun r h' => clP dT dE S0.heap.size hcv h0 ad L cap (fun r x' y' A' B' => (x' = upd x 0 0 ∧ y' = y ∧ B' = B ∧ ∃ n, x 50 = nI n ∧ n ≤ 200 ∧ ((p1 < 1 ∨ x 50 < p1) ∧ r = -1 ∧ A' = A ∨ ∃ w0, 1 ≤ w0 ∧ w0 ≤ n ∧ p1 = nI w0 ∧ (¬ A 53 w0 = 0 ∧ r = -1 ∧ A' = A ∨ A 53 w0 = 0 ∧ y 54 - B 52 w0 < 30 ∧ r = -3 ∧ A' = A ∨ A 53 w0 = 0 ∧ ¬ y 54 - B 52 w0 < 30 ∧ r = nI (cnt (fun j => decide (upd (A 53) w0 1 (j + 1) = 0)) n) ∧ A' = va_up A 53 (upd (A 53) w0 1))))) r h') := by
  unfold vMi
  refine vM_ofQ hE.1 (by decide) (Nat.le_of_ble_eq_true rfl) (fun p e s m args below meth c ls Q hQ C hr hlk hnm X hl => ?_)
  have C : vC p s m _ c _ _ "MenuScreens" GT D vcl (vty dT) := C
  have hx := C.1.1
  have hb := C.1.2.1
  obtain ⟨H, eH⟩ : ∃ z, z = s.heap := ⟨_, rfl⟩
  obtain ⟨locs, elocs⟩ : ∃ z : List Loc, z = [] := ⟨_, rfl⟩
  rw [← eH, ← elocs] at X
  rw [← eH, ← elocs]
  clear eH elocs
  have hl : lv_has ls 2 [(0, .ref (ad 0 0)), (1, .int p1)] := hl
  have hC0 := hC
  obtain ⟨⟨sp, bl, hTop, hsp, hlm⟩, hdim, ⟨n3, e3, hBld⟩, ⟨n50, e50, hWr⟩, ⟨nr, e48, hPl⟩, hRe, hLi, ⟨nv, ns, np, nc, pf, cb, ce, cs, c0, lh, hnum, hpr, hRP, hTx, hrn⟩, hkey, hsm⟩ := hC0
  have hTop2 : L 0 0 = some (.inr (3, [.int (x 1), .int (x 2), .ref (ad 1 0), .ref (ad 6 0), .ref (ad 2 0), .ref (ad 8 0), .int (x 45), .int sp, .int (x 46), .int bl, .int (x 55), .long (y 56), .long (y 57)])) := hTop
  refine lv_aload_n hx hb d_MenuScreens_accept_0 rfl (lv_at hl 0 rfl) ?_
  refine mv_get C X (xl.get (i := 0) (j := 0) hTop2) 5 f_0_38_3 (v := .ref (ad 8 0)) rfl d_MenuScreens_accept_1 ?_
  refine lv_iload_n hx hb d_MenuScreens_accept_4 rfl (lv_at hl 1 rfl) ?_
  obtain ⟨no, op, fr, ft, fo, hw0, hw1, hw2, hw3, hwk, hwo, hop, hac, hmo, hn200, hnon, hla⟩ := hWr
  refine mv_bi X (mv_rV (rest := []) (As := [.int p1]) gt_good C X k_0_145 (cm_Warnings_close hE (op := op) (xl.nj (i := 8) (j := 1) (i' := 8) (j' := 3) hw1 hw3 (by decide)) hn200 hnon (fun j hj => ⟨hwo j hj, (hop.1 j hj).1, (hop.1 j hj).2.1⟩) (xl.get (i := 8) (j := 0) hw0) (xl.wr (i := 8) (j := 0) hw0) (xl.get (i := 8) (j := 1) hw1) (xl.wr (i := 8) (j := 1) hw1) (xl.get (i := 8) (j := 2) hw2) (xl.wr (i := 8) (j := 2) hw2) (xl.get (i := 8) (j := 3) hw3) (xl.wr (i := 8) (j := 3) hw3)) (xl.get (i := 8) (j := 0) hw0) rfl rfl ⟨Nat.le_of_ble_eq_true rfl, Nat.le_of_ble_eq_true rfl⟩ rfl hl.1 rfl (Nat.le_of_ble_eq_true rfl) d_MenuScreens_accept_5 ⟨Nat.zero_le _, Nat.zero_le _⟩) (fun r1 hN H locs hp X => ?_)
  rcases hp with ⟨b1, er, eh⟩ | ⟨pl, b1, b2, ⟨b3, er, eh⟩ | ⟨b3, er, f2, eh, i1, i2⟩⟩
  · subst er
    replace eh := eh.symm
    subst eh
    exact mq_iret hQ C X hr rfl hlk (⟨ad, L, LR.of xl, ⟨fun _ _ => ⟨rfl, rfl⟩, rfl⟩, fun r' x' y' A' B' hst => by
        obtain ⟨a1, a2, a3, n, a5, a6, a7⟩ := hst
        subst a1 a2 a3
        have en : n = n50 := nI_eqI (by omega) (by omega) (a5.symm.trans e50)
        subst en
        rcases a7 with ⟨c1, c2, c3⟩ | ⟨w0, c1, c2, c3, ⟨c4, c5, c6⟩ | ⟨c4, -⟩ | ⟨c4, -⟩⟩
        · subst c2 c3; exact ⟨rfl, hC.same⟩
        · subst c5 c6; exact ⟨rfl, hC.same⟩
        · exfalso
          obtain ⟨j, j1, j2⟩ := hop.2.1 w0 c1 c2 c4
          exact b1 j j1 (by rw [hwo j j1, j2, c3])
        · exfalso
          obtain ⟨j, j1, j2⟩ := hop.2.1 w0 c1 c2 c4
          exact b1 j j1 (by rw [hwo j j1, j2, c3])⟩) (by omega) (by omega) d_MenuScreens_accept_8
  · subst er
    replace eh := eh.symm
    subst eh
    exact mq_iret hQ C X hr rfl hlk (⟨ad, L, LR.of xl, ⟨fun _ _ => ⟨rfl, rfl⟩, rfl⟩, fun r' x' y' A' B' hst => by
        obtain ⟨a1, a2, a3, n, a5, a6, a7⟩ := hst
        subst a1 a2 a3
        have en : n = n50 := nI_eqI (by omega) (by omega) (a5.symm.trans e50)
        subst en
        have ho := hop.1 pl b1
        have eB := (hwk (op pl) ho.1 ho.2.1).2.1
        rw [eB] at b3
        rcases a7 with ⟨c1, c2, c3⟩ | ⟨w0, c1, c2, c3, a8⟩
        · exfalso
          rcases c1 with c1 | c1
          · rw [b2] at c1; exact nI_nlt (b := 1) ho.1 (by omega) c1
          · rw [b2, e50] at c1; have := (nI_ltI (by omega) (by omega)).mp c1; omega
        have ew : w0 = op pl := nI_eqI (by omega) (by omega) (c3.symm.trans b2)
        subst ew
        rcases a8 with ⟨c4, c5, c6⟩ | ⟨c4, c5, c6, c7⟩ | ⟨c4, c5, c6, c7⟩
        · exact absurd ho.2.2 c4
        · subst c6 c7; exact ⟨rfl, hC.same⟩
        · exact absurd b3 c5⟩) (by omega) (by omega) d_MenuScreens_accept_8
  · subst er
    replace eh := eh.symm
    subst eh
    have y5 : LR S0.heap.size hcv h0 ad L (vup (vup h0 (ad 8 0) (.inr (7, [.ref (ad 8 1), .ref (ad 8 2), .ref (ad 8 3), .int (nI n50), .int (nI (no - 1)), .long (y 54)]))) (ad 8 3) (.inl (dT 0, 200, .inl f2))) ad (lput (lput L 8 0 (some (.inr (7, [.ref (ad 8 1), .ref (ad 8 2), .ref (ad 8 3), .int (nI n50), .int (nI (no - 1)), .long (y 54)])))) 8 3 (some (.inl (dT 0, 200, .inl f2)))) := ((LR.of xl).put (i := 8) (j := 0) hw0).put (i := 8) (j := 3) hw3
    have k5 : ∀ i, i ≠ 8 → (lput (lput L 8 0 (some (.inr (7, [.ref (ad 8 1), .ref (ad 8 2), .ref (ad 8 3), .int (nI n50), .int (nI (no - 1)), .long (y 54)])))) 8 3 (some (.inl (dT 0, 200, .inl f2)))) i = L i := fun i hi => by rw [lput_k _ _ hi, lput_k _ _ hi]
    exact mq_iret hQ C X hr rfl hlk (⟨ad, _, y5, ⟨fun i hi => ⟨k5 i (by omega), rfl⟩, rfl⟩, fun r' x' y' A' B' hst => by
        obtain ⟨a1, a2, a3, n, a5, a6, a7⟩ := hst
        subst a1 a2 a3
        have en : n = n50 := nI_eqI (by omega) (by omega) (a5.symm.trans e50)
        subst en
        have ho := hop.1 pl b1
        have eB := (hwk (op pl) ho.1 ho.2.1).2.1
        rw [eB] at b3
        rcases a7 with ⟨c1, c2, c3⟩ | ⟨w0, c1, c2, c3, a8⟩
        · exfalso
          rcases c1 with c1 | c1
          · rw [b2] at c1; exact nI_nlt (b := 1) ho.1 (by omega) c1
          · rw [b2, e50] at c1; have := (nI_ltI (by omega) (by omega)).mp c1; omega
        have ew : w0 = op pl := nI_eqI (by omega) (by omega) (c3.symm.trans b2)
        subst ew
        rcases a8 with ⟨c4, c5, c6⟩ | ⟨c4, c5, c6, c7⟩ | ⟨c4, c5, c6, c7⟩
        · exact absurd ho.2.2 c4
        · exact absurd c5 b3
        · subst c6 c7
          refine ⟨by rw [wOp_cnt (wOp_del hop b1)], ?_⟩
          have q := CR.wrn (a1 := A 51) (a2 := upd (A 53) (op pl) 1) (b1 := B' 52) (x' := upd x 0 0) (y' := y') hC k5 y5.2 (fun k a b => by rw [pk_un a]) (fun k a => rfl) ⟨n, e50, W_del hn200 b1 hwk hwo hop hac hmo hnon hla i1 i2 rfl hw1 hw2 rfl⟩
          rw [va_up_id A 51, va_up_id B' 52] at q
          exact q⟩) (by omega) (by omega) d_MenuScreens_accept_8
