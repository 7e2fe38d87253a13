theorem d_MenuScreens_warn_0 : decode prog_1_method_7_code 0 = .ok (.aload_n 0, 1) := by decide +kernel
theorem d_MenuScreens_warn_1 : decode prog_1_method_7_code 1 = .ok (.getfield 38, 3) := by decide +kernel
theorem d_MenuScreens_warn_4 : decode prog_1_method_7_code 4 = .ok (.iload_n 1, 1) := by decide +kernel
theorem d_MenuScreens_warn_5 : decode prog_1_method_7_code 5 = .ok (.lload_n 2, 1) := by decide +kernel
theorem d_MenuScreens_warn_6 : decode prog_1_method_7_code 6 = .ok (.invokevirtual 138, 3) := by decide +kernel
theorem d_MenuScreens_warn_9 : decode prog_1_method_7_code 9 = .ok (.ireturn, 1) := by decide +kernel
set_option maxRecDepth 100000 in
set_option maxHeartbeats 4000000 in
theorem cm_MenuScreens_warn {l : Launch} {S0 : State} {b : Nat} {D : va_G} {dT : Nat → ClassId} (hE : vEnv S0 b D dT) {dE mO : Nat} (hJ : vJ S0 dE mO) {h0 : vH} {hcv : vH} {ad : Nat → Nat → Nat} {L : vL} {cap : Nat} {x : Nat → Int32} {y : Nat → Int64} {A : Nat → Nat → Int32} {B : Nat → Nat → Int64} (xl : LH S0.heap.size hcv h0 ad L) (hC : CR dT dE h0 ad L cap x y A B) {p1 : Int32} {p2 : Int64} : vMi l S0 D vcl GT y_MenuScreens_warn prog_1_method_7_code 4 (some .int) 3 67 0 0 [.ref (ad 0 0), .int p1, .long p2] h0 (fun r h' => clP dT dE S0.heap.size hcv h0 ad L cap (fun r x' y' A' B' => ((p1 < 0 ∨ 99 < p1 ∨ p2 < y 54) ∧ r = -2 ∧ x' = upd x 0 0 ∧ y' = y ∧ A' = A ∧ B' = B) ∨ ∃ n, x 50 = nI n ∧ n ≤ 200 ∧ ((¬ p1 < 0 ∧ ¬ 99 < p1 ∧ ¬ p2 < y 54 ∧ n = 200 ∧ r = -4 ∧ x' = upd x 0 0 ∧ y' = y ∧ A' = A ∧ B' = B) ∨ (¬ p1 < 0 ∧ ¬ 99 < p1 ∧ ¬ p2 < y 54 ∧ n < 200 ∧ r = nI (n + 1) ∧ x' = upd (upd x 0 0) 50 (nI (n + 1)) ∧ y' = vp_updL y 54 p2 ∧ A' = va_up A 51 (upd (A 51) (n + 1) p1) ∧ B' = va_up B 52 (vp_updL (B 52) (n + 1) p2)))) r h') := by
  unfold vMi
  refine vM_ofQ hE.1 (by decide) (Nat.le_of_ble_eq_true rfl) (fun p e s m args below meth c ls Q hQ C hr hlk hnm X hl => ?_)
  have C : vC p s m _ c _ _ "MenuScreens" GT D vcl (vty dT) := C
  have hx := C.1.1
  have hb := C.1.2.1
  obtain ⟨H, eH⟩ : ∃ z, z = s.heap := ⟨_, rfl⟩
  obtain ⟨locs, elocs⟩ : ∃ z : List Loc, z = [] := ⟨_, rfl⟩
  rw [← eH, ← elocs] at X
  rw [← eH, ← elocs]
  clear eH elocs
  have hl : lv_has ls 4 [(0, .ref (ad 0 0)), (1, .int p1), (2, .long p2)] := hl
  have hC0 := hC
  obtain ⟨⟨sp, bl, hTop, hsp, hlm⟩, hdim, ⟨n3, e3, hBld⟩, ⟨n50, e50, hWr⟩, ⟨nr, e48, hPl⟩, hRe, hLi, ⟨nv, ns, np, nc, pf, cb, ce, cs, c0, lh, hnum, hpr, hRP, hTx, hrn⟩, hkey, hsm⟩ := hC0
  have hTop2 : L 0 0 = some (.inr (3, [.int (x 1), .int (x 2), .ref (ad 1 0), .ref (ad 6 0), .ref (ad 2 0), .ref (ad 8 0), .int (x 45), .int sp, .int (x 46), .int bl, .int (x 55), .long (y 56), .long (y 57)])) := hTop
  refine lv_aload_n hx hb d_MenuScreens_warn_0 rfl (lv_at hl 0 rfl) ?_
  refine mv_get C X (xl.get (i := 0) (j := 0) hTop2) 5 f_0_38_3 (v := .ref (ad 8 0)) rfl d_MenuScreens_warn_1 ?_
  refine lv_iload_n hx hb d_MenuScreens_warn_4 rfl (lv_at hl 1 rfl) ?_
  refine lv_lload_n hx hb d_MenuScreens_warn_5 rfl (lv_at hl 2 rfl) ?_
  obtain ⟨no, op, fr, ft, fo, hw0, hw1, hw2, hw3, hwk, hwo, hop, hac, hmo, hn200, hnon, hla⟩ := hWr
  refine mv_bi X (mv_rV (rest := []) (As := [.int p1, .long p2]) gt_good C X k_0_138 (cm_Warnings_add hE (op := op) (xl.nj (i := 8) (j := 1) (i' := 8) (j' := 3) hw1 hw3 (by decide)) hn200 hnon (fun j hj => ⟨hwo j hj, (hop.1 j hj).1, (hop.1 j hj).2.1⟩) (xl.get (i := 8) (j := 0) hw0) (xl.wr (i := 8) (j := 0) hw0) (xl.get (i := 8) (j := 1) hw1) (xl.wr (i := 8) (j := 1) hw1) (xl.get (i := 8) (j := 2) hw2) (xl.wr (i := 8) (j := 2) hw2) (xl.get (i := 8) (j := 3) hw3) (xl.wr (i := 8) (j := 3) hw3)) (xl.get (i := 8) (j := 0) hw0) rfl rfl ⟨Nat.le_of_ble_eq_true rfl, Nat.le_of_ble_eq_true rfl⟩ rfl hl.1 rfl (Nat.le_of_ble_eq_true rfl) d_MenuScreens_warn_6 ⟨Nat.zero_le _, Nat.zero_le _⟩) (fun r1 hN H locs hp X => ?_)
  rcases hp with ⟨b1, er, eh⟩ | ⟨b1, ⟨b2, er, eh⟩ | ⟨b2, er, f2, pl, eh, hI⟩⟩
  · subst er
    replace eh := eh.symm
    subst eh
    exact mq_iret hQ C X hr rfl hlk (⟨ad, L, LR.of xl, ⟨fun _ _ => ⟨rfl, rfl⟩, rfl⟩, fun r' x' y' A' B' hst => by
        rcases hst with ⟨c1, c2, c3, c4, c5, c6⟩ | ⟨n, a5, a6, ⟨c1, c2, c3, -⟩ | ⟨c1, c2, c3, -⟩⟩
        · subst c2 c3 c4 c5 c6; exact ⟨rfl, hC.same⟩
        · exfalso; rcases b1 with z | z | z
          · exact c1 z
          · exact c2 z
          · exact c3 z
        · exfalso; rcases b1 with z | z | z
          · exact c1 z
          · exact c2 z
          · exact c3 z⟩) (by omega) (by omega) d_MenuScreens_warn_9
  · subst er
    replace eh := eh.symm
    subst eh
    exact mq_iret hQ C X hr rfl hlk (⟨ad, L, LR.of xl, ⟨fun _ _ => ⟨rfl, rfl⟩, rfl⟩, fun r' x' y' A' B' hst => by
        rcases hst with ⟨c1, c2, c3, c4, c5, c6⟩ | ⟨n, a5, a6, ⟨c1, c2, c3, c4, c5, c6, c7, c8, c9⟩ | ⟨c1, c2, c3, c4, c5, c6, c7, c8, c9⟩⟩
        · exfalso; rcases c1 with z | z | z
          · exact b1.1 z
          · exact b1.2.1 z
          · exact b1.2.2 z
        · subst c5 c6 c7 c8 c9; exact ⟨rfl, hC.same⟩
        · exfalso
          have en : n = n50 := nI_eqI (by omega) (by omega) (a5.symm.trans e50)
          omega⟩) (by omega) (by omega) d_MenuScreens_warn_9
  · subst er
    replace eh := eh.symm
    subst eh
    have y5 : LR S0.heap.size hcv h0 ad L (vup (vup (vup (vup (vup h0 (ad 8 1) (.inl (dT 0, 200, .inl (upd fr n50 p1)))) (ad 8 2) (.inl (dT 1, 200, .inr (.inl (vp_updL ft n50 p2))))) (ad 8 0) (.inr (7, [.ref (ad 8 1), .ref (ad 8 2), .ref (ad 8 3), .int (nI (n50 + 1)), .int (nI no), .long p2]))) (ad 8 3) (.inl (dT 0, 200, .inl f2))) (ad 8 0) (.inr (7, [.ref (ad 8 1), .ref (ad 8 2), .ref (ad 8 3), .int (nI (n50 + 1)), .int (nI (no + 1)), .long p2]))) ad (lput (lput (lput (lput (lput L 8 1 (some (.inl (dT 0, 200, .inl (upd fr n50 p1))))) 8 2 (some (.inl (dT 1, 200, .inr (.inl (vp_updL ft n50 p2)))))) 8 0 (some (.inr (7, [.ref (ad 8 1), .ref (ad 8 2), .ref (ad 8 3), .int (nI (n50 + 1)), .int (nI no), .long p2])))) 8 3 (some (.inl (dT 0, 200, .inl f2)))) 8 0 (some (.inr (7, [.ref (ad 8 1), .ref (ad 8 2), .ref (ad 8 3), .int (nI (n50 + 1)), .int (nI (no + 1)), .long p2])))) := (((((LR.of xl).put (i := 8) (j := 1) hw1).put (i := 8) (j := 2) hw2).put (i := 8) (j := 0) hw0).put (i := 8) (j := 3) hw3).put (i := 8) (j := 0) (e := .inr (7, [.ref (ad 8 1), .ref (ad 8 2), .ref (ad 8 3), .int (nI (n50 + 1)), .int (nI no), .long p2])) rfl
    have k5 : ∀ i, i ≠ 8 → (lput (lput (lput (lput (lput L 8 1 (some (.inl (dT 0, 200, .inl (upd fr n50 p1))))) 8 2 (some (.inl (dT 1, 200, .inr (.inl (vp_updL ft n50 p2)))))) 8 0 (some (.inr (7, [.ref (ad 8 1), .ref (ad 8 2), .ref (ad 8 3), .int (nI (n50 + 1)), .int (nI no), .long p2])))) 8 3 (some (.inl (dT 0, 200, .inl f2)))) 8 0 (some (.inr (7, [.ref (ad 8 1), .ref (ad 8 2), .ref (ad 8 3), .int (nI (n50 + 1)), .int (nI (no + 1)), .long p2])))) i = L i := fun i hi => by rw [lput_k _ _ hi, lput_k _ _ hi, lput_k _ _ hi, lput_k _ _ hi, lput_k _ _ hi]
    exact mq_iret hQ C X hr rfl hlk (⟨ad, _, y5, ⟨fun i hi => ⟨k5 i (by omega), rfl⟩, rfl⟩, fun r' x' y' A' B' hst => by
        rcases hst with ⟨c1, c2, c3, c4, c5, c6⟩ | ⟨n, a5, a6, ⟨c1, c2, c3, c4, c5, c6, c7, c8, c9⟩ | ⟨c1, c2, c3, c4, c5, c6, c7, c8, c9⟩⟩
        · exfalso; rcases c1 with z | z | z
          · exact b1.1 z
          · exact b1.2.1 z
          · exact b1.2.2 z
        · exfalso
          have en : n = n50 := nI_eqI (by omega) (by omega) (a5.symm.trans e50)
          omega
        · have en : n = n50 := nI_eqI (by omega) (by omega) (a5.symm.trans e50)
          subst en
          subst c5 c6 c7 c8 c9
          refine ⟨rfl, ?_⟩
          have q := CR.wrn (a1 := upd (A 51) (n + 1) p1) (a2 := A 53) (b1 := vp_updL (B 52) (n + 1) p2) (x' := upd (upd x 0 0) 50 (nI (n + 1))) (y' := vp_updL y 54 p2) hC k5 y5.2 (fun k a b => by rw [pk_un b, pk_un a]) (fun k a => by simp [vp_updL, a]) ⟨n + 1, rfl, W_add c4 hwk hwo hop hac hmo hnon hla c1 c2 c3 hI rfl rfl rfl rfl⟩
          rw [va_up_same (f := va_up A 51 (upd (A 51) (n + 1) p1)) (k := 53) (v := A 53) rfl] at q
          exact q⟩) (by omega) (by omega) d_MenuScreens_warn_9
