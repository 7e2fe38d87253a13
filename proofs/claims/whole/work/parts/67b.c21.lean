theorem d_MenuScreens_language_0 : decode prog_1_method_13_code 0 = .ok (.iload_n 1, 1) := by decide +kernel
theorem d_MenuScreens_language_1 : decode prog_1_method_13_code 1 = .ok (.ifCond .eq 11, 3) := by decide +kernel
theorem d_MenuScreens_language_4 : decode prog_1_method_13_code 4 = .ok (.iload_n 1, 1) := by decide +kernel
theorem d_MenuScreens_language_5 : decode prog_1_method_13_code 5 = .ok (.iconst 1, 1) := by decide +kernel
theorem d_MenuScreens_language_6 : decode prog_1_method_13_code 6 = .ok (.if_icmp .eq 6, 3) := by decide +kernel
theorem d_MenuScreens_language_9 : decode prog_1_method_13_code 9 = .ok (.bipush (-2), 2) := by decide +kernel
theorem d_MenuScreens_language_11 : decode prog_1_method_13_code 11 = .ok (.ireturn, 1) := by decide +kernel
theorem d_MenuScreens_language_12 : decode prog_1_method_13_code 12 = .ok (.aload_n 0, 1) := by decide +kernel
theorem d_MenuScreens_language_13 : decode prog_1_method_13_code 13 = .ok (.getfield 132, 3) := by decide +kernel
theorem d_MenuScreens_language_16 : decode prog_1_method_13_code 16 = .ok (.istore_n 2, 1) := by decide +kernel
theorem d_MenuScreens_language_17 : decode prog_1_method_13_code 17 = .ok (.aload_n 0, 1) := by decide +kernel
theorem d_MenuScreens_language_18 : decode prog_1_method_13_code 18 = .ok (.iload_n 1, 1) := by decide +kernel
theorem d_MenuScreens_language_19 : decode prog_1_method_13_code 19 = .ok (.putfield 132, 3) := by decide +kernel
theorem d_MenuScreens_language_22 : decode prog_1_method_13_code 22 = .ok (.iload_n 2, 1) := by decide +kernel
theorem d_MenuScreens_language_23 : decode prog_1_method_13_code 23 = .ok (.ireturn, 1) := by decide +kernel
set_option maxRecDepth 100000 in
set_option maxHeartbeats 4000000 in
theorem cm_MenuScreens_language {l : Launch} {S0 : State} {b : Nat} {D : va_G} {dT : Nat → ClassId} (hE : vEnv S0 b D dT) {dE mO : Nat} (hJ : vJ S0 dE mO) {h0 : vH} {hcv : vH} {ad : Nat → Nat → Nat} {L : vL} {cap : Nat} {x : Nat → Int32} {y : Nat → Int64} {A : Nat → Nat → Int32} {B : Nat → Nat → Int64} (xl : LH S0.heap.size hcv h0 ad L) (hC : CR dT dE h0 ad L cap x y A B) {p1 : Int32} : vMi l S0 D vcl GT y_MenuScreens_language prog_1_method_13_code 3 (some .int) 0 0 0 0 [.ref (ad 0 0), .int p1] h0 (fun r h' => clP dT dE S0.heap.size hcv h0 ad L cap (fun r x' y' A' B' => (y' = y ∧ A' = A ∧ B' = B ∧ ((p1 < 0 ∨ 1 < p1) ∧ r = -2 ∧ x' = upd x 0 0 ∨ ¬ p1 < 0 ∧ ¬ 1 < p1 ∧ r = x 46 ∧ x' = upd (upd x 0 0) 46 p1))) r h') := by
  unfold vMi
  refine vM_ofQ hE.1 (by decide) (Nat.le_of_ble_eq_true rfl) (fun p e s m args below meth c ls Q hQ C hr hlk hnm X hl => ?_)
  have C : vC p s m _ c _ _ "MenuScreens" GT D vcl (vty dT) := C
  have hx := C.1.1
  have hb := C.1.2.1
  obtain ⟨H, eH⟩ : ∃ z, z = s.heap := ⟨_, rfl⟩
  obtain ⟨locs, elocs⟩ : ∃ z : List Loc, z = [] := ⟨_, rfl⟩
  rw [← eH, ← elocs] at X
  rw [← eH, ← elocs]
  clear eH elocs
  have hl : lv_has ls 3 [(0, .ref (ad 0 0)), (1, .int p1)] := hl
  have hC0 := hC
  obtain ⟨⟨sp, bl, hTop, hsp, hlm⟩, hdim, ⟨n3, e3, hBld⟩, ⟨n50, e50, hWr⟩, ⟨nr, e48, hPl⟩, hRe, hLi, ⟨nv, ns, np, nc, pf, cb, ce, cs, c0, lh, hnum, hpr, hRP, hTx, hrn⟩, hkey, hsm⟩ := hC0
  have hTop2 : L 0 0 = some (.inr (3, [.int (x 1), .int (x 2), .ref (ad 1 0), .ref (ad 6 0), .ref (ad 2 0), .ref (ad 8 0), .int (x 45), .int sp, .int (x 46), .int bl, .int (x 55), .long (y 56), .long (y 57)])) := hTop
  refine lv_iload_n hx hb d_MenuScreens_language_0 rfl (lv_at hl 1 rfl) ?_
  refine lv_if_eq (tgt := 12) hx hb d_MenuScreens_language_1 (by decide) (fun c1 => ?_) (fun c1 => ?_)
  · skip
    refine lv_aload_n hx hb d_MenuScreens_language_12 rfl (lv_at hl 0 rfl) ?_
    refine mv_get C X (xl.get (i := 0) (j := 0) hTop2) 8 f_0_132_3 (v := .int (x 46)) rfl d_MenuScreens_language_13 ?_
    refine lv_istore_n (lv' := [(2, .int (x 46)), (0, .ref (ad 0 0)), (1, .int p1)]) hx hb d_MenuScreens_language_16 rfl hl (by decide) rfl (fun ls hl => ?_)
    refine lv_aload_n hx hb d_MenuScreens_language_17 rfl (lv_at hl 1 rfl) ?_
    refine lv_iload_n hx hb d_MenuScreens_language_18 rfl (lv_at hl 2 rfl) ?_
    refine mv_put C X (xl.get (i := 0) (j := 0) hTop2) (xl.wr (i := 0) (j := 0) hTop2) 8 p_0_132_3 rfl rfl (Nat.le_of_ble_eq_true rfl) d_MenuScreens_language_19 (fun H locs X => ?_)
    have X : vO S0 D vcl (vup h0 (ad 0 0) (.inr (3, [.int (x 1), .int (x 2), .ref (ad 1 0), .ref (ad 6 0), .ref (ad 2 0), .ref (ad 8 0), .int (x 45), .int sp, .int p1, .int bl, .int (x 55), .long (y 56), .long (y 57)]))) s H locs := X
    refine lv_iload_n hx hb d_MenuScreens_language_22 rfl (lv_at hl 0 rfl) ?_
    exact mq_iret hQ C X hr rfl hlk (⟨ad, _, (LR.of xl).put (i := 0) (j := 0) hTop2, ⟨fun i hi => ⟨lput_k _ _ (by omega), rfl⟩, rfl⟩, fun r' x' y' A' B' hst => by
        obtain ⟨a1, a2, a3, a4⟩ := hst
        subst a1 a2 a3
        have hz : p1 = 0 ∨ p1 = 1 := Or.inl c1
        rcases a4 with ⟨b1, b2, b3⟩ | ⟨b1, b2, b3, b4⟩
        · exfalso
          rcases hz with z | z <;> rw [z] at b1 <;> revert b1 <;> decide
        · subst b3 b4
          refine ⟨rfl, ?_⟩
          have q := CR.top (x' := upd (upd x 0 0) 46 p1) (y' := y') (g := A' 58) hC rfl ((LR.of xl).put (i := 0) (j := 0) hTop2).2 (fun k a b c d => by rw [pk_un c, pk_un a]) rfl ⟨sp, bl, rfl, hsp, hlm⟩ (fun _ _ _ h => h)
          rw [va_up_id] at q; exact q⟩) (by omega) (by omega) d_MenuScreens_language_23
  · skip
    refine lv_iload_n hx hb d_MenuScreens_language_4 rfl (lv_at hl 1 rfl) ?_
    refine lv_iconst (v := 1) hx hb d_MenuScreens_language_5 (by decide) ?_
    refine lv_icmp_eq (tgt := 12) hx hb d_MenuScreens_language_6 (by decide) (fun c2 => ?_) (fun c2 => ?_)
    · skip
      refine lv_aload_n hx hb d_MenuScreens_language_12 rfl (lv_at hl 0 rfl) ?_
      refine mv_get C X (xl.get (i := 0) (j := 0) hTop2) 8 f_0_132_3 (v := .int (x 46)) rfl d_MenuScreens_language_13 ?_
      refine lv_istore_n (lv' := [(2, .int (x 46)), (0, .ref (ad 0 0)), (1, .int p1)]) hx hb d_MenuScreens_language_16 rfl hl (by decide) rfl (fun ls hl => ?_)
      refine lv_aload_n hx hb d_MenuScreens_language_17 rfl (lv_at hl 1 rfl) ?_
      refine lv_iload_n hx hb d_MenuScreens_language_18 rfl (lv_at hl 2 rfl) ?_
      refine mv_put C X (xl.get (i := 0) (j := 0) hTop2) (xl.wr (i := 0) (j := 0) hTop2) 8 p_0_132_3 rfl rfl (Nat.le_of_ble_eq_true rfl) d_MenuScreens_language_19 (fun H locs X => ?_)
      have X : vO S0 D vcl (vup h0 (ad 0 0) (.inr (3, [.int (x 1), .int (x 2), .ref (ad 1 0), .ref (ad 6 0), .ref (ad 2 0), .ref (ad 8 0), .int (x 45), .int sp, .int p1, .int bl, .int (x 55), .long (y 56), .long (y 57)]))) s H locs := X
      refine lv_iload_n hx hb d_MenuScreens_language_22 rfl (lv_at hl 0 rfl) ?_
      exact mq_iret hQ C X hr rfl hlk (⟨ad, _, (LR.of xl).put (i := 0) (j := 0) hTop2, ⟨fun i hi => ⟨lput_k _ _ (by omega), rfl⟩, rfl⟩, fun r' x' y' A' B' hst => by
          obtain ⟨a1, a2, a3, a4⟩ := hst
          subst a1 a2 a3
          have hz : p1 = 0 ∨ p1 = 1 := Or.inr c2
          rcases a4 with ⟨b1, b2, b3⟩ | ⟨b1, b2, b3, b4⟩
          · exfalso
            rcases hz with z | z <;> rw [z] at b1 <;> revert b1 <;> decide
          · subst b3 b4
            refine ⟨rfl, ?_⟩
            have q := CR.top (x' := upd (upd x 0 0) 46 p1) (y' := y') (g := A' 58) hC rfl ((LR.of xl).put (i := 0) (j := 0) hTop2).2 (fun k a b c d => by rw [pk_un c, pk_un a]) rfl ⟨sp, bl, rfl, hsp, hlm⟩ (fun _ _ _ h => h)
            rw [va_up_id] at q; exact q⟩) (by omega) (by omega) d_MenuScreens_language_23
    · skip
      refine lv_bipush (v := (-2)) hx hb d_MenuScreens_language_9 (by decide) ?_
      exact mq_iret hQ C X hr rfl hlk (⟨ad, L, LR.of xl, ⟨fun _ _ => ⟨rfl, rfl⟩, rfl⟩, fun r' x' y' A' B' hst => by
          obtain ⟨a1, a2, a3, a4⟩ := hst
          subst a1 a2 a3
          rcases a4 with ⟨b1, b2, b3⟩ | ⟨b1, b2, b3, b4⟩
          · subst b2 b3; exact ⟨rfl, hC.same⟩
          · exfalso
            rcases l01 b1 b2 with z | z
            · exact c1 z
            · exact c2 z⟩) (by omega) (by omega) d_MenuScreens_language_11
theorem d_MenuScreens_ring_0 : decode prog_1_method_14_code 0 = .ok (.aload_n 0, 1) := by decide +kernel
theorem d_MenuScreens_ring_1 : decode prog_1_method_14_code 1 = .ok (.getfield 34, 3) := by decide +kernel
theorem d_MenuScreens_ring_4 : decode prog_1_method_14_code 4 = .ok (.iload_n 1, 1) := by decide +kernel
theorem d_MenuScreens_ring_5 : decode prog_1_method_14_code 5 = .ok (.invokevirtual 169, 3) := by decide +kernel
theorem d_MenuScreens_ring_8 : decode prog_1_method_14_code 8 = .ok (.ireturn, 1) := by decide +kernel
set_option maxRecDepth 100000 in
set_option maxHeartbeats 4000000 in
theorem cm_MenuScreens_ring {l : Launch} {S0 : State} {b : Nat} {D : va_G} {dT : Nat → ClassId} (hE : vEnv S0 b D dT) {dE mO : Nat} (hJ : vJ S0 dE mO) {h0 : vH} {hcv : vH} {ad : Nat → Nat → Nat} {L : vL} {cap : Nat} {x : Nat → Int32} {y : Nat → Int64} {A : Nat → Nat → Int32} {B : Nat → Nat → Int64} (xl : LH S0.heap.size hcv h0 ad L) (hC : CR dT dE h0 ad L cap x y A B) {p1 : Int32} : vMi l S0 D vcl GT y_MenuScreens_ring prog_1_method_14_code 2 (some .int) 1 21 0 0 [.ref (ad 0 0), .int p1] h0 (fun r h' => clP dT dE S0.heap.size hcv h0 ad L cap (fun r x' y' A' B' => (x' = upd x 0 0 ∧ y' = y ∧ A' = A ∧ B' = B ∧ ((p1 < 0 ∨ x 48 ≤ p1) ∧ r = 0 ∨ ∃ nr j, x 48 = nI nr ∧ nr ≤ 30 ∧ j < nr ∧ p1 = nI j ∧ r = A 49 j))) r h') := by
  unfold vMi
  refine vM_ofQ hE.1 (by decide) (Nat.le_of_ble_eq_true rfl) (fun p e s m args below meth c ls Q hQ C hr hlk hnm X hl => ?_)
  have C : vC p s m _ c _ _ "MenuScreens" GT D vcl (vty dT) := C
  have hx := C.1.1
  have hb := C.1.2.1
  obtain ⟨H, eH⟩ : ∃ z, z = s.heap := ⟨_, rfl⟩
  obtain ⟨locs, elocs⟩ : ∃ z : List Loc, z = [] := ⟨_, rfl⟩
  rw [← eH, ← elocs] at X
  rw [← eH, ← elocs]
  clear eH elocs
  have hl : lv_has ls 2 [(0, .ref (ad 0 0)), (1, .int p1)] := hl
  have hC0 := hC
  obtain ⟨⟨sp, bl, hTop, hsp, hlm⟩, hdim, ⟨n3, e3, hBld⟩, ⟨n50, e50, hWr⟩, ⟨nr, e48, hPl⟩, hRe, hLi, ⟨nv, ns, np, nc, pf, cb, ce, cs, c0, lh, hnum, hpr, hRP, hTx, hrn⟩, hkey, hsm⟩ := hC0
  have hTop2 : L 0 0 = some (.inr (3, [.int (x 1), .int (x 2), .ref (ad 1 0), .ref (ad 6 0), .ref (ad 2 0), .ref (ad 8 0), .int (x 45), .int sp, .int (x 46), .int bl, .int (x 55), .long (y 56), .long (y 57)])) := hTop
  refine lv_aload_n hx hb d_MenuScreens_ring_0 rfl (lv_at hl 0 rfl) ?_
  refine mv_get C X (xl.get (i := 0) (j := 0) hTop2) 4 f_0_34_3 (v := .ref (ad 2 0)) rfl d_MenuScreens_ring_1 ?_
  refine lv_iload_n hx hb d_MenuScreens_ring_4 rfl (lv_at hl 1 rfl) ?_
  obtain ⟨hPl1, hPl2, fr, hPl3, hPl4⟩ := hPl
  refine mv_bi X (mv_rV (rest := []) (As := [.int p1]) gt_good C X k_0_169 (cm_Plan_ringAt hE hPl2 (xl.get (i := 2) (j := 0) hPl1) (xl.get (i := 5) (j := 0) hPl3)) (xl.get (i := 2) (j := 0) hPl1) rfl rfl ⟨Nat.le_of_ble_eq_true rfl, Nat.le_of_ble_eq_true rfl⟩ rfl hl.1 rfl (Nat.le_of_ble_eq_true rfl) d_MenuScreens_ring_5 ⟨Nat.zero_le _, Nat.zero_le _⟩) (fun r1 hN H locs hp X => ?_)
  obtain ⟨eh, hq⟩ := hp
  replace eh := eh.symm
  subst eh
  exact mq_iret hQ C X hr rfl hlk (⟨ad, L, LR.of xl, ⟨fun _ _ => ⟨rfl, rfl⟩, rfl⟩, fun r' x' y' A' B' hst => by
      obtain ⟨a1, a2, a3, a4, a5⟩ := hst
      subst a1 a2 a3 a4
      refine ⟨?_, hC.same⟩
      rcases hq with ⟨b1, b2⟩ | ⟨j, b1, b2, b3⟩ <;> rcases a5 with ⟨c1, c2⟩ | ⟨nr2, j2, c1, c2, c3, c4, c5⟩
      · rw [b2, c2]
      · exfalso
        have : nr2 = nr := nI_eqI (by omega) (by omega) (c1.symm.trans e48)
        rcases b1 with b1 | b1
        · rw [c4] at b1; exact nI_pos (by omega) b1
        · rw [c4] at b1; have := (nI_leI (by omega) (by omega)).mp b1; omega
      · exfalso
        rcases c1 with c1 | c1
        · rw [b2] at c1; exact nI_pos (by omega) c1
        · rw [b2, e48] at c1; have := (nI_leI (by omega) (by omega)).mp c1; omega
      · have : j2 = j := nI_eqI (by omega) (by omega) (c4.symm.trans b2)
        rw [b3, c5, this, hPl4 j b1]⟩) (by omega) (by omega) d_MenuScreens_ring_8
