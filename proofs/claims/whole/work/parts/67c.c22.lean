theorem d_MenuScreens_trip_0 : decode prog_1_method_10_code 0 = .ok (.lload_n 1, 1) := by decide +kernel
theorem d_MenuScreens_trip_1 : decode prog_1_method_10_code 1 = .ok (.lconst 0, 1) := by decide +kernel
theorem d_MenuScreens_trip_2 : decode prog_1_method_10_code 2 = .ok (.lcmp, 1) := by decide +kernel
theorem d_MenuScreens_trip_3 : decode prog_1_method_10_code 3 = .ok (.ifCond .lt 25, 3) := by decide +kernel
theorem d_MenuScreens_trip_6 : decode prog_1_method_10_code 6 = .ok (.lload_n 1, 1) := by decide +kernel
theorem d_MenuScreens_trip_7 : decode prog_1_method_10_code 7 = .ok (.ldc2_w 148, 3) := by decide +kernel
theorem d_MenuScreens_trip_10 : decode prog_1_method_10_code 10 = .ok (.lcmp, 1) := by decide +kernel
theorem d_MenuScreens_trip_11 : decode prog_1_method_10_code 11 = .ok (.ifCond .gt 17, 3) := by decide +kernel
theorem d_MenuScreens_trip_14 : decode prog_1_method_10_code 14 = .ok (.lload_n 3, 1) := by decide +kernel
theorem d_MenuScreens_trip_15 : decode prog_1_method_10_code 15 = .ok (.lconst 0, 1) := by decide +kernel
theorem d_MenuScreens_trip_16 : decode prog_1_method_10_code 16 = .ok (.lcmp, 1) := by decide +kernel
theorem d_MenuScreens_trip_17 : decode prog_1_method_10_code 17 = .ok (.ifCond .lt 11, 3) := by decide +kernel
theorem d_MenuScreens_trip_20 : decode prog_1_method_10_code 20 = .ok (.lload_n 3, 1) := by decide +kernel
theorem d_MenuScreens_trip_21 : decode prog_1_method_10_code 21 = .ok (.ldc2_w 148, 3) := by decide +kernel
theorem d_MenuScreens_trip_24 : decode prog_1_method_10_code 24 = .ok (.lcmp, 1) := by decide +kernel
theorem d_MenuScreens_trip_25 : decode prog_1_method_10_code 25 = .ok (.ifCond .le 6, 3) := by decide +kernel
theorem d_MenuScreens_trip_28 : decode prog_1_method_10_code 28 = .ok (.bipush (-2), 2) := by decide +kernel
theorem d_MenuScreens_trip_30 : decode prog_1_method_10_code 30 = .ok (.ireturn, 1) := by decide +kernel
theorem d_MenuScreens_trip_31 : decode prog_1_method_10_code 31 = .ok (.aload_n 0, 1) := by decide +kernel
theorem d_MenuScreens_trip_32 : decode prog_1_method_10_code 32 = .ok (.dup, 1) := by decide +kernel
theorem d_MenuScreens_trip_33 : decode prog_1_method_10_code 33 = .ok (.getfield 150, 3) := by decide +kernel
theorem d_MenuScreens_trip_36 : decode prog_1_method_10_code 36 = .ok (.lload_n 1, 1) := by decide +kernel
theorem d_MenuScreens_trip_37 : decode prog_1_method_10_code 37 = .ok (.ladd, 1) := by decide +kernel
theorem d_MenuScreens_trip_38 : decode prog_1_method_10_code 38 = .ok (.putfield 150, 3) := by decide +kernel
theorem d_MenuScreens_trip_41 : decode prog_1_method_10_code 41 = .ok (.aload_n 0, 1) := by decide +kernel
theorem d_MenuScreens_trip_42 : decode prog_1_method_10_code 42 = .ok (.dup, 1) := by decide +kernel
theorem d_MenuScreens_trip_43 : decode prog_1_method_10_code 43 = .ok (.getfield 153, 3) := by decide +kernel
theorem d_MenuScreens_trip_46 : decode prog_1_method_10_code 46 = .ok (.lload_n 3, 1) := by decide +kernel
theorem d_MenuScreens_trip_47 : decode prog_1_method_10_code 47 = .ok (.ladd, 1) := by decide +kernel
theorem d_MenuScreens_trip_48 : decode prog_1_method_10_code 48 = .ok (.putfield 153, 3) := by decide +kernel
theorem d_MenuScreens_trip_51 : decode prog_1_method_10_code 51 = .ok (.aload_n 0, 1) := by decide +kernel
theorem d_MenuScreens_trip_52 : decode prog_1_method_10_code 52 = .ok (.dup, 1) := by decide +kernel
theorem d_MenuScreens_trip_53 : decode prog_1_method_10_code 53 = .ok (.getfield 156, 3) := by decide +kernel
theorem d_MenuScreens_trip_56 : decode prog_1_method_10_code 56 = .ok (.iconst 1, 1) := by decide +kernel
theorem d_MenuScreens_trip_57 : decode prog_1_method_10_code 57 = .ok (.iadd, 1) := by decide +kernel
theorem d_MenuScreens_trip_58 : decode prog_1_method_10_code 58 = .ok (.putfield 156, 3) := by decide +kernel
theorem d_MenuScreens_trip_61 : decode prog_1_method_10_code 61 = .ok (.aload_n 0, 1) := by decide +kernel
theorem d_MenuScreens_trip_62 : decode prog_1_method_10_code 62 = .ok (.getfield 156, 3) := by decide +kernel
theorem d_MenuScreens_trip_65 : decode prog_1_method_10_code 65 = .ok (.ireturn, 1) := by decide +kernel
set_option maxRecDepth 100000 in
set_option maxHeartbeats 4000000 in
theorem cm_MenuScreens_trip {l : Launch} {S0 : State} {b : Nat} {D : va_G} {dT : Nat → ClassId} (hE : vEnv S0 b D dT) {dE mO : Nat} (hJ : vJ S0 dE mO) {h0 : vH} {hcv : vH} {ad : Nat → Nat → Nat} {L : vL} {cap : Nat} {x : Nat → Int32} {y : Nat → Int64} {A : Nat → Nat → Int32} {B : Nat → Nat → Int64} (xl : LH S0.heap.size hcv h0 ad L) (hC : CR dT dE h0 ad L cap x y A B) {p1 p2 : Int64} : vMi l S0 D vcl GT y_MenuScreens_trip prog_1_method_10_code 5 (some .int) 0 0 0 0 [.ref (ad 0 0), .long p1, .long p2] h0 (fun r h' => clP dT dE S0.heap.size hcv h0 ad L cap (fun r x' y' A' B' => (A' = A ∧ B' = B ∧ ((p1 < 0 ∨ 1000000000 < p1 ∨ p2 < 0 ∨ 1000000000 < p2) ∧ r = -2 ∧ x' = upd x 0 0 ∧ y' = y ∨ (¬ p1 < 0 ∧ ¬ 1000000000 < p1 ∧ ¬ p2 < 0 ∧ ¬ 1000000000 < p2) ∧ r = x 55 + 1 ∧ x' = upd (upd x 0 0) 55 (x 55 + 1) ∧ y' = vp_updL (vp_updL y 56 (y 56 + p1)) 57 (y 57 + p2)))) r h') := by
  unfold vMi
  refine vM_ofQ hE.1 (by decide) (Nat.le_of_ble_eq_true rfl) (fun p e s m args below meth c ls Q hQ C hr hlk hnm X hl => ?_)
  have C : vC p s m _ c _ _ "MenuScreens" GT D vcl (vty dT) := C
  have hx := C.1.1
  have hb := C.1.2.1
  obtain ⟨H, eH⟩ : ∃ z, z = s.heap := ⟨_, rfl⟩
  obtain ⟨locs, elocs⟩ : ∃ z : List Loc, z = [] := ⟨_, rfl⟩
  rw [← eH, ← elocs] at X
  rw [← eH, ← elocs]
  clear eH elocs
  have hl : lv_has ls 5 [(0, .ref (ad 0 0)), (1, .long p1), (3, .long p2)] := hl
  have hC0 := hC
  obtain ⟨⟨sp, bl, hTop, hsp, hlm⟩, hdim, ⟨n3, e3, hBld⟩, ⟨n50, e50, hWr⟩, ⟨nr, e48, hPl⟩, hRe, hLi, ⟨nv, ns, np, nc, pf, cb, ce, cs, c0, lh, hnum, hpr, hRP, hTx, hrn⟩, hkey, hsm⟩ := hC0
  have hTop2 : L 0 0 = some (.inr (3, [.int (x 1), .int (x 2), .ref (ad 1 0), .ref (ad 6 0), .ref (ad 2 0), .ref (ad 8 0), .int (x 45), .int sp, .int (x 46), .int bl, .int (x 55), .long (y 56), .long (y 57)])) := hTop
  refine lv_lload_n hx hb d_MenuScreens_trip_0 rfl (lv_at hl 1 rfl) ?_
  refine lv_lconst (v := 0) hx hb d_MenuScreens_trip_1 (by decide) ?_
  refine W.lcmp hx hb d_MenuScreens_trip_2 ?_
  refine lv_if_lt (tgt := 28) hx hb d_MenuScreens_trip_3 (by decide) (fun c1 => ?_) (fun c1 => ?_)
  · skip
    refine lv_bipush (v := (-2)) hx hb d_MenuScreens_trip_28 (by decide) ?_
    exact mq_iret hQ C X hr rfl hlk (⟨ad, L, LR.of xl, ⟨fun _ _ => ⟨rfl, rfl⟩, rfl⟩, fun r' x' y' A' B' hst => by
        obtain ⟨a2, a3, a4⟩ := hst
        subst a2 a3
        rcases a4 with ⟨b1, b2, b3, b4⟩ | ⟨b1, b2, b3, b4⟩
        · subst b2 b3 b4; exact ⟨rfl, hC.same⟩
        · exact absurd trivial (fun _ => b1.1 ((lg_cmp_lt _ _).mp c1))⟩) (by omega) (by omega) d_MenuScreens_trip_30
  · skip
    refine lv_lload_n hx hb d_MenuScreens_trip_6 rfl (lv_at hl 1 rfl) ?_
    refine lv_ldc2 (v := 1000000000) hx hb C.1.2.2.2.1 (C.1.2.2.2.2 _ (gt_4 219 (by decide +kernel) rfl)) d_MenuScreens_trip_7 ?_
    refine W.lcmp hx hb d_MenuScreens_trip_10 ?_
    refine lv_if_gt (tgt := 28) hx hb d_MenuScreens_trip_11 (by decide) (fun c2 => ?_) (fun c2 => ?_)
    · skip
      refine lv_bipush (v := (-2)) hx hb d_MenuScreens_trip_28 (by decide) ?_
      exact mq_iret hQ C X hr rfl hlk (⟨ad, L, LR.of xl, ⟨fun _ _ => ⟨rfl, rfl⟩, rfl⟩, fun r' x' y' A' B' hst => by
          obtain ⟨a2, a3, a4⟩ := hst
          subst a2 a3
          rcases a4 with ⟨b1, b2, b3, b4⟩ | ⟨b1, b2, b3, b4⟩
          · subst b2 b3 b4; exact ⟨rfl, hC.same⟩
          · exact absurd trivial (fun _ => b1.2.1 ((lg_cmp_gt _ _).mp c2))⟩) (by omega) (by omega) d_MenuScreens_trip_30
    · skip
      refine lv_lload_n hx hb d_MenuScreens_trip_14 rfl (lv_at hl 2 rfl) ?_
      refine lv_lconst (v := 0) hx hb d_MenuScreens_trip_15 (by decide) ?_
      refine W.lcmp hx hb d_MenuScreens_trip_16 ?_
      refine lv_if_lt (tgt := 28) hx hb d_MenuScreens_trip_17 (by decide) (fun c3 => ?_) (fun c3 => ?_)
      · skip
        refine lv_bipush (v := (-2)) hx hb d_MenuScreens_trip_28 (by decide) ?_
        exact mq_iret hQ C X hr rfl hlk (⟨ad, L, LR.of xl, ⟨fun _ _ => ⟨rfl, rfl⟩, rfl⟩, fun r' x' y' A' B' hst => by
            obtain ⟨a2, a3, a4⟩ := hst
            subst a2 a3
            rcases a4 with ⟨b1, b2, b3, b4⟩ | ⟨b1, b2, b3, b4⟩
            · subst b2 b3 b4; exact ⟨rfl, hC.same⟩
            · exact absurd trivial (fun _ => b1.2.2.1 ((lg_cmp_lt _ _).mp c3))⟩) (by omega) (by omega) d_MenuScreens_trip_30
      · skip
        refine lv_lload_n hx hb d_MenuScreens_trip_20 rfl (lv_at hl 2 rfl) ?_
        refine lv_ldc2 (v := 1000000000) hx hb C.1.2.2.2.1 (C.1.2.2.2.2 _ (gt_4 219 (by decide +kernel) rfl)) d_MenuScreens_trip_21 ?_
        refine W.lcmp hx hb d_MenuScreens_trip_24 ?_
        refine lv_if_le (tgt := 31) hx hb d_MenuScreens_trip_25 (by decide) (fun c4 => ?_) (fun c4 => ?_)
        · skip
          refine lv_aload_n hx hb d_MenuScreens_trip_31 rfl (lv_at hl 0 rfl) ?_
          refine lv_dup hx hb d_MenuScreens_trip_32 rfl ?_
          refine mv_get C X (xl.get (i := 0) (j := 0) hTop2) 11 f_0_150_3 (v := .long (y 56)) rfl d_MenuScreens_trip_33 ?_
          refine lv_lload_n hx hb d_MenuScreens_trip_36 rfl (lv_at hl 1 rfl) ?_
          refine lv_ladd hx hb d_MenuScreens_trip_37 ?_
          refine mv_put C X (xl.get (i := 0) (j := 0) hTop2) (xl.wr (i := 0) (j := 0) hTop2) 11 p_0_150_3 rfl rfl (Nat.le_of_ble_eq_true rfl) d_MenuScreens_trip_38 (fun H locs X => ?_)
          have X : vO S0 D vcl (vup h0 (ad 0 0) (.inr (3, [.int (x 1), .int (x 2), .ref (ad 1 0), .ref (ad 6 0), .ref (ad 2 0), .ref (ad 8 0), .int (x 45), .int sp, .int (x 46), .int bl, .int (x 55), .long ((y 56) + p1), .long (y 57)]))) s H locs := X
          refine lv_aload_n hx hb d_MenuScreens_trip_41 rfl (lv_at hl 0 rfl) ?_
          refine lv_dup hx hb d_MenuScreens_trip_42 rfl ?_
          refine mv_get C X (vup_s _ _ _) 12 f_0_153_3 (v := .long (y 57)) rfl d_MenuScreens_trip_43 ?_
          refine lv_lload_n hx hb d_MenuScreens_trip_46 rfl (lv_at hl 2 rfl) ?_
          refine lv_ladd hx hb d_MenuScreens_trip_47 ?_
          refine mv_put C X (vup_s _ _ _) (xl.wr (i := 0) (j := 0) hTop2) 12 p_0_153_3 rfl rfl (Nat.le_of_ble_eq_true rfl) d_MenuScreens_trip_48 (fun H locs X => ?_)
          rw [vup_u] at X
          have X : vO S0 D vcl (vup h0 (ad 0 0) (.inr (3, [.int (x 1), .int (x 2), .ref (ad 1 0), .ref (ad 6 0), .ref (ad 2 0), .ref (ad 8 0), .int (x 45), .int sp, .int (x 46), .int bl, .int (x 55), .long ((y 56) + p1), .long ((y 57) + p2)]))) s H locs := X
          refine lv_aload_n hx hb d_MenuScreens_trip_51 rfl (lv_at hl 0 rfl) ?_
          refine lv_dup hx hb d_MenuScreens_trip_52 rfl ?_
          refine mv_get C X (vup_s _ _ _) 10 f_0_156_3 (v := .int (x 55)) rfl d_MenuScreens_trip_53 ?_
          refine lv_iconst (v := 1) hx hb d_MenuScreens_trip_56 (by decide) ?_
          refine lv_iadd hx hb d_MenuScreens_trip_57 ?_
          refine mv_put C X (vup_s _ _ _) (xl.wr (i := 0) (j := 0) hTop2) 10 p_0_156_3 rfl rfl (Nat.le_of_ble_eq_true rfl) d_MenuScreens_trip_58 (fun H locs X => ?_)
          rw [vup_u] at X
          have X : vO S0 D vcl (vup h0 (ad 0 0) (.inr (3, [.int (x 1), .int (x 2), .ref (ad 1 0), .ref (ad 6 0), .ref (ad 2 0), .ref (ad 8 0), .int (x 45), .int sp, .int (x 46), .int bl, .int ((x 55) + 1), .long ((y 56) + p1), .long ((y 57) + p2)]))) s H locs := X
          refine lv_aload_n hx hb d_MenuScreens_trip_61 rfl (lv_at hl 0 rfl) ?_
          refine mv_get C X (vup_s _ _ _) 10 f_0_156_3 (v := .int ((x 55) + 1)) rfl d_MenuScreens_trip_62 ?_
          exact mq_iret hQ C X hr rfl hlk (⟨ad, _, (LR.of xl).put (i := 0) (j := 0) hTop2, ⟨fun i hi => ⟨lput_k _ _ (by omega), rfl⟩, rfl⟩, fun r' x' y' A' B' hst => by
              obtain ⟨a2, a3, a4⟩ := hst
              subst a2 a3
              have g1 : ¬ p1 < 0 := fun z => c1 ((lg_cmp_lt _ _).mpr z)
              have g2 : ¬ 1000000000 < p1 := fun z => c2 ((lg_cmp_gt _ _).mpr z)
              have g3 : ¬ p2 < 0 := fun z => c3 ((lg_cmp_lt _ _).mpr z)
              have g4 : ¬ 1000000000 < p2 := Int64.not_lt.mpr ((lg_cmp_le _ _).mp c4)
              rcases a4 with ⟨b1, b2, b3, b4⟩ | ⟨b1, b2, b3, b4⟩
              · exfalso
                rcases b1 with z | z | z | z
                · exact g1 z
                · exact g2 z
                · exact g3 z
                · exact g4 z
              · subst b2 b3 b4
                refine ⟨rfl, ?_⟩
                have q := CR.top (x' := upd (upd x 0 0) 55 (x 55 + 1)) (y' := vp_updL (vp_updL y 56 (y 56 + p1)) 57 (y 57 + p2)) (g := A' 58) hC rfl ((LR.of xl).put (i := 0) (j := 0) hTop2).2 (fun k a b c d => by rw [pk_un d, pk_un a]) rfl ⟨sp, bl, rfl, hsp, hlm⟩ (fun _ _ _ h => h)
                rw [va_up_id] at q; exact q⟩) (by omega) (by omega) d_MenuScreens_trip_65
        · skip
          refine lv_bipush (v := (-2)) hx hb d_MenuScreens_trip_28 (by decide) ?_
          exact mq_iret hQ C X hr rfl hlk (⟨ad, L, LR.of xl, ⟨fun _ _ => ⟨rfl, rfl⟩, rfl⟩, fun r' x' y' A' B' hst => by
              obtain ⟨a2, a3, a4⟩ := hst
              subst a2 a3
              rcases a4 with ⟨b1, b2, b3, b4⟩ | ⟨b1, b2, b3, b4⟩
              · subst b2 b3 b4; exact ⟨rfl, hC.same⟩
              · exact absurd trivial (fun _ => b1.2.2.2 (Int64.not_le.mp (fun z => c4 ((lg_cmp_le _ _).mpr z))))⟩) (by omega) (by omega) d_MenuScreens_trip_30
theorem d_MenuScreens_warning_0 : decode prog_1_method_8_code 0 = .ok (.aload_n 0, 1) := by decide +kernel
theorem d_MenuScreens_warning_1 : decode prog_1_method_8_code 1 = .ok (.getfield 38, 3) := by decide +kernel
theorem d_MenuScreens_warning_4 : decode prog_1_method_8_code 4 = .ok (.iload_n 1, 1) := by decide +kernel
theorem d_MenuScreens_warning_5 : decode prog_1_method_8_code 5 = .ok (.invokevirtual 142, 3) := by decide +kernel
theorem d_MenuScreens_warning_8 : decode prog_1_method_8_code 8 = .ok (.ireturn, 1) := by decide +kernel
set_option maxRecDepth 100000 in
set_option maxHeartbeats 4000000 in
theorem cm_MenuScreens_warning {l : Launch} {S0 : State} {b : Nat} {D : va_G} {dT : Nat → ClassId} (hE : vEnv S0 b D dT) {dE mO : Nat} (hJ : vJ S0 dE mO) {h0 : vH} {hcv : vH} {ad : Nat → Nat → Nat} {L : vL} {cap : Nat} {x : Nat → Int32} {y : Nat → Int64} {A : Nat → Nat → Int32} {B : Nat → Nat → Int64} (xl : LH S0.heap.size hcv h0 ad L) (hC : CR dT dE h0 ad L cap x y A B) {p1 : Int32} : vMi l S0 D vcl GT y_MenuScreens_warning prog_1_method_8_code 2 (some .int) 1 21 0 0 [.ref (ad 0 0), .int p1] h0 (fun r h' => clP dT dE S0.heap.size hcv h0 ad L cap (fun r x' y' A' B' => (x' = upd x 0 0 ∧ y' = y ∧ A' = A ∧ B' = B ∧ ∃ n, x 50 = nI n ∧ n ≤ 200 ∧ r = nI (fnd (fun k => decide (A 53 k = 0) && decide (nI (befN (A 51) (B 52) (A 53) n k 0) = p1)) n 1))) r h') := by
  unfold vMi
  refine vM_ofQ hE.1 (by decide) (Nat.le_of_ble_eq_true rfl) (fun p e s m args below meth c ls Q hQ C hr hlk hnm X hl => ?_)
  have C : vC p s m _ c _ _ "MenuScreens" GT D vcl (vty dT) := C
  have hx := C.1.1
  have hb := C.1.2.1
  obtain ⟨H, eH⟩ : ∃ z, z = s.heap := ⟨_, rfl⟩
  obtain ⟨locs, elocs⟩ : ∃ z : List Loc, z = [] := ⟨_, rfl⟩
  rw [← eH, ← elocs] at X
  rw [← eH, ← elocs]
  clear eH elocs
  have hl : lv_has ls 2 [(0, .ref (ad 0 0)), (1, .int p1)] := hl
  have hC0 := hC
  obtain ⟨⟨sp, bl, hTop, hsp, hlm⟩, hdim, ⟨n3, e3, hBld⟩, ⟨n50, e50, hWr⟩, ⟨nr, e48, hPl⟩, hRe, hLi, ⟨nv, ns, np, nc, pf, cb, ce, cs, c0, lh, hnum, hpr, hRP, hTx, hrn⟩, hkey, hsm⟩ := hC0
  have hTop2 : L 0 0 = some (.inr (3, [.int (x 1), .int (x 2), .ref (ad 1 0), .ref (ad 6 0), .ref (ad 2 0), .ref (ad 8 0), .int (x 45), .int sp, .int (x 46), .int bl, .int (x 55), .long (y 56), .long (y 57)])) := hTop
  refine lv_aload_n hx hb d_MenuScreens_warning_0 rfl (lv_at hl 0 rfl) ?_
  refine mv_get C X (xl.get (i := 0) (j := 0) hTop2) 5 f_0_38_3 (v := .ref (ad 8 0)) rfl d_MenuScreens_warning_1 ?_
  refine lv_iload_n hx hb d_MenuScreens_warning_4 rfl (lv_at hl 1 rfl) ?_
  obtain ⟨no, op, fr, ft, fo, hw0, hw1, hw2, hw3, hwk, hwo, hop, hac, hmo, hn200, hnon, hla⟩ := hWr
  refine mv_bi X (mv_rV (rest := []) (As := [.int p1]) gt_good C X k_0_142 (cm_Warnings_openAt hE (by omega) (xl.get (i := 8) (j := 0) hw0) (xl.get (i := 8) (j := 3) hw3)) (xl.get (i := 8) (j := 0) hw0) rfl rfl ⟨Nat.le_of_ble_eq_true rfl, Nat.le_of_ble_eq_true rfl⟩ rfl hl.1 rfl (Nat.le_of_ble_eq_true rfl) d_MenuScreens_warning_5 ⟨Nat.zero_le _, Nat.zero_le _⟩) (fun r1 hN H locs hp X => ?_)
  obtain ⟨eh, hq⟩ := hp
  replace eh := eh.symm
  subst eh
  exact mq_iret hQ C X hr rfl hlk (⟨ad, L, LR.of xl, ⟨fun _ _ => ⟨rfl, rfl⟩, rfl⟩, fun r' x' y' A' B' hst => by
      obtain ⟨a1, a2, a3, a4, n, a5, a6, a7⟩ := hst
      subst a1 a2 a3 a4
      refine ⟨?_, hC.same⟩
      have en : n = n50 := nI_eqI (by omega) (by omega) (a5.symm.trans e50)
      subst en
      obtain ⟨f1, f2⟩ := wOp_fnd (p1 := p1) hop hmo hn200 hnon
      rw [a7]
      rcases hq with ⟨b1, b2⟩ | ⟨j, b1, b2, b3⟩
      · rw [b2, f2 (fun i hi z => ?_)]
        · rfl
        · rw [z] at b1
          rcases b1 with b1 | b1
          · exact nI_pos (by omega) b1
          · have := (nI_leI (by omega) (by omega)).mp b1; omega
      · rw [b3, f1 j b1 b2, hwo j b1]⟩) (by omega) (by omega) d_MenuScreens_warning_8
