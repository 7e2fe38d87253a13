theorem d_MenuScreens_greatestDivisor_0 : decode prog_1_method_17_code 0 = .ok (.lload_n 0, 1) := by decide +kernel
theorem d_MenuScreens_greatestDivisor_1 : decode prog_1_method_17_code 1 = .ok (.lstore 4, 2) := by decide +kernel
theorem d_MenuScreens_greatestDivisor_3 : decode prog_1_method_17_code 3 = .ok (.lload_n 2, 1) := by decide +kernel
theorem d_MenuScreens_greatestDivisor_4 : decode prog_1_method_17_code 4 = .ok (.lstore 6, 2) := by decide +kernel
theorem d_MenuScreens_greatestDivisor_6 : decode prog_1_method_17_code 6 = .ok (.iconst 0, 1) := by decide +kernel
theorem d_MenuScreens_greatestDivisor_7 : decode prog_1_method_17_code 7 = .ok (.istore 8, 2) := by decide +kernel
theorem d_MenuScreens_greatestDivisor_9 : decode prog_1_method_17_code 9 = .ok (.iload 8, 2) := by decide +kernel
theorem d_MenuScreens_greatestDivisor_11 : decode prog_1_method_17_code 11 = .ok (.bipush 100, 2) := by decide +kernel
theorem d_MenuScreens_greatestDivisor_13 : decode prog_1_method_17_code 13 = .ok (.if_icmp .ge 31, 3) := by decide +kernel
theorem d_MenuScreens_greatestDivisor_16 : decode prog_1_method_17_code 16 = .ok (.lload 6, 2) := by decide +kernel
theorem d_MenuScreens_greatestDivisor_18 : decode prog_1_method_17_code 18 = .ok (.lconst 0, 1) := by decide +kernel
theorem d_MenuScreens_greatestDivisor_19 : decode prog_1_method_17_code 19 = .ok (.lcmp, 1) := by decide +kernel
theorem d_MenuScreens_greatestDivisor_20 : decode prog_1_method_17_code 20 = .ok (.ifCond .eq 24, 3) := by decide +kernel
theorem d_MenuScreens_greatestDivisor_23 : decode prog_1_method_17_code 23 = .ok (.lload 4, 2) := by decide +kernel
theorem d_MenuScreens_greatestDivisor_25 : decode prog_1_method_17_code 25 = .ok (.lload 6, 2) := by decide +kernel
theorem d_MenuScreens_greatestDivisor_27 : decode prog_1_method_17_code 27 = .ok (.lrem, 1) := by decide +kernel
theorem d_MenuScreens_greatestDivisor_28 : decode prog_1_method_17_code 28 = .ok (.lstore 9, 2) := by decide +kernel
theorem d_MenuScreens_greatestDivisor_30 : decode prog_1_method_17_code 30 = .ok (.lload 6, 2) := by decide +kernel
theorem d_MenuScreens_greatestDivisor_32 : decode prog_1_method_17_code 32 = .ok (.lstore 4, 2) := by decide +kernel
theorem d_MenuScreens_greatestDivisor_34 : decode prog_1_method_17_code 34 = .ok (.lload 9, 2) := by decide +kernel
theorem d_MenuScreens_greatestDivisor_36 : decode prog_1_method_17_code 36 = .ok (.lstore 6, 2) := by decide +kernel
theorem d_MenuScreens_greatestDivisor_38 : decode prog_1_method_17_code 38 = .ok (.iinc 8 1, 3) := by decide +kernel
theorem d_MenuScreens_greatestDivisor_41 : decode prog_1_method_17_code 41 = .ok (.goto (-32), 3) := by decide +kernel
theorem d_MenuScreens_greatestDivisor_44 : decode prog_1_method_17_code 44 = .ok (.lload 4, 2) := by decide +kernel
theorem d_MenuScreens_greatestDivisor_46 : decode prog_1_method_17_code 46 = .ok (.lreturn, 1) := by decide +kernel
set_option maxRecDepth 100000 in
set_option maxHeartbeats 4000000 in
theorem cm_MenuScreens_greatestDivisor {l : Launch} {S0 : State} {b : Nat} {D : va_G} {dT : Nat → ClassId} (hE : vEnv S0 b D dT) {h0 : vH} {u0 v0 : Nat} (hu : u0 ≤ 1000000000000000) (hv : v0 ≤ 1000000000000) : vMl l S0 D vcl GT y_MenuScreens_greatestDivisor prog_1_method_17_code 11 (some .long) 0 0 0 0 [.long (lN u0), .long (lN v0)] h0 (fun r h' => h' = h0 ∧ r = lN (Nat.gcd u0 v0)) := by
  unfold vMl
  refine vM_ofQ hE.1 (by decide) (Nat.le_of_ble_eq_true rfl) (fun p e s m args below meth c ls Q hQ C hr hlk hnm X hl => ?_)
  have C : vC p s m _ c _ _ "MenuScreens" GT D vcl (vty dT) := C
  have hx := C.1.1
  have hb := C.1.2.1
  obtain ⟨H, eH⟩ : ∃ z, z = s.heap := ⟨_, rfl⟩
  obtain ⟨locs, elocs⟩ : ∃ z : List Loc, z = [] := ⟨_, rfl⟩
  rw [← eH, ← elocs] at X
  rw [← eH, ← elocs]
  clear eH elocs
  have hl : lv_has ls 11 [(0, .long (lN u0)), (2, .long (lN v0))] := hl
  refine lv_lload_n hx hb d_MenuScreens_greatestDivisor_0 rfl (lv_at hl 0 rfl) ?_
  refine lv_lstore (lv' := [(4, .long (lN u0)), (0, .long (lN u0)), (2, .long (lN v0))]) hx hb d_MenuScreens_greatestDivisor_1 hl (by decide) rfl (fun ls hl => ?_)
  refine lv_lload_n hx hb d_MenuScreens_greatestDivisor_3 rfl (lv_at hl 2 rfl) ?_
  refine lv_lstore (lv' := [(6, .long (lN v0)), (4, .long (lN u0)), (0, .long (lN u0)), (2, .long (lN v0))]) hx hb d_MenuScreens_greatestDivisor_4 hl (by decide) rfl (fun ls hl => ?_)
  refine lv_iconst (v := 0) hx hb d_MenuScreens_greatestDivisor_6 (by decide) ?_
  refine lv_istore (lv' := [(8, .int 0), (6, .long (lN v0)), (4, .long (lN u0)), (0, .long (lN u0)), (2, .long (lN v0))]) hx hb d_MenuScreens_greatestDivisor_7 hl (by decide) rfl (fun ls hl => ?_)
  have lp : ∀ (n_lp : Nat) (k : Nat) (gr : Int64) (sm : Int64) (i : Int32) (ls : Array Slot) (H : Heap) (locs : List Loc), (i = nI k) → (k ≤ 100) → (gr = lN (euc k u0 v0).1) → (sm = lN (euc k u0 v0).2) → (100 - k) < n_lp → vO S0 D vcl h0 s H locs → lv_has ls 11 [(0, .long (lN u0)), (2, .long (lN v0)), (4, .long gr), (6, .long sm), (8, .int i)] → W p l e (vRm 0 0 0 0) s m args below meth c H locs 0 0 Q (F0 m 9 ls []) := by
    intro n_lp
    induction n_lp with
    | zero => intros; exact absurd (by assumption) (Nat.not_lt_zero _)
    | succ n_lp ih_lp =>
      intro k gr sm i ls H locs ei hk eg es hmu_lp X hl
      refine lv_iload hx hb d_MenuScreens_greatestDivisor_9 (lv_at hl 4 rfl) ?_
      refine lv_bipush (v := 100) hx hb d_MenuScreens_greatestDivisor_11 (by decide) ?_
      refine lv_icmp_ge (tgt := 44) hx hb d_MenuScreens_greatestDivisor_13 (by decide) (fun c1 => ?_) (fun c1 => ?_)
      · skip
        refine lv_lload hx hb d_MenuScreens_greatestDivisor_44 (lv_at hl 2 rfl) ?_
        exact mq_lret hQ C X hr hlk (⟨rfl, by
            have : k = 100 := by
              have := (nI_leI (a := 100) (b := k) (by decide) (by omega)).mp (by rw [← ei]; exact c1)
              omega
            rw [eg, this, euc_100 (by omega)]⟩) (by omega) (by omega) d_MenuScreens_greatestDivisor_46
      · skip
        have hk1 : k < 100 := by
          rcases Nat.lt_or_ge k 100 with q | q
          · exact q
          · exact absurd (show (100 : Int32) ≤ i from by rw [ei]; exact nI_le (a := 100) q (by omega)) c1
        refine lv_lload hx hb d_MenuScreens_greatestDivisor_16 (lv_at hl 3 rfl) ?_
        refine lv_lconst (v := 0) hx hb d_MenuScreens_greatestDivisor_18 (by decide) ?_
        refine W.lcmp hx hb d_MenuScreens_greatestDivisor_19 ?_
        refine lv_if_eq (tgt := 44) hx hb d_MenuScreens_greatestDivisor_20 (by decide) (fun c2 => ?_) (fun c2 => ?_)
        · skip
          refine lv_lload hx hb d_MenuScreens_greatestDivisor_44 (lv_at hl 2 rfl) ?_
          exact mq_lret hQ C X hr hlk (⟨rfl, by
              have hle := euc_le k u0 v0 1000000000000000 hu (by omega)
              have z0 : (euc k u0 v0).2 = 0 := lN_inj (b := 0) (by omega) (by decide) (by rw [← es]; exact (lg_cmp_eq _ _).mp c2)
              have hg := euc_gcd k u0 v0
              rw [z0, Nat.gcd_zero_right] at hg
              rw [eg, hg]⟩) (by omega) (by omega) d_MenuScreens_greatestDivisor_46
        · skip
          have hz0 : (euc k u0 v0).2 ≠ 0 := fun z => c2 ((lg_cmp_eq _ _).mpr (by rw [es, z]; rfl))
          have hle := euc_le k u0 v0 1000000000000000 hu (by omega)
          refine lv_lload hx hb d_MenuScreens_greatestDivisor_23 (lv_at hl 2 rfl) ?_
          refine lv_lload hx hb d_MenuScreens_greatestDivisor_25 (lv_at hl 3 rfl) ?_
          refine lv_lrem hx hb d_MenuScreens_greatestDivisor_27 (by rw [es]; exact fun z => hz0 (lN_inj (b := 0) (by omega) (by decide) z)) ?_
          refine lv_lstore (lv' := [(9, .long (gr - (gr / sm) * sm)), (0, .long (lN u0)), (2, .long (lN v0)), (4, .long gr), (6, .long sm), (8, .int i)]) hx hb d_MenuScreens_greatestDivisor_28 hl (by decide) rfl (fun ls hl => ?_)
          refine lv_lload hx hb d_MenuScreens_greatestDivisor_30 (lv_at hl 4 rfl) ?_
          refine lv_lstore (lv' := [(4, .long sm), (9, .long (gr - (gr / sm) * sm)), (0, .long (lN u0)), (2, .long (lN v0)), (6, .long sm), (8, .int i)]) hx hb d_MenuScreens_greatestDivisor_32 hl (by decide) rfl (fun ls hl => ?_)
          refine lv_lload hx hb d_MenuScreens_greatestDivisor_34 (lv_at hl 1 rfl) ?_
          refine lv_lstore (lv' := [(6, .long (gr - (gr / sm) * sm)), (4, .long sm), (9, .long (gr - (gr / sm) * sm)), (0, .long (lN u0)), (2, .long (lN v0)), (8, .int i)]) hx hb d_MenuScreens_greatestDivisor_36 hl (by decide) rfl (fun ls hl => ?_)
          refine lv_iinc (v := (i + 1)) (lv' := [(8, .int (i + 1)), (6, .long (gr - (gr / sm) * sm)), (4, .long sm), (9, .long (gr - (gr / sm) * sm)), (0, .long (lN u0)), (2, .long (lN v0))]) hx hb d_MenuScreens_greatestDivisor_38 hl (k := 5) rfl rfl (by decide) rfl (fun ls hl => ?_)
          refine lv_goto (tgt := 9) hx hb d_MenuScreens_greatestDivisor_41 (by decide) ?_
          exact ih_lp (k + 1) sm (gr - (gr / sm) * sm) (i + 1) ls _ _ (by rw [ei]; exact nI_1 k) (by omega) (by rw [euc_s, if_neg hz0]; exact es) (by
              rw [euc_s, if_neg hz0, eg, es]; exact pk_lRem (by omega) (by omega) (by omega)) (by omega) X (lv_sub hl [4, 5, 2, 1, 0] rfl)
  exact lp (100 - 0 + 1) 0 (lN u0) (lN v0) 0 ls _ _ rfl (Nat.zero_le _) rfl rfl (Nat.lt_succ_self _) X (lv_sub hl [3, 4, 2, 1, 0] rfl)
theorem d_MenuScreens_sum_0 : decode prog_1_method_11_code 0 = .ok (.iload_n 1, 1) := by decide +kernel
theorem d_MenuScreens_sum_1 : decode prog_1_method_11_code 1 = .ok (.ifCond .ne 8, 3) := by decide +kernel
theorem d_MenuScreens_sum_4 : decode prog_1_method_11_code 4 = .ok (.aload_n 0, 1) := by decide +kernel
theorem d_MenuScreens_sum_5 : decode prog_1_method_11_code 5 = .ok (.getfield 150, 3) := by decide +kernel
theorem d_MenuScreens_sum_8 : decode prog_1_method_11_code 8 = .ok (.lreturn, 1) := by decide +kernel
theorem d_MenuScreens_sum_9 : decode prog_1_method_11_code 9 = .ok (.iload_n 1, 1) := by decide +kernel
theorem d_MenuScreens_sum_10 : decode prog_1_method_11_code 10 = .ok (.iconst 1, 1) := by decide +kernel
theorem d_MenuScreens_sum_11 : decode prog_1_method_11_code 11 = .ok (.if_icmp .ne 8, 3) := by decide +kernel
theorem d_MenuScreens_sum_14 : decode prog_1_method_11_code 14 = .ok (.aload_n 0, 1) := by decide +kernel
theorem d_MenuScreens_sum_15 : decode prog_1_method_11_code 15 = .ok (.getfield 153, 3) := by decide +kernel
theorem d_MenuScreens_sum_18 : decode prog_1_method_11_code 18 = .ok (.lreturn, 1) := by decide +kernel
theorem d_MenuScreens_sum_19 : decode prog_1_method_11_code 19 = .ok (.iload_n 1, 1) := by decide +kernel
theorem d_MenuScreens_sum_20 : decode prog_1_method_11_code 20 = .ok (.iconst 2, 1) := by decide +kernel
theorem d_MenuScreens_sum_21 : decode prog_1_method_11_code 21 = .ok (.if_icmp .eq 7, 3) := by decide +kernel
theorem d_MenuScreens_sum_24 : decode prog_1_method_11_code 24 = .ok (.ldc2_w 159, 3) := by decide +kernel
theorem d_MenuScreens_sum_27 : decode prog_1_method_11_code 27 = .ok (.lreturn, 1) := by decide +kernel
theorem d_MenuScreens_sum_28 : decode prog_1_method_11_code 28 = .ok (.aload_n 0, 1) := by decide +kernel
theorem d_MenuScreens_sum_29 : decode prog_1_method_11_code 29 = .ok (.getfield 153, 3) := by decide +kernel
theorem d_MenuScreens_sum_32 : decode prog_1_method_11_code 32 = .ok (.ldc2_w 161, 3) := by decide +kernel
theorem d_MenuScreens_sum_35 : decode prog_1_method_11_code 35 = .ok (.lmul, 1) := by decide +kernel
theorem d_MenuScreens_sum_36 : decode prog_1_method_11_code 36 = .ok (.lstore_n 3, 1) := by decide +kernel
theorem d_MenuScreens_sum_37 : decode prog_1_method_11_code 37 = .ok (.lload_n 3, 1) := by decide +kernel
theorem d_MenuScreens_sum_38 : decode prog_1_method_11_code 38 = .ok (.aload_n 0, 1) := by decide +kernel
theorem d_MenuScreens_sum_39 : decode prog_1_method_11_code 39 = .ok (.getfield 150, 3) := by decide +kernel
theorem d_MenuScreens_sum_42 : decode prog_1_method_11_code 42 = .ok (.invokestatic 163, 3) := by decide +kernel
theorem d_MenuScreens_sum_45 : decode prog_1_method_11_code 45 = .ok (.lstore 5, 2) := by decide +kernel
theorem d_MenuScreens_sum_47 : decode prog_1_method_11_code 47 = .ok (.aload_n 0, 1) := by decide +kernel
theorem d_MenuScreens_sum_48 : decode prog_1_method_11_code 48 = .ok (.getfield 150, 3) := by decide +kernel
theorem d_MenuScreens_sum_51 : decode prog_1_method_11_code 51 = .ok (.lconst 0, 1) := by decide +kernel
theorem d_MenuScreens_sum_52 : decode prog_1_method_11_code 52 = .ok (.lcmp, 1) := by decide +kernel
theorem d_MenuScreens_sum_53 : decode prog_1_method_11_code 53 = .ok (.ifCond .eq 10, 3) := by decide +kernel
theorem d_MenuScreens_sum_56 : decode prog_1_method_11_code 56 = .ok (.lload 5, 2) := by decide +kernel
theorem d_MenuScreens_sum_58 : decode prog_1_method_11_code 58 = .ok (.lconst 0, 1) := by decide +kernel
theorem d_MenuScreens_sum_59 : decode prog_1_method_11_code 59 = .ok (.lcmp, 1) := by decide +kernel
theorem d_MenuScreens_sum_60 : decode prog_1_method_11_code 60 = .ok (.ifCond .ne 5, 3) := by decide +kernel
theorem d_MenuScreens_sum_63 : decode prog_1_method_11_code 63 = .ok (.lconst 0, 1) := by decide +kernel
theorem d_MenuScreens_sum_64 : decode prog_1_method_11_code 64 = .ok (.lreturn, 1) := by decide +kernel
theorem d_MenuScreens_sum_65 : decode prog_1_method_11_code 65 = .ok (.iload_n 2, 1) := by decide +kernel
theorem d_MenuScreens_sum_66 : decode prog_1_method_11_code 66 = .ok (.ifCond .ne 7, 3) := by decide +kernel
theorem d_MenuScreens_sum_69 : decode prog_1_method_11_code 69 = .ok (.lload_n 3, 1) := by decide +kernel
theorem d_MenuScreens_sum_70 : decode prog_1_method_11_code 70 = .ok (.goto 7, 3) := by decide +kernel
theorem d_MenuScreens_sum_73 : decode prog_1_method_11_code 73 = .ok (.aload_n 0, 1) := by decide +kernel
theorem d_MenuScreens_sum_74 : decode prog_1_method_11_code 74 = .ok (.getfield 150, 3) := by decide +kernel
theorem d_MenuScreens_sum_77 : decode prog_1_method_11_code 77 = .ok (.lload 5, 2) := by decide +kernel
theorem d_MenuScreens_sum_79 : decode prog_1_method_11_code 79 = .ok (.ldiv, 1) := by decide +kernel
theorem d_MenuScreens_sum_80 : decode prog_1_method_11_code 80 = .ok (.lreturn, 1) := by decide +kernel
set_option maxRecDepth 100000 in
set_option maxHeartbeats 4000000 in
theorem cm_MenuScreens_sum {l : Launch} {S0 : State} {b : Nat} {D : va_G} {dT : Nat → ClassId} (hE : vEnv S0 b D dT) {dE mO : Nat} (hJ : vJ S0 dE mO) {h0 : vH} {hcv : vH} {ad : Nat → Nat → Nat} {L : vL} {cap : Nat} {x : Nat → Int32} {y : Nat → Int64} {A : Nat → Nat → Int32} {B : Nat → Nat → Int64} (xl : LH S0.heap.size hcv h0 ad L) (hC : CR dT dE h0 ad L cap x y A B) {p1 p2 : Int32} {me ce0 : Nat} (hm0 : y 56 = lN me) (hc0 : y 57 = lN ce0) (hm2 : me ≤ 1000000000000) (hc2 : ce0 ≤ 1000000000000) : vMl l S0 D vcl GT y_MenuScreens_sum prog_1_method_11_code 7 (some .long) 1 30 0 0 [.ref (ad 0 0), .int p1, .int p2] h0 (fun r h' => h' = h0 ∧ (p1 = 0 ∧ r = y 56 ∨ p1 = 1 ∧ r = y 57 ∨ (¬ p1 = 0 ∧ ¬ p1 = 1 ∧ ¬ p1 = 2) ∧ r = -2 ∨ p1 = 2 ∧ (me = 0 ∧ r = 0 ∨ 0 < me ∧ (p2 = 0 ∧ r = lN (ce0 * 1000 / Nat.gcd (ce0 * 1000) me) ∨ ¬ p2 = 0 ∧ r = lN (me / Nat.gcd (ce0 * 1000) me))))) := by
  unfold vMl
  refine vM_ofQ hE.1 (by decide) (Nat.le_of_ble_eq_true rfl) (fun p e s m args below meth c ls Q hQ C hr hlk hnm X hl => ?_)
  have C : vC p s m _ c _ _ "MenuScreens" GT D vcl (vty dT) := C
  have hx := C.1.1
  have hb := C.1.2.1
  obtain ⟨H, eH⟩ : ∃ z, z = s.heap := ⟨_, rfl⟩
  obtain ⟨locs, elocs⟩ : ∃ z : List Loc, z = [] := ⟨_, rfl⟩
  rw [← eH, ← elocs] at X
  rw [← eH, ← elocs]
  clear eH elocs
  have hl : lv_has ls 7 [(0, .ref (ad 0 0)), (1, .int p1), (2, .int p2)] := hl
  have hC0 := hC
  obtain ⟨⟨sp, bl, hTop, hsp, hlm⟩, hdim, ⟨n3, e3, hBld⟩, ⟨n50, e50, hWr⟩, ⟨nr, e48, hPl⟩, hRe, hLi, ⟨nv, ns, np, nc, pf, cb, ce, cs, c0, lh, hnum, hpr, hRP, hTx, hrn⟩, hkey, hsm⟩ := hC0
  have hTop2 : L 0 0 = some (.inr (3, [.int (x 1), .int (x 2), .ref (ad 1 0), .ref (ad 6 0), .ref (ad 2 0), .ref (ad 8 0), .int (x 45), .int sp, .int (x 46), .int bl, .int (x 55), .long (y 56), .long (y 57)])) := hTop
  refine lv_iload_n hx hb d_MenuScreens_sum_0 rfl (lv_at hl 1 rfl) ?_
  refine lv_if_ne (tgt := 9) hx hb d_MenuScreens_sum_1 (by decide) (fun c1 => ?_) (fun c1 => ?_)
  · skip
    refine lv_iload_n hx hb d_MenuScreens_sum_9 rfl (lv_at hl 1 rfl) ?_
    refine lv_iconst (v := 1) hx hb d_MenuScreens_sum_10 (by decide) ?_
    refine lv_icmp_ne (tgt := 19) hx hb d_MenuScreens_sum_11 (by decide) (fun c2 => ?_) (fun c2 => ?_)
    · skip
      refine lv_iload_n hx hb d_MenuScreens_sum_19 rfl (lv_at hl 1 rfl) ?_
      refine lv_iconst (v := 2) hx hb d_MenuScreens_sum_20 (by decide) ?_
      refine lv_icmp_eq (tgt := 28) hx hb d_MenuScreens_sum_21 (by decide) (fun c3 => ?_) (fun c3 => ?_)
      · skip
        refine lv_aload_n hx hb d_MenuScreens_sum_28 rfl (lv_at hl 0 rfl) ?_
        refine mv_get C X (xl.get (i := 0) (j := 0) hTop2) 12 f_0_153_3 (v := .long (y 57)) rfl d_MenuScreens_sum_29 ?_
        refine lv_ldc2 (v := 1000) hx hb C.1.2.2.2.1 (C.1.2.2.2.2 _ (gt_4 225 (by decide +kernel) rfl)) d_MenuScreens_sum_32 ?_
        refine lv_lmul hx hb d_MenuScreens_sum_35 ?_
        have E0 : ((y 57) * 1000) = lN (ce0 * 1000) := by rw [hc0]; exact lN_mul ce0 1000
        rw [E0]
        refine lv_lstore_n (lv' := [(3, .long (lN (ce0 * 1000))), (0, .ref (ad 0 0)), (1, .int p1), (2, .int p2)]) hx hb d_MenuScreens_sum_36 rfl hl (by decide) rfl (fun ls hl => ?_)
        refine lv_lload_n hx hb d_MenuScreens_sum_37 rfl (lv_at hl 0 rfl) ?_
        refine lv_aload_n hx hb d_MenuScreens_sum_38 rfl (lv_at hl 1 rfl) ?_
        refine mv_get C X (xl.get (i := 0) (j := 0) hTop2) 11 f_0_150_3 (v := .long (y 56)) rfl d_MenuScreens_sum_39 ?_
        rw [hm0]
        refine mv_bl X (mv_rS (rest := []) (As := [.long (lN (ce0 * 1000)), .long (lN me)]) gt_good C X k_0_163 (cm_MenuScreens_greatestDivisor hE (by omega) (by omega)) ⟨Nat.le_of_ble_eq_true rfl, Nat.le_of_ble_eq_true rfl⟩ rfl hl.1 rfl (Nat.le_of_ble_eq_true rfl) d_MenuScreens_sum_42 ⟨Nat.zero_le _, Nat.zero_le _⟩) (fun r4 hN H locs hp X => ?_)
        obtain ⟨eh, er⟩ := hp
        replace eh := eh.symm
        replace er := er.symm
        subst eh er
        refine lv_lstore (lv' := [(5, .long (lN (Nat.gcd (ce0 * 1000) me))), (3, .long (lN (ce0 * 1000))), (0, .ref (ad 0 0)), (1, .int p1), (2, .int p2)]) hx hb d_MenuScreens_sum_45 hl (by decide) rfl (fun ls hl => ?_)
        refine lv_aload_n hx hb d_MenuScreens_sum_47 rfl (lv_at hl 2 rfl) ?_
        refine mv_get C X (xl.get (i := 0) (j := 0) hTop2) 11 f_0_150_3 (v := .long (y 56)) rfl d_MenuScreens_sum_48 ?_
        refine lv_lconst (v := 0) hx hb d_MenuScreens_sum_51 (by decide) ?_
        refine W.lcmp hx hb d_MenuScreens_sum_52 ?_
        refine lv_if_eq (tgt := 63) hx hb d_MenuScreens_sum_53 (by decide) (fun c5 => ?_) (fun c5 => ?_)
        · skip
          refine lv_lconst (v := 0) hx hb d_MenuScreens_sum_63 (by decide) ?_
          exact mq_lret hQ C X hr hlk (⟨rfl, Or.inr (Or.inr (Or.inr ⟨c3, Or.inl ⟨lN_inj (b := 0) (by omega) (by decide) (by rw [← hm0]; exact (lg_cmp_eq _ _).mp c5), rfl⟩⟩))⟩) (by omega) (by omega) d_MenuScreens_sum_64
        · skip
          refine lv_lload hx hb d_MenuScreens_sum_56 (lv_at hl 0 rfl) ?_
          refine lv_lconst (v := 0) hx hb d_MenuScreens_sum_58 (by decide) ?_
          refine W.lcmp hx hb d_MenuScreens_sum_59 ?_
          refine lv_if_ne (tgt := 65) hx hb d_MenuScreens_sum_60 (by decide) (fun c6 => ?_) (fun c6 => ?_)
          · skip
            refine lv_iload_n hx hb d_MenuScreens_sum_65 rfl (lv_at hl 4 rfl) ?_
            refine lv_if_ne (tgt := 73) hx hb d_MenuScreens_sum_66 (by decide) (fun c7 => ?_) (fun c7 => ?_)
            · skip
              refine lv_aload_n hx hb d_MenuScreens_sum_73 rfl (lv_at hl 2 rfl) ?_
              refine mv_get C X (xl.get (i := 0) (j := 0) hTop2) 11 f_0_150_3 (v := .long (y 56)) rfl d_MenuScreens_sum_74 ?_
              refine lv_lload hx hb d_MenuScreens_sum_77 (lv_at hl 0 rfl) ?_
              refine lv_ldiv hx hb d_MenuScreens_sum_79 (by
                      have hm1 : 0 < me := Nat.pos_of_ne_zero (fun z => c5 ((lg_cmp_eq _ _).mpr (by rw [hm0, z]; rfl)))
                      have := Nat.gcd_pos_of_pos_right (ce0 * 1000) hm1
                      have g2 := Nat.gcd_le_right (ce0 * 1000) hm1
                      exact fun z => absurd (lN_inj (b := 0) (by omega) (by decide) z) (by omega)) ?_
              exact mq_lret hQ C X hr hlk (⟨rfl, Or.inr (Or.inr (Or.inr ⟨c3, by
                  have hm1 : 0 < me := Nat.pos_of_ne_zero (fun z => c5 ((lg_cmp_eq _ _).mpr (by rw [hm0, z]; rfl)))
                  have g1 := Nat.gcd_pos_of_pos_right (ce0 * 1000) hm1
                  have g2 := Nat.gcd_le_right (ce0 * 1000) hm1
                  exact Or.inr ⟨hm1, Or.inr ⟨c7, by rw [hm0]; exact pk_lDiv (by omega) g1 (by omega)⟩⟩⟩))⟩) (by omega) (by omega) d_MenuScreens_sum_80
            · skip
              refine lv_lload_n hx hb d_MenuScreens_sum_69 rfl (lv_at hl 1 rfl) ?_
              refine lv_goto (tgt := 77) hx hb d_MenuScreens_sum_70 (by decide) ?_
              refine lv_lload hx hb d_MenuScreens_sum_77 (lv_at hl 0 rfl) ?_
              refine lv_ldiv hx hb d_MenuScreens_sum_79 (by
                      have hm1 : 0 < me := Nat.pos_of_ne_zero (fun z => c5 ((lg_cmp_eq _ _).mpr (by rw [hm0, z]; rfl)))
                      have := Nat.gcd_pos_of_pos_right (ce0 * 1000) hm1
                      have g2 := Nat.gcd_le_right (ce0 * 1000) hm1
                      exact fun z => absurd (lN_inj (b := 0) (by omega) (by decide) z) (by omega)) ?_
              exact mq_lret hQ C X hr hlk (⟨rfl, Or.inr (Or.inr (Or.inr ⟨c3, by
                  have hm1 : 0 < me := Nat.pos_of_ne_zero (fun z => c5 ((lg_cmp_eq _ _).mpr (by rw [hm0, z]; rfl)))
                  have g1 := Nat.gcd_pos_of_pos_right (ce0 * 1000) hm1
                  have g2 := Nat.gcd_le_right (ce0 * 1000) hm1
                  exact Or.inr ⟨hm1, Or.inl ⟨c7, pk_lDiv (by omega) g1 (by omega)⟩⟩⟩))⟩) (by omega) (by omega) d_MenuScreens_sum_80
          · skip
            refine lv_lconst (v := 0) hx hb d_MenuScreens_sum_63 (by decide) ?_
            exact mq_lret hQ C X hr hlk (⟨rfl, Or.inr (Or.inr (Or.inr ⟨c3, absurd ((lg_cmp_eq _ _).mp c6) (by
                    have hm1 : 0 < me := Nat.pos_of_ne_zero (fun z => c5 ((lg_cmp_eq _ _).mpr (by rw [hm0, z]; rfl)))
                    have := Nat.gcd_pos_of_pos_right (ce0 * 1000) hm1
                    have g2 := Nat.gcd_le_right (ce0 * 1000) hm1
                    exact fun z => absurd (lN_inj (b := 0) (by omega) (by decide) z) (by omega))⟩))⟩) (by omega) (by omega) d_MenuScreens_sum_64
      · skip
        refine lv_ldc2 (v := (-2)) hx hb C.1.2.2.2.1 (C.1.2.2.2.2 _ (gt_4 224 (by decide +kernel) rfl)) d_MenuScreens_sum_24 ?_
        exact mq_lret hQ C X hr hlk (⟨rfl, Or.inr (Or.inr (Or.inl ⟨⟨c1, c2, c3⟩, rfl⟩))⟩) (by omega) (by omega) d_MenuScreens_sum_27
    · skip
      refine lv_aload_n hx hb d_MenuScreens_sum_14 rfl (lv_at hl 0 rfl) ?_
      refine mv_get C X (xl.get (i := 0) (j := 0) hTop2) 12 f_0_153_3 (v := .long (y 57)) rfl d_MenuScreens_sum_15 ?_
      exact mq_lret hQ C X hr hlk (⟨rfl, Or.inr (Or.inl ⟨c2, rfl⟩)⟩) (by omega) (by omega) d_MenuScreens_sum_18
  · skip
    refine lv_aload_n hx hb d_MenuScreens_sum_4 rfl (lv_at hl 0 rfl) ?_
    refine mv_get C X (xl.get (i := 0) (j := 0) hTop2) 11 f_0_150_3 (v := .long (y 56)) rfl d_MenuScreens_sum_5 ?_
    exact mq_lret hQ C X hr hlk (⟨rfl, Or.inl ⟨c1, rfl⟩⟩) (by omega) (by omega) d_MenuScreens_sum_8
