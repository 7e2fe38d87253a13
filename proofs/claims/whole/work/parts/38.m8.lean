theorem d_MenuScreensModel_sum_0 : decode prog_13_method_41_code 0 = .ok (.aload_n 0, 1) := by decide +kernel
theorem d_MenuScreensModel_sum_1 : decode prog_13_method_41_code 1 = .ok (.iconst 0, 1) := by decide +kernel
theorem d_MenuScreensModel_sum_2 : decode prog_13_method_41_code 2 = .ok (.putfield 127, 3) := by decide +kernel
theorem d_MenuScreensModel_sum_5 : decode prog_13_method_41_code 5 = .ok (.iload_n 1, 1) := by decide +kernel
theorem d_MenuScreensModel_sum_6 : decode prog_13_method_41_code 6 = .ok (.ifCond .lt 8, 3) := by decide +kernel
theorem d_MenuScreensModel_sum_9 : decode prog_13_method_41_code 9 = .ok (.iload_n 1, 1) := by decide +kernel
theorem d_MenuScreensModel_sum_10 : decode prog_13_method_41_code 10 = .ok (.iconst 2, 1) := by decide +kernel
theorem d_MenuScreensModel_sum_11 : decode prog_13_method_41_code 11 = .ok (.if_icmp .le 7, 3) := by decide +kernel
theorem d_MenuScreensModel_sum_14 : decode prog_13_method_41_code 14 = .ok (.ldc2_w 296, 3) := by decide +kernel
theorem d_MenuScreensModel_sum_17 : decode prog_13_method_41_code 17 = .ok (.lreturn, 1) := by decide +kernel
theorem d_MenuScreensModel_sum_18 : decode prog_13_method_41_code 18 = .ok (.iload_n 1, 1) := by decide +kernel
theorem d_MenuScreensModel_sum_19 : decode prog_13_method_41_code 19 = .ok (.iconst 2, 1) := by decide +kernel
theorem d_MenuScreensModel_sum_20 : decode prog_13_method_41_code 20 = .ok (.if_icmp .ge 19, 3) := by decide +kernel
theorem d_MenuScreensModel_sum_23 : decode prog_13_method_41_code 23 = .ok (.iload_n 1, 1) := by decide +kernel
theorem d_MenuScreensModel_sum_24 : decode prog_13_method_41_code 24 = .ok (.ifCond .ne 10, 3) := by decide +kernel
theorem d_MenuScreensModel_sum_27 : decode prog_13_method_41_code 27 = .ok (.aload_n 0, 1) := by decide +kernel
theorem d_MenuScreensModel_sum_28 : decode prog_13_method_41_code 28 = .ok (.getfield 287, 3) := by decide +kernel
theorem d_MenuScreensModel_sum_31 : decode prog_13_method_41_code 31 = .ok (.goto 7, 3) := by decide +kernel
theorem d_MenuScreensModel_sum_34 : decode prog_13_method_41_code 34 = .ok (.aload_n 0, 1) := by decide +kernel
theorem d_MenuScreensModel_sum_35 : decode prog_13_method_41_code 35 = .ok (.getfield 290, 3) := by decide +kernel
theorem d_MenuScreensModel_sum_38 : decode prog_13_method_41_code 38 = .ok (.lreturn, 1) := by decide +kernel
theorem d_MenuScreensModel_sum_39 : decode prog_13_method_41_code 39 = .ok (.aload_n 0, 1) := by decide +kernel
theorem d_MenuScreensModel_sum_40 : decode prog_13_method_41_code 40 = .ok (.getfield 287, 3) := by decide +kernel
theorem d_MenuScreensModel_sum_43 : decode prog_13_method_41_code 43 = .ok (.lconst 0, 1) := by decide +kernel
theorem d_MenuScreensModel_sum_44 : decode prog_13_method_41_code 44 = .ok (.lcmp, 1) := by decide +kernel
theorem d_MenuScreensModel_sum_45 : decode prog_13_method_41_code 45 = .ok (.ifCond .ne 5, 3) := by decide +kernel
theorem d_MenuScreensModel_sum_48 : decode prog_13_method_41_code 48 = .ok (.lconst 0, 1) := by decide +kernel
theorem d_MenuScreensModel_sum_49 : decode prog_13_method_41_code 49 = .ok (.lreturn, 1) := by decide +kernel
theorem d_MenuScreensModel_sum_50 : decode prog_13_method_41_code 50 = .ok (.aload_n 0, 1) := by decide +kernel
theorem d_MenuScreensModel_sum_51 : decode prog_13_method_41_code 51 = .ok (.getfield 290, 3) := by decide +kernel
theorem d_MenuScreensModel_sum_54 : decode prog_13_method_41_code 54 = .ok (.ldc2_w 220, 3) := by decide +kernel
theorem d_MenuScreensModel_sum_57 : decode prog_13_method_41_code 57 = .ok (.lmul, 1) := by decide +kernel
theorem d_MenuScreensModel_sum_58 : decode prog_13_method_41_code 58 = .ok (.lstore_n 3, 1) := by decide +kernel
theorem d_MenuScreensModel_sum_59 : decode prog_13_method_41_code 59 = .ok (.aload_n 0, 1) := by decide +kernel
theorem d_MenuScreensModel_sum_60 : decode prog_13_method_41_code 60 = .ok (.getfield 287, 3) := by decide +kernel
theorem d_MenuScreensModel_sum_63 : decode prog_13_method_41_code 63 = .ok (.lstore 5, 2) := by decide +kernel
theorem d_MenuScreensModel_sum_65 : decode prog_13_method_41_code 65 = .ok (.lload 5, 2) := by decide +kernel
theorem d_MenuScreensModel_sum_67 : decode prog_13_method_41_code 67 = .ok (.lconst 0, 1) := by decide +kernel
theorem d_MenuScreensModel_sum_68 : decode prog_13_method_41_code 68 = .ok (.lcmp, 1) := by decide +kernel
theorem d_MenuScreensModel_sum_69 : decode prog_13_method_41_code 69 = .ok (.ifCond .le 19, 3) := by decide +kernel
theorem d_MenuScreensModel_sum_72 : decode prog_13_method_41_code 72 = .ok (.lload_n 3, 1) := by decide +kernel
theorem d_MenuScreensModel_sum_73 : decode prog_13_method_41_code 73 = .ok (.lload 5, 2) := by decide +kernel
theorem d_MenuScreensModel_sum_75 : decode prog_13_method_41_code 75 = .ok (.lrem, 1) := by decide +kernel
theorem d_MenuScreensModel_sum_76 : decode prog_13_method_41_code 76 = .ok (.lstore 7, 2) := by decide +kernel
theorem d_MenuScreensModel_sum_78 : decode prog_13_method_41_code 78 = .ok (.lload 5, 2) := by decide +kernel
theorem d_MenuScreensModel_sum_80 : decode prog_13_method_41_code 80 = .ok (.lstore_n 3, 1) := by decide +kernel
theorem d_MenuScreensModel_sum_81 : decode prog_13_method_41_code 81 = .ok (.lload 7, 2) := by decide +kernel
theorem d_MenuScreensModel_sum_83 : decode prog_13_method_41_code 83 = .ok (.lstore 5, 2) := by decide +kernel
theorem d_MenuScreensModel_sum_85 : decode prog_13_method_41_code 85 = .ok (.goto (-20), 3) := by decide +kernel
theorem d_MenuScreensModel_sum_88 : decode prog_13_method_41_code 88 = .ok (.iload_n 2, 1) := by decide +kernel
theorem d_MenuScreensModel_sum_89 : decode prog_13_method_41_code 89 = .ok (.ifCond .ne 16, 3) := by decide +kernel
theorem d_MenuScreensModel_sum_92 : decode prog_13_method_41_code 92 = .ok (.aload_n 0, 1) := by decide +kernel
theorem d_MenuScreensModel_sum_93 : decode prog_13_method_41_code 93 = .ok (.getfield 290, 3) := by decide +kernel
theorem d_MenuScreensModel_sum_96 : decode prog_13_method_41_code 96 = .ok (.ldc2_w 220, 3) := by decide +kernel
theorem d_MenuScreensModel_sum_99 : decode prog_13_method_41_code 99 = .ok (.lmul, 1) := by decide +kernel
theorem d_MenuScreensModel_sum_100 : decode prog_13_method_41_code 100 = .ok (.lload_n 3, 1) := by decide +kernel
theorem d_MenuScreensModel_sum_101 : decode prog_13_method_41_code 101 = .ok (.ldiv, 1) := by decide +kernel
theorem d_MenuScreensModel_sum_102 : decode prog_13_method_41_code 102 = .ok (.goto 9, 3) := by decide +kernel
theorem d_MenuScreensModel_sum_105 : decode prog_13_method_41_code 105 = .ok (.aload_n 0, 1) := by decide +kernel
theorem d_MenuScreensModel_sum_106 : decode prog_13_method_41_code 106 = .ok (.getfield 287, 3) := by decide +kernel
theorem d_MenuScreensModel_sum_109 : decode prog_13_method_41_code 109 = .ok (.lload_n 3, 1) := by decide +kernel
theorem d_MenuScreensModel_sum_110 : decode prog_13_method_41_code 110 = .ok (.ldiv, 1) := by decide +kernel
theorem d_MenuScreensModel_sum_111 : decode prog_13_method_41_code 111 = .ok (.lreturn, 1) := by decide +kernel
set_option maxRecDepth 100000 in
set_option maxHeartbeats 4000000 in
theorem cm_MenuScreensModel_sum {l : Launch} {S0 : State} {b : Nat} {D : va_G} {dT : Nat → ClassId} (hE : vEnv S0 b D dT) {h0 : vH} {a : Nat} {ar : Nat → Nat} {x : Nat → Int32} {y : Nat → Int64} {A : Nat → Nat → Int32} {B : Nat → Nat → Int64} (M : MV S0 dT h0 a ar x y A B) (p1 : Int32) (p2 : Int32) {me ce : Nat} (hm : y 56 = lN me) (hc : y 57 = lN ce) (hm2 : me ≤ 1000000000000) (hc2 : ce ≤ 1000000000000) : vMl l S0 D vcl GT y_MenuScreensModel_sum prog_13_method_41_code 9 (some .long) 0 0 0 0 [.ref a, .int p1, .int p2] h0 (fun r h' => ∃ x', MR S0 dT h0 h' a ar x' y A B ∧ x' = upd x 0 0 ∧ ((p1 < 0 ∨ 2 < p1) ∧ r = -2 ∨ p1 = 0 ∧ r = y 56 ∨ p1 = 1 ∧ r = y 57 ∨ p1 = 2 ∧ (me = 0 ∧ r = 0 ∨ 0 < me ∧ (p2 = 0 ∧ r = lN (ce * 1000 / Nat.gcd (ce * 1000) me) ∨ ¬ p2 = 0 ∧ r = lN (me / Nat.gcd (ce * 1000) me))))) := by
  unfold vMl
  refine vM_ofQ hE.1 (by decide) (Nat.le_of_ble_eq_true rfl) (fun p e s m args below meth c ls Q hQ C hr hlk hnm X hl => ?_)
  have C : vC p s m _ c _ _ "MenuScreensModel" GT D vcl (vty dT) := C
  have hx := C.1.1
  have hb := C.1.2.1
  replace M := MR.of M
  obtain ⟨H, eH⟩ : ∃ z, z = s.heap := ⟨_, rfl⟩
  obtain ⟨locs, elocs⟩ : ∃ z : List Loc, z = [] := ⟨_, rfl⟩
  rw [← eH, ← elocs] at X
  rw [← eH, ← elocs]
  clear eH elocs
  have hl : lv_has ls 9 [(0, .ref a), (1, .int p1), (2, .int p2)] := hl
  refine lv_aload_n hx hb d_MenuScreensModel_sum_0 rfl (lv_at hl 0 rfl) ?_
  refine lv_iconst (v := 0) hx hb d_MenuScreensModel_sum_1 (by decide) ?_
  refine mm_put C X M 0 p_12_127_13 (upd x 0 0) y rfl rfl rfl (by decide) d_MenuScreensModel_sum_2 (fun h H locs X M => ?_)
  refine lv_iload_n hx hb d_MenuScreensModel_sum_5 rfl (lv_at hl 1 rfl) ?_
  refine lv_if_lt (tgt := 14) hx hb d_MenuScreensModel_sum_6 (by decide) (fun c1 => ?_) (fun c1 => ?_)
  · skip
    refine lv_ldc2 (v := (-2)) hx hb C.1.2.2.2.1 (C.1.2.2.2.2 _ (gt_6 133 (by decide +kernel) rfl)) d_MenuScreensModel_sum_14 ?_
    exact mq_lret hQ C X hr hlk (⟨(upd x 0 0), M, rfl, Or.inl ⟨by clear X C hl hr; simp_all, rfl⟩⟩) (Nat.le_refl _) (Nat.le_refl _) d_MenuScreensModel_sum_17
  · skip
    refine lv_iload_n hx hb d_MenuScreensModel_sum_9 rfl (lv_at hl 1 rfl) ?_
    refine lv_iconst (v := 2) hx hb d_MenuScreensModel_sum_10 (by decide) ?_
    refine lv_icmp_le (tgt := 18) hx hb d_MenuScreensModel_sum_11 (by decide) (fun c2 => ?_) (fun c2 => ?_)
    · skip
      refine lv_iload_n hx hb d_MenuScreensModel_sum_18 rfl (lv_at hl 1 rfl) ?_
      refine lv_iconst (v := 2) hx hb d_MenuScreensModel_sum_19 (by decide) ?_
      refine lv_icmp_ge (tgt := 39) hx hb d_MenuScreensModel_sum_20 (by decide) (fun c3 => ?_) (fun c3 => ?_)
      · skip
        refine lv_aload_n hx hb d_MenuScreensModel_sum_39 rfl (lv_at hl 0 rfl) ?_
        refine mm_get C X M 56 f_12_287_13 (.long (y 56)) rfl d_MenuScreensModel_sum_40 ?_
        refine lv_lconst (v := 0) hx hb d_MenuScreensModel_sum_43 (by decide) ?_
        refine W.lcmp hx hb d_MenuScreensModel_sum_44 ?_
        refine lv_if_ne (tgt := 50) hx hb d_MenuScreensModel_sum_45 (by decide) (fun c4 => ?_) (fun c4 => ?_)
        · skip
          have hm0 : 0 < me := by
            rcases Nat.eq_zero_or_pos me with z | z
            · exact absurd ((lg_cmp_eq _ _).mpr (by rw [hm, z]; rfl)) c4
            · exact z
          refine lv_aload_n hx hb d_MenuScreensModel_sum_50 rfl (lv_at hl 0 rfl) ?_
          refine mm_get C X M 57 f_12_290_13 (.long (y 57)) rfl d_MenuScreensModel_sum_51 ?_
          refine lv_ldc2 (v := 1000) hx hb C.1.2.2.2.1 (C.1.2.2.2.2 _ (gt_6 36 (by decide +kernel) rfl)) d_MenuScreensModel_sum_54 ?_
          refine lv_lmul hx hb d_MenuScreensModel_sum_57 ?_
          refine lv_lstore_n (lv' := [(3, .long ((y 57) * 1000)), (0, .ref a), (1, .int p1), (2, .int p2)]) hx hb d_MenuScreensModel_sum_58 rfl hl (by decide) rfl (fun ls hl => ?_)
          refine lv_aload_n hx hb d_MenuScreensModel_sum_59 rfl (lv_at hl 1 rfl) ?_
          refine mm_get C X M 56 f_12_287_13 (.long (y 56)) rfl d_MenuScreensModel_sum_60 ?_
          refine lv_lstore (lv' := [(5, .long (y 56)), (3, .long ((y 57) * 1000)), (0, .ref a), (1, .int p1), (2, .int p2)]) hx hb d_MenuScreensModel_sum_63 hl (by decide) rfl (fun ls hl => ?_)
          have lp : ∀ (n_lp : Nat) (g1 : Nat) (g2 : Nat) (u : Int64) (v : Int64) (ls : Array Slot), (u = lN g1) → (v = lN g2) → (g1 ≤ 1000000000000000) → (g2 ≤ 1000000000000000) → (Nat.gcd g1 g2 = Nat.gcd (ce * 1000) me) → (g2) < n_lp → lv_has ls 9 [(0, .ref a), (1, .int p1), (2, .int p2), (3, .long u), (5, .long v)] → W p l e (vRm 0 0 0 0) s m args below meth c H locs 0 0 Q (F0 m 65 ls []) := by
            intro n_lp
            induction n_lp with
            | zero => intros; exact absurd (by assumption) (Nat.not_lt_zero _)
            | succ n_lp ih_lp =>
              intro g1 g2 u v ls eu ev hp hq hg hmu_lp hl
              refine lv_lload hx hb d_MenuScreensModel_sum_65 (lv_at hl 4 rfl) ?_
              refine lv_lconst (v := 0) hx hb d_MenuScreensModel_sum_67 (by decide) ?_
              refine W.lcmp hx hb d_MenuScreensModel_sum_68 ?_
              refine lv_if_le (tgt := 88) hx hb d_MenuScreensModel_sum_69 (by decide) (fun c5 => ?_) (fun c5 => ?_)
              · skip
                have hq0 : g2 = 0 := by
                  rcases Nat.eq_zero_or_pos g2 with z | z
                  · exact z
                  · have := (lg_cmp_le _ _).mp c5
                    rw [ev, ← lN_0] at this
                    have := (pk_lLE (by omega) (by decide)).mp this
                    omega
                rw [hq0, Nat.gcd_zero_right] at hg
                have hg0 : 0 < g1 := by rw [hg]; exact Nat.gcd_pos_of_pos_right _ hm0
                have hun : ¬ u = 0 := by
                  rw [eu, ← lN_0]
                  intro z
                  have := (pk_lEQ (by omega) (by decide)).mp z
                  omega
                refine lv_iload_n hx hb d_MenuScreensModel_sum_88 rfl (lv_at hl 2 rfl) ?_
                refine lv_if_ne (tgt := 105) hx hb d_MenuScreensModel_sum_89 (by decide) (fun c6 => ?_) (fun c6 => ?_)
                · skip
                  refine lv_aload_n hx hb d_MenuScreensModel_sum_105 rfl (lv_at hl 0 rfl) ?_
                  refine mm_get C X M 56 f_12_287_13 (.long (y 56)) rfl d_MenuScreensModel_sum_106 ?_
                  refine lv_lload_n hx hb d_MenuScreensModel_sum_109 rfl (lv_at hl 3 rfl) ?_
                  refine lv_ldiv hx hb d_MenuScreensModel_sum_110 hun ?_
                  exact mq_lret hQ C X hr hlk (⟨(upd x 0 0), M, rfl, Or.inr (Or.inr (Or.inr ⟨by
                      obtain ⟨j, hj, ej⟩ := ix_lt (n := 3) c1 (Int32.lt_of_le_of_lt c2 (by decide)) (by decide)
                      have := (nI_leI (a := 2) (b := j) (by decide) (by omega)).mp (by rw [← ej]; exact c3)
                      rw [ej, show j = 2 by omega]; rfl, Or.inr ⟨hm0, Or.inr ⟨c6, by
                        rw [eu, ← hg, hm]
                        exact pk_lDiv (by omega) hg0 (by omega)⟩⟩⟩))⟩) (Nat.le_refl _) (Nat.le_refl _) d_MenuScreensModel_sum_111
                · skip
                  refine lv_aload_n hx hb d_MenuScreensModel_sum_92 rfl (lv_at hl 0 rfl) ?_
                  refine mm_get C X M 57 f_12_290_13 (.long (y 57)) rfl d_MenuScreensModel_sum_93 ?_
                  refine lv_ldc2 (v := 1000) hx hb C.1.2.2.2.1 (C.1.2.2.2.2 _ (gt_6 36 (by decide +kernel) rfl)) d_MenuScreensModel_sum_96 ?_
                  refine lv_lmul hx hb d_MenuScreensModel_sum_99 ?_
                  refine lv_lload_n hx hb d_MenuScreensModel_sum_100 rfl (lv_at hl 3 rfl) ?_
                  refine lv_ldiv hx hb d_MenuScreensModel_sum_101 hun ?_
                  refine lv_goto (tgt := 111) hx hb d_MenuScreensModel_sum_102 (by decide) ?_
                  exact mq_lret hQ C X hr hlk (⟨(upd x 0 0), M, rfl, Or.inr (Or.inr (Or.inr ⟨by
                      obtain ⟨j, hj, ej⟩ := ix_lt (n := 3) c1 (Int32.lt_of_le_of_lt c2 (by decide)) (by decide)
                      have := (nI_leI (a := 2) (b := j) (by decide) (by omega)).mp (by rw [← ej]; exact c3)
                      rw [ej, show j = 2 by omega]; rfl, Or.inr ⟨hm0, Or.inl ⟨c6, by
                        rw [eu, ← hg, show y 57 * 1000 = lN (ce * 1000) by rw [hc]; exact lN_mul ce 1000]
                        exact pk_lDiv (by omega) hg0 (by omega)⟩⟩⟩))⟩) (Nat.le_refl _) (Nat.le_refl _) d_MenuScreensModel_sum_111
              · skip
                have hq0 : 0 < g2 := by
                  rcases Nat.eq_zero_or_pos g2 with z | z
                  · exact absurd ((lg_cmp_le _ _).mpr (by rw [ev, z]; decide)) c5
                  · exact z
                refine lv_lload_n hx hb d_MenuScreensModel_sum_72 rfl (lv_at hl 3 rfl) ?_
                refine lv_lload hx hb d_MenuScreensModel_sum_73 (lv_at hl 4 rfl) ?_
                refine lv_lrem hx hb d_MenuScreensModel_sum_75 (by rw [ev, ← lN_0]; intro z; have := (pk_lEQ (by omega) (by decide)).mp z; omega) ?_
                refine lv_lstore (lv' := [(7, .long (u - (u / v) * v)), (0, .ref a), (1, .int p1), (2, .int p2), (3, .long u), (5, .long v)]) hx hb d_MenuScreensModel_sum_76 hl (by decide) rfl (fun ls hl => ?_)
                refine lv_lload hx hb d_MenuScreensModel_sum_78 (lv_at hl 5 rfl) ?_
                refine lv_lstore_n (lv' := [(3, .long v), (7, .long (u - (u / v) * v)), (0, .ref a), (1, .int p1), (2, .int p2), (5, .long v)]) hx hb d_MenuScreensModel_sum_80 rfl hl (by decide) rfl (fun ls hl => ?_)
                refine lv_lload hx hb d_MenuScreensModel_sum_81 (lv_at hl 1 rfl) ?_
                refine lv_lstore (lv' := [(5, .long (u - (u / v) * v)), (3, .long v), (7, .long (u - (u / v) * v)), (0, .ref a), (1, .int p1), (2, .int p2)]) hx hb d_MenuScreensModel_sum_83 hl (by decide) rfl (fun ls hl => ?_)
                refine lv_goto (tgt := 65) hx hb d_MenuScreensModel_sum_85 (by decide) ?_
                exact ih_lp g2 (g1 % g2) v (u - (u / v) * v) ls  ev (by rw [eu, ev]; exact pk_lRem (by omega) hq0 (by omega)) hq (by have := Nat.mod_lt g1 hq0; omega) ((gcd_st g1 g2).trans hg) (by have := Nat.mod_lt g1 hq0; omega) (lv_sub hl [3, 4, 5, 1, 0] rfl)
          exact lp (me + 1) (ce * 1000) me (y 57 * 1000) (y 56) ls  (by rw [hc]; exact lN_mul ce 1000) hm (by omega) (by omega) rfl (Nat.lt_succ_self _) (lv_sub hl [2, 3, 4, 1, 0] rfl)
        · skip
          refine lv_lconst (v := 0) hx hb d_MenuScreensModel_sum_48 (by decide) ?_
          exact mq_lret hQ C X hr hlk (⟨(upd x 0 0), M, rfl, Or.inr (Or.inr (Or.inr ⟨by
              obtain ⟨j, hj, ej⟩ := ix_lt (n := 3) c1 (Int32.lt_of_le_of_lt c2 (by decide)) (by decide)
              have := (nI_leI (a := 2) (b := j) (by decide) (by omega)).mp (by rw [← ej]; exact c3)
              rw [ej, show j = 2 by omega]; rfl, Or.inl ⟨by
              have := (lg_cmp_eq _ _).mp c4
              rw [hm, ← lN_0] at this
              exact (pk_lEQ (by omega) (by decide)).mp this, rfl⟩⟩))⟩) (Nat.le_refl _) (Nat.le_refl _) d_MenuScreensModel_sum_49
      · skip
        refine lv_iload_n hx hb d_MenuScreensModel_sum_23 rfl (lv_at hl 1 rfl) ?_
        refine lv_if_ne (tgt := 34) hx hb d_MenuScreensModel_sum_24 (by decide) (fun c7 => ?_) (fun c7 => ?_)
        · skip
          refine lv_aload_n hx hb d_MenuScreensModel_sum_34 rfl (lv_at hl 0 rfl) ?_
          refine mm_get C X M 57 f_12_290_13 (.long (y 57)) rfl d_MenuScreensModel_sum_35 ?_
          exact mq_lret hQ C X hr hlk (⟨(upd x 0 0), M, rfl, Or.inr (Or.inr (Or.inl ⟨by
              obtain ⟨j, hj, ej⟩ := ix_lt (n := 2) c1 (Int32.not_le.mp c3) (by decide)
              have : j ≠ 0 := fun z => c7 (by rw [ej, z]; rfl)
              rw [ej, show j = 1 by omega]; rfl, rfl⟩))⟩) (Nat.le_refl _) (Nat.le_refl _) d_MenuScreensModel_sum_38
        · skip
          refine lv_aload_n hx hb d_MenuScreensModel_sum_27 rfl (lv_at hl 0 rfl) ?_
          refine mm_get C X M 56 f_12_287_13 (.long (y 56)) rfl d_MenuScreensModel_sum_28 ?_
          refine lv_goto (tgt := 38) hx hb d_MenuScreensModel_sum_31 (by decide) ?_
          exact mq_lret hQ C X hr hlk (⟨(upd x 0 0), M, rfl, Or.inr (Or.inl ⟨c7, rfl⟩)⟩) (Nat.le_refl _) (Nat.le_refl _) d_MenuScreensModel_sum_38
    · skip
      refine lv_ldc2 (v := (-2)) hx hb C.1.2.2.2.1 (C.1.2.2.2.2 _ (gt_6 133 (by decide +kernel) rfl)) d_MenuScreensModel_sum_14 ?_
      exact mq_lret hQ C X hr hlk (⟨(upd x 0 0), M, rfl, Or.inl ⟨by clear X C hl hr; simp_all, rfl⟩⟩) (Nat.le_refl _) (Nat.le_refl _) d_MenuScreensModel_sum_17
theorem d_MenuScreensModel_sign_0 : decode prog_13_method_3_code 0 = .ok (.aload_n 0, 1) := by decide +kernel
theorem d_MenuScreensModel_sign_1 : decode prog_13_method_3_code 1 = .ok (.iconst 0, 1) := by decide +kernel
theorem d_MenuScreensModel_sign_2 : decode prog_13_method_3_code 2 = .ok (.putfield 127, 3) := by decide +kernel
theorem d_MenuScreensModel_sign_5 : decode prog_13_method_3_code 5 = .ok (.iconst 0, 1) := by decide +kernel
theorem d_MenuScreensModel_sign_6 : decode prog_13_method_3_code 6 = .ok (.istore_n 2, 1) := by decide +kernel
theorem d_MenuScreensModel_sign_7 : decode prog_13_method_3_code 7 = .ok (.iload_n 2, 1) := by decide +kernel
theorem d_MenuScreensModel_sign_8 : decode prog_13_method_3_code 8 = .ok (.iconst 4, 1) := by decide +kernel
theorem d_MenuScreensModel_sign_9 : decode prog_13_method_3_code 9 = .ok (.if_icmp .ge 66, 3) := by decide +kernel
theorem d_MenuScreensModel_sign_12 : decode prog_13_method_3_code 12 = .ok (.iload_n 1, 1) := by decide +kernel
theorem d_MenuScreensModel_sign_13 : decode prog_13_method_3_code 13 = .ok (.bipush 24, 2) := by decide +kernel
theorem d_MenuScreensModel_sign_15 : decode prog_13_method_3_code 15 = .ok (.bipush 8, 2) := by decide +kernel
theorem d_MenuScreensModel_sign_17 : decode prog_13_method_3_code 17 = .ok (.iload_n 2, 1) := by decide +kernel
theorem d_MenuScreensModel_sign_18 : decode prog_13_method_3_code 18 = .ok (.imul, 1) := by decide +kernel
theorem d_MenuScreensModel_sign_19 : decode prog_13_method_3_code 19 = .ok (.isub, 1) := by decide +kernel
theorem d_MenuScreensModel_sign_20 : decode prog_13_method_3_code 20 = .ok (.ishr, 1) := by decide +kernel
theorem d_MenuScreensModel_sign_21 : decode prog_13_method_3_code 21 = .ok (.sipush 255, 3) := by decide +kernel
theorem d_MenuScreensModel_sign_24 : decode prog_13_method_3_code 24 = .ok (.iand, 1) := by decide +kernel
theorem d_MenuScreensModel_sign_25 : decode prog_13_method_3_code 25 = .ok (.istore_n 3, 1) := by decide +kernel
theorem d_MenuScreensModel_sign_26 : decode prog_13_method_3_code 26 = .ok (.iload_n 3, 1) := by decide +kernel
theorem d_MenuScreensModel_sign_27 : decode prog_13_method_3_code 27 = .ok (.ifCond .eq 42, 3) := by decide +kernel
theorem d_MenuScreensModel_sign_30 : decode prog_13_method_3_code 30 = .ok (.iload_n 3, 1) := by decide +kernel
theorem d_MenuScreensModel_sign_31 : decode prog_13_method_3_code 31 = .ok (.bipush 127, 2) := by decide +kernel
theorem d_MenuScreensModel_sign_33 : decode prog_13_method_3_code 33 = .ok (.if_icmp .gt 36, 3) := by decide +kernel
theorem d_MenuScreensModel_sign_36 : decode prog_13_method_3_code 36 = .ok (.aload_n 0, 1) := by decide +kernel
theorem d_MenuScreensModel_sign_37 : decode prog_13_method_3_code 37 = .ok (.getfield 130, 3) := by decide +kernel
theorem d_MenuScreensModel_sign_40 : decode prog_13_method_3_code 40 = .ok (.sipush 4000, 3) := by decide +kernel
theorem d_MenuScreensModel_sign_43 : decode prog_13_method_3_code 43 = .ok (.if_icmp .ne 6, 3) := by decide +kernel
theorem d_MenuScreensModel_sign_46 : decode prog_13_method_3_code 46 = .ok (.goto 23, 3) := by decide +kernel
theorem d_MenuScreensModel_sign_49 : decode prog_13_method_3_code 49 = .ok (.aload_n 0, 1) := by decide +kernel
theorem d_MenuScreensModel_sign_50 : decode prog_13_method_3_code 50 = .ok (.getfield 7, 3) := by decide +kernel
theorem d_MenuScreensModel_sign_53 : decode prog_13_method_3_code 53 = .ok (.aload_n 0, 1) := by decide +kernel
theorem d_MenuScreensModel_sign_54 : decode prog_13_method_3_code 54 = .ok (.getfield 130, 3) := by decide +kernel
theorem d_MenuScreensModel_sign_57 : decode prog_13_method_3_code 57 = .ok (.iload_n 3, 1) := by decide +kernel
theorem d_MenuScreensModel_sign_58 : decode prog_13_method_3_code 58 = .ok (.iastore, 1) := by decide +kernel
theorem d_MenuScreensModel_sign_59 : decode prog_13_method_3_code 59 = .ok (.aload_n 0, 1) := by decide +kernel
theorem d_MenuScreensModel_sign_60 : decode prog_13_method_3_code 60 = .ok (.dup, 1) := by decide +kernel
theorem d_MenuScreensModel_sign_61 : decode prog_13_method_3_code 61 = .ok (.getfield 130, 3) := by decide +kernel
theorem d_MenuScreensModel_sign_64 : decode prog_13_method_3_code 64 = .ok (.iconst 1, 1) := by decide +kernel
theorem d_MenuScreensModel_sign_65 : decode prog_13_method_3_code 65 = .ok (.iadd, 1) := by decide +kernel
theorem d_MenuScreensModel_sign_66 : decode prog_13_method_3_code 66 = .ok (.putfield 130, 3) := by decide +kernel
theorem d_MenuScreensModel_sign_69 : decode prog_13_method_3_code 69 = .ok (.iinc 2 1, 3) := by decide +kernel
theorem d_MenuScreensModel_sign_72 : decode prog_13_method_3_code 72 = .ok (.goto (-65), 3) := by decide +kernel
theorem d_MenuScreensModel_sign_75 : decode prog_13_method_3_code 75 = .ok (.return_, 1) := by decide +kernel
set_option maxRecDepth 100000 in
set_option maxHeartbeats 4000000 in
theorem cm_MenuScreensModel_sign {l : Launch} {S0 : State} {b : Nat} {D : va_G} {dT : Nat → ClassId} (hE : vEnv S0 b D dT) {h0 : vH} {a : Nat} {ar : Nat → Nat} {x : Nat → Int32} {y : Nat → Int64} {A : Nat → Nat → Int32} {B : Nat → Nat → Int64} (M : MV S0 dT h0 a ar x y A B) (p1 : Int32) {n0 : Nat} (hn0 : x 3 = nI n0) (hn1 : n0 ≤ 4000) : vMv l S0 D vcl GT y_MenuScreensModel_sign prog_13_method_3_code 4 none 0 0 0 0 [.ref a, .int p1] h0 (fun h' => ∃ x' A', MR S0 dT h0 h' a ar x' y A' B ∧ x' = upd (upd x 0 0) 3 (nI (sgN p1 n0 (A 4) 4).1) ∧ A' = va_up A 4 (sgN p1 n0 (A 4) 4).2) := by
  unfold vMv
  refine vM_ofQ hE.1 (by decide) (Nat.le_of_ble_eq_true rfl) (fun p e s m args below meth c ls Q hQ C hr hlk hnm X hl => ?_)
  have C : vC p s m _ c _ _ "MenuScreensModel" GT D vcl (vty dT) := C
  have hx := C.1.1
  have hb := C.1.2.1
  replace M := MR.of M
  obtain ⟨H, eH⟩ : ∃ z, z = s.heap := ⟨_, rfl⟩
  obtain ⟨locs, elocs⟩ : ∃ z : List Loc, z = [] := ⟨_, rfl⟩
  rw [← eH, ← elocs] at X
  rw [← eH, ← elocs]
  clear eH elocs
  have hl : lv_has ls 4 [(0, .ref a), (1, .int p1)] := hl
  refine lv_aload_n hx hb d_MenuScreensModel_sign_0 rfl (lv_at hl 0 rfl) ?_
  refine lv_iconst (v := 0) hx hb d_MenuScreensModel_sign_1 (by decide) ?_
  refine mm_put C X M 0 p_12_127_13 (upd x 0 0) y rfl rfl rfl (by decide) d_MenuScreensModel_sign_2 (fun h H locs X M => ?_)
  refine lv_iconst (v := 0) hx hb d_MenuScreensModel_sign_5 (by decide) ?_
  refine lv_istore_n (lv' := [(2, .int 0), (0, .ref a), (1, .int p1)]) hx hb d_MenuScreensModel_sign_6 rfl hl (by decide) rfl (fun ls hl => ?_)
  rw [← va_up_id A 4] at M
  have lp : ∀ (n_lp : Nat) (k : Nat) (n : Nat) (t : Nat → Int32) (i3 : Int32) (i : Int32) (ls : Array Slot) (h : vH) (H : Heap) (locs : List Loc), (i = nI k) → (k ≤ 4) → (i3 = nI n) → (n ≤ 4000) → (sgN p1 n0 (A 4) k = (n, t)) → (4 - k) < n_lp → vO S0 D vcl h s H locs → MR S0 dT h0 h a ar (upd (upd x 0 0) 3 i3) y (va_up A 4 t) B → lv_has ls 4 [(0, .ref a), (1, .int p1), (2, .int i)] → W p l e (vRm 0 0 0 0) s m args below meth c H locs 0 0 Q (F0 m 7 ls []) := by
    intro n_lp
    induction n_lp with
    | zero => intros; exact absurd (by assumption) (Nat.not_lt_zero _)
    | succ n_lp ih_lp =>
      intro k n t i3 i ls h H locs ei hk e3 hn hs hmu_lp X M hl
      refine lv_iload_n hx hb d_MenuScreensModel_sign_7 rfl (lv_at hl 2 rfl) ?_
      refine lv_iconst (v := 4) hx hb d_MenuScreensModel_sign_8 (by decide) ?_
      refine lv_icmp_ge (tgt := 75) hx hb d_MenuScreensModel_sign_9 (by decide) (fun c1 => ?_) (fun c1 => ?_)
      · skip
        exact mq_vret hQ C X hr hlk (⟨_, _, M, by
            have : k = 4 := by
              have := (nI_leI (a := 4) (b := k) (by decide) (by omega)).mp (by rw [← ei]; exact c1)
              omega
            rw [this] at hs
            rw [hs, e3], by
            have : k = 4 := by
              have := (nI_leI (a := 4) (b := k) (by decide) (by omega)).mp (by rw [← ei]; exact c1)
              omega
            rw [this] at hs
            rw [hs]⟩) (Nat.le_refl _) (Nat.le_refl _) d_MenuScreensModel_sign_75
      · skip
        have hlt : k < 4 := by
          rcases Nat.lt_or_ge k 4 with q | q
          · exact q
          · exact absurd (by rw [ei]; exact nI_le (a := 4) q (by omega)) c1
        refine lv_iload_n hx hb d_MenuScreensModel_sign_12 rfl (lv_at hl 1 rfl) ?_
        refine lv_bipush (v := 24) hx hb d_MenuScreensModel_sign_13 (by decide) ?_
        refine lv_bipush (v := 8) hx hb d_MenuScreensModel_sign_15 (by decide) ?_
        refine lv_iload_n hx hb d_MenuScreensModel_sign_17 rfl (lv_at hl 2 rfl) ?_
        refine lv_imul hx hb d_MenuScreensModel_sign_18 ?_
        refine lv_isub hx hb d_MenuScreensModel_sign_19 ?_
        refine lv_ishr hx hb d_MenuScreensModel_sign_20 ?_
        refine lv_sipush (v := 255) hx hb d_MenuScreensModel_sign_21 (by decide) ?_
        refine lv_iand hx hb d_MenuScreensModel_sign_24 ?_
        refine lv_istore_n (lv' := [(3, .int ((p1 >>> ((24 - (8 * i)) &&& 31)) &&& 255)), (0, .ref a), (1, .int p1), (2, .int i)]) hx hb d_MenuScreensModel_sign_25 rfl hl (by decide) rfl (fun ls hl => ?_)
        refine lv_iload_n hx hb d_MenuScreensModel_sign_26 rfl (lv_at hl 0 rfl) ?_
        refine lv_if_eq (tgt := 69) hx hb d_MenuScreensModel_sign_27 (by decide) (fun c2 => ?_) (fun c2 => ?_)
        · skip
          refine lv_iinc (v := (i + 1)) (lv' := [(2, .int (i + 1)), (3, .int ((p1 >>> ((24 - (8 * i)) &&& 31)) &&& 255)), (0, .ref a), (1, .int p1)]) hx hb d_MenuScreensModel_sign_69 hl (k := 3) rfl rfl (by decide) rfl (fun ls hl => ?_)
          refine lv_goto (tgt := 7) hx hb d_MenuScreensModel_sign_72 (by decide) ?_
          exact ih_lp (k + 1) n t i3 (i + 1) ls _ _ _ (by rw [ei]; exact nI_1 _) (by omega) e3 (by omega) (by
              have eb : byt p1 k = ((p1 >>> ((24 - (8 * i)) &&& 31)) &&& 255) := by unfold byt; rw [← ei]
              rw [sgN, if_pos (Or.inl (eb.trans c2))]; exact hs) (by omega) X M (lv_sub hl [2, 3, 0] rfl)
        · skip
          refine lv_iload_n hx hb d_MenuScreensModel_sign_30 rfl (lv_at hl 0 rfl) ?_
          refine lv_bipush (v := 127) hx hb d_MenuScreensModel_sign_31 (by decide) ?_
          refine lv_icmp_gt (tgt := 69) hx hb d_MenuScreensModel_sign_33 (by decide) (fun c3 => ?_) (fun c3 => ?_)
          · skip
            refine lv_iinc (v := (i + 1)) (lv' := [(2, .int (i + 1)), (3, .int ((p1 >>> ((24 - (8 * i)) &&& 31)) &&& 255)), (0, .ref a), (1, .int p1)]) hx hb d_MenuScreensModel_sign_69 hl (k := 3) rfl rfl (by decide) rfl (fun ls hl => ?_)
            refine lv_goto (tgt := 7) hx hb d_MenuScreensModel_sign_72 (by decide) ?_
            exact ih_lp (k + 1) n t i3 (i + 1) ls _ _ _ (by rw [ei]; exact nI_1 _) (by omega) e3 (by omega) (by
                have eb : byt p1 k = ((p1 >>> ((24 - (8 * i)) &&& 31)) &&& 255) := by unfold byt; rw [← ei]
                rw [sgN, if_pos (Or.inr (Or.inl (by rw [eb]; exact c3)))]; exact hs) (by omega) X M (lv_sub hl [2, 3, 0] rfl)
          · skip
            refine lv_aload_n hx hb d_MenuScreensModel_sign_36 rfl (lv_at hl 1 rfl) ?_
            refine mm_get C X M 3 f_12_130_13 (.int i3) rfl d_MenuScreensModel_sign_37 ?_
            refine lv_sipush (v := 4000) hx hb d_MenuScreensModel_sign_40 (by decide) ?_
            refine lv_icmp_ne (tgt := 49) hx hb d_MenuScreensModel_sign_43 (by decide) (fun c4 => ?_) (fun c4 => ?_)
            · skip
              have hn4 : n ≠ 4000 := fun z => c4 (by rw [e3, z]; rfl)
              refine lv_aload_n hx hb d_MenuScreensModel_sign_49 rfl (lv_at hl 1 rfl) ?_
              refine mm_get C X M 4 f_12_7_13 (.ref (ar 4)) rfl d_MenuScreensModel_sign_50 ?_
              refine lv_aload_n hx hb d_MenuScreensModel_sign_53 rfl (lv_at hl 1 rfl) ?_
              refine mm_get C X M 3 f_12_130_13 (.int i3) rfl d_MenuScreensModel_sign_54 ?_
              refine lv_iload_n hx hb d_MenuScreensModel_sign_57 rfl (lv_at hl 0 rfl) ?_
              refine mm_iast C X M 4 4000 rfl t rfl (fun _ => rfl) (by decide) n e3 (by omega) d_MenuScreensModel_sign_58 (fun h H locs X M => ?_)
              rw [bx_uu] at M
              refine lv_aload_n hx hb d_MenuScreensModel_sign_59 rfl (lv_at hl 1 rfl) ?_
              refine lv_dup hx hb d_MenuScreensModel_sign_60 rfl ?_
              refine mm_get C X M 3 f_12_130_13 (.int i3) rfl d_MenuScreensModel_sign_61 ?_
              refine lv_iconst (v := 1) hx hb d_MenuScreensModel_sign_64 (by decide) ?_
              refine lv_iadd hx hb d_MenuScreensModel_sign_65 ?_
              refine mm_put C X M 3 p_12_130_13 (upd (upd x 0 0) 3 (i3 + 1)) y rfl rfl rfl (by decide) d_MenuScreensModel_sign_66 (fun h H locs X M => ?_)
              refine lv_iinc (v := (i + 1)) (lv' := [(2, .int (i + 1)), (3, .int ((p1 >>> ((24 - (8 * i)) &&& 31)) &&& 255)), (0, .ref a), (1, .int p1)]) hx hb d_MenuScreensModel_sign_69 hl (k := 3) rfl rfl (by decide) rfl (fun ls hl => ?_)
              refine lv_goto (tgt := 7) hx hb d_MenuScreensModel_sign_72 (by decide) ?_
              exact ih_lp (k + 1) (n + 1) (upd t n ((p1 >>> ((24 - (8 * i)) &&& 31)) &&& 255)) (i3 + 1) (i + 1) ls _ _ _ (by rw [ei]; exact nI_1 _) (by omega) (by rw [e3]; exact nI_1 _) (by omega) (by
                  have eb : byt p1 k = ((p1 >>> ((24 - (8 * i)) &&& 31)) &&& 255) := by unfold byt; rw [← ei]
                  rw [sgN, if_neg (by
                    rw [hs, eb]
                    rintro (z | z | z)
                    · exact c2 z
                    · exact c3 z
                    · exact c4 (by rw [e3]; exact congrArg nI z)), hs, eb]) (by omega) X M (lv_sub hl [2, 3, 0] rfl)
            · skip
              refine lv_goto (tgt := 69) hx hb d_MenuScreensModel_sign_46 (by decide) ?_
              refine lv_iinc (v := (i + 1)) (lv' := [(2, .int (i + 1)), (3, .int ((p1 >>> ((24 - (8 * i)) &&& 31)) &&& 255)), (0, .ref a), (1, .int p1)]) hx hb d_MenuScreensModel_sign_69 hl (k := 3) rfl rfl (by decide) rfl (fun ls hl => ?_)
              refine lv_goto (tgt := 7) hx hb d_MenuScreensModel_sign_72 (by decide) ?_
              exact ih_lp (k + 1) n t i3 (i + 1) ls _ _ _ (by rw [ei]; exact nI_1 _) (by omega) e3 (by omega) (by
                  have eb : byt p1 k = ((p1 >>> ((24 - (8 * i)) &&& 31)) &&& 255) := by unfold byt; rw [← ei]
                  rw [sgN, if_pos (Or.inr (Or.inr (by rw [hs]; exact nI_eqI (by omega) (by decide) (by rw [← e3]; exact c4))))]; exact hs) (by omega) X M (lv_sub hl [2, 3, 0] rfl)
  exact lp (4 - 0 + 1) 0 n0 (A 4) (x 3) 0 ls _ _ _ rfl (by omega) hn0 hn1 rfl (Nat.lt_succ_self _) X M (lv_sub hl [1, 2, 0] rfl)
theorem d_MenuScreensModel_holds_0 : decode prog_13_method_28_code 0 = .ok (.iconst 1, 1) := by decide +kernel
theorem d_MenuScreensModel_holds_1 : decode prog_13_method_28_code 1 = .ok (.istore_n 2, 1) := by decide +kernel
theorem d_MenuScreensModel_holds_2 : decode prog_13_method_28_code 2 = .ok (.iconst 0, 1) := by decide +kernel
theorem d_MenuScreensModel_holds_3 : decode prog_13_method_28_code 3 = .ok (.istore_n 3, 1) := by decide +kernel
theorem d_MenuScreensModel_holds_4 : decode prog_13_method_28_code 4 = .ok (.iload_n 3, 1) := by decide +kernel
theorem d_MenuScreensModel_holds_5 : decode prog_13_method_28_code 5 = .ok (.aload_n 0, 1) := by decide +kernel
theorem d_MenuScreensModel_holds_6 : decode prog_13_method_28_code 6 = .ok (.getfield 227, 3) := by decide +kernel
theorem d_MenuScreensModel_holds_9 : decode prog_13_method_28_code 9 = .ok (.if_icmp .ge 132, 3) := by decide +kernel
theorem d_MenuScreensModel_holds_12 : decode prog_13_method_28_code 12 = .ok (.aload_n 0, 1) := by decide +kernel
theorem d_MenuScreensModel_holds_13 : decode prog_13_method_28_code 13 = .ok (.getfield 33, 3) := by decide +kernel
theorem d_MenuScreensModel_holds_16 : decode prog_13_method_28_code 16 = .ok (.aload_n 0, 1) := by decide +kernel
theorem d_MenuScreensModel_holds_17 : decode prog_13_method_28_code 17 = .ok (.getfield 96, 3) := by decide +kernel
theorem d_MenuScreensModel_holds_20 : decode prog_13_method_28_code 20 = .ok (.iload_n 3, 1) := by decide +kernel
theorem d_MenuScreensModel_holds_21 : decode prog_13_method_28_code 21 = .ok (.iaload, 1) := by decide +kernel
theorem d_MenuScreensModel_holds_22 : decode prog_13_method_28_code 22 = .ok (.laload, 1) := by decide +kernel
theorem d_MenuScreensModel_holds_23 : decode prog_13_method_28_code 23 = .ok (.lstore 4, 2) := by decide +kernel
theorem d_MenuScreensModel_holds_25 : decode prog_13_method_28_code 25 = .ok (.aload_n 0, 1) := by decide +kernel
theorem d_MenuScreensModel_holds_26 : decode prog_13_method_28_code 26 = .ok (.getfield 36, 3) := by decide +kernel
theorem d_MenuScreensModel_holds_29 : decode prog_13_method_28_code 29 = .ok (.aload_n 0, 1) := by decide +kernel
theorem d_MenuScreensModel_holds_30 : decode prog_13_method_28_code 30 = .ok (.getfield 96, 3) := by decide +kernel
theorem d_MenuScreensModel_holds_33 : decode prog_13_method_28_code 33 = .ok (.iload_n 3, 1) := by decide +kernel
theorem d_MenuScreensModel_holds_34 : decode prog_13_method_28_code 34 = .ok (.iaload, 1) := by decide +kernel
theorem d_MenuScreensModel_holds_35 : decode prog_13_method_28_code 35 = .ok (.baload, 1) := by decide +kernel
theorem d_MenuScreensModel_holds_36 : decode prog_13_method_28_code 36 = .ok (.ifCond .eq 71, 3) := by decide +kernel
theorem d_MenuScreensModel_holds_39 : decode prog_13_method_28_code 39 = .ok (.aload_n 0, 1) := by decide +kernel
theorem d_MenuScreensModel_holds_40 : decode prog_13_method_28_code 40 = .ok (.getfield 99, 3) := by decide +kernel
theorem d_MenuScreensModel_holds_43 : decode prog_13_method_28_code 43 = .ok (.iload_n 3, 1) := by decide +kernel
theorem d_MenuScreensModel_holds_44 : decode prog_13_method_28_code 44 = .ok (.iaload, 1) := by decide +kernel
theorem d_MenuScreensModel_holds_45 : decode prog_13_method_28_code 45 = .ok (.bipush 61, 2) := by decide +kernel
theorem d_MenuScreensModel_holds_47 : decode prog_13_method_28_code 47 = .ok (.if_icmp .ne 18, 3) := by decide +kernel
theorem d_MenuScreensModel_holds_50 : decode prog_13_method_28_code 50 = .ok (.lload 4, 2) := by decide +kernel
theorem d_MenuScreensModel_holds_52 : decode prog_13_method_28_code 52 = .ok (.aload_n 0, 1) := by decide +kernel
theorem d_MenuScreensModel_holds_53 : decode prog_13_method_28_code 53 = .ok (.getfield 102, 3) := by decide +kernel
theorem d_MenuScreensModel_holds_56 : decode prog_13_method_28_code 56 = .ok (.iload_n 3, 1) := by decide +kernel
theorem d_MenuScreensModel_holds_57 : decode prog_13_method_28_code 57 = .ok (.laload, 1) := by decide +kernel
theorem d_MenuScreensModel_holds_58 : decode prog_13_method_28_code 58 = .ok (.lcmp, 1) := by decide +kernel
theorem d_MenuScreensModel_holds_59 : decode prog_13_method_28_code 59 = .ok (.ifCond .ne 48, 3) := by decide +kernel
theorem d_MenuScreensModel_holds_62 : decode prog_13_method_28_code 62 = .ok (.goto 41, 3) := by decide +kernel
theorem d_MenuScreensModel_holds_65 : decode prog_13_method_28_code 65 = .ok (.aload_n 0, 1) := by decide +kernel
theorem d_MenuScreensModel_holds_66 : decode prog_13_method_28_code 66 = .ok (.getfield 99, 3) := by decide +kernel
theorem d_MenuScreensModel_holds_69 : decode prog_13_method_28_code 69 = .ok (.iload_n 3, 1) := by decide +kernel
theorem d_MenuScreensModel_holds_70 : decode prog_13_method_28_code 70 = .ok (.iaload, 1) := by decide +kernel
theorem d_MenuScreensModel_holds_71 : decode prog_13_method_28_code 71 = .ok (.bipush 60, 2) := by decide +kernel
theorem d_MenuScreensModel_holds_73 : decode prog_13_method_28_code 73 = .ok (.if_icmp .ne 18, 3) := by decide +kernel
theorem d_MenuScreensModel_holds_76 : decode prog_13_method_28_code 76 = .ok (.lload 4, 2) := by decide +kernel
theorem d_MenuScreensModel_holds_78 : decode prog_13_method_28_code 78 = .ok (.aload_n 0, 1) := by decide +kernel
theorem d_MenuScreensModel_holds_79 : decode prog_13_method_28_code 79 = .ok (.getfield 102, 3) := by decide +kernel
theorem d_MenuScreensModel_holds_82 : decode prog_13_method_28_code 82 = .ok (.iload_n 3, 1) := by decide +kernel
theorem d_MenuScreensModel_holds_83 : decode prog_13_method_28_code 83 = .ok (.laload, 1) := by decide +kernel
theorem d_MenuScreensModel_holds_84 : decode prog_13_method_28_code 84 = .ok (.lcmp, 1) := by decide +kernel
theorem d_MenuScreensModel_holds_85 : decode prog_13_method_28_code 85 = .ok (.ifCond .ge 22, 3) := by decide +kernel
theorem d_MenuScreensModel_holds_88 : decode prog_13_method_28_code 88 = .ok (.goto 15, 3) := by decide +kernel
theorem d_MenuScreensModel_holds_91 : decode prog_13_method_28_code 91 = .ok (.lload 4, 2) := by decide +kernel
theorem d_MenuScreensModel_holds_93 : decode prog_13_method_28_code 93 = .ok (.aload_n 0, 1) := by decide +kernel
theorem d_MenuScreensModel_holds_94 : decode prog_13_method_28_code 94 = .ok (.getfield 102, 3) := by decide +kernel
theorem d_MenuScreensModel_holds_97 : decode prog_13_method_28_code 97 = .ok (.iload_n 3, 1) := by decide +kernel
theorem d_MenuScreensModel_holds_98 : decode prog_13_method_28_code 98 = .ok (.laload, 1) := by decide +kernel
theorem d_MenuScreensModel_holds_99 : decode prog_13_method_28_code 99 = .ok (.lcmp, 1) := by decide +kernel
theorem d_MenuScreensModel_holds_100 : decode prog_13_method_28_code 100 = .ok (.ifCond .le 7, 3) := by decide +kernel
theorem d_MenuScreensModel_holds_103 : decode prog_13_method_28_code 103 = .ok (.iconst 1, 1) := by decide +kernel
theorem d_MenuScreensModel_holds_104 : decode prog_13_method_28_code 104 = .ok (.goto 4, 3) := by decide +kernel
theorem d_MenuScreensModel_holds_107 : decode prog_13_method_28_code 107 = .ok (.iconst 0, 1) := by decide +kernel
theorem d_MenuScreensModel_holds_108 : decode prog_13_method_28_code 108 = .ok (.istore 6, 2) := by decide +kernel
theorem d_MenuScreensModel_holds_110 : decode prog_13_method_28_code 110 = .ok (.iload_n 2, 1) := by decide +kernel
theorem d_MenuScreensModel_holds_111 : decode prog_13_method_28_code 111 = .ok (.ifCond .eq 22, 3) := by decide +kernel
theorem d_MenuScreensModel_holds_114 : decode prog_13_method_28_code 114 = .ok (.aload_n 0, 1) := by decide +kernel
theorem d_MenuScreensModel_holds_115 : decode prog_13_method_28_code 115 = .ok (.getfield 93, 3) := by decide +kernel
theorem d_MenuScreensModel_holds_118 : decode prog_13_method_28_code 118 = .ok (.iload_n 3, 1) := by decide +kernel
theorem d_MenuScreensModel_holds_119 : decode prog_13_method_28_code 119 = .ok (.iaload, 1) := by decide +kernel
theorem d_MenuScreensModel_holds_120 : decode prog_13_method_28_code 120 = .ok (.iload_n 1, 1) := by decide +kernel
theorem d_MenuScreensModel_holds_121 : decode prog_13_method_28_code 121 = .ok (.if_icmp .ne 8, 3) := by decide +kernel
theorem d_MenuScreensModel_holds_124 : decode prog_13_method_28_code 124 = .ok (.iload 6, 2) := by decide +kernel
theorem d_MenuScreensModel_holds_126 : decode prog_13_method_28_code 126 = .ok (.ifCond .eq 7, 3) := by decide +kernel
theorem d_MenuScreensModel_holds_129 : decode prog_13_method_28_code 129 = .ok (.iconst 1, 1) := by decide +kernel
theorem d_MenuScreensModel_holds_130 : decode prog_13_method_28_code 130 = .ok (.goto 4, 3) := by decide +kernel
theorem d_MenuScreensModel_holds_133 : decode prog_13_method_28_code 133 = .ok (.iconst 0, 1) := by decide +kernel
theorem d_MenuScreensModel_holds_134 : decode prog_13_method_28_code 134 = .ok (.istore_n 2, 1) := by decide +kernel
theorem d_MenuScreensModel_holds_135 : decode prog_13_method_28_code 135 = .ok (.iinc 3 1, 3) := by decide +kernel
theorem d_MenuScreensModel_holds_138 : decode prog_13_method_28_code 138 = .ok (.goto (-134), 3) := by decide +kernel
theorem d_MenuScreensModel_holds_141 : decode prog_13_method_28_code 141 = .ok (.iload_n 2, 1) := by decide +kernel
theorem d_MenuScreensModel_holds_142 : decode prog_13_method_28_code 142 = .ok (.ireturn, 1) := by decide +kernel
set_option maxRecDepth 100000 in
set_option maxHeartbeats 4000000 in
theorem cm_MenuScreensModel_holds {l : Launch} {S0 : State} {b : Nat} {D : va_G} {dT : Nat → ClassId} (hE : vEnv S0 b D dT) {h0 : vH} {a : Nat} {ar : Nat → Nat} {x : Nat → Int32} {y : Nat → Int64} {A : Nat → Nat → Int32} {B : Nat → Nat → Int64} (M : MV S0 dT h0 a ar x y A B) (p1 : Int32) {n : Nat} (hn : x 39 = nI n) (hn2 : n ≤ 512) (hV : ∀ c, c < n → ∃ v, A 42 c = nI v ∧ v ≤ 40) : vMi l S0 D vcl GT y_MenuScreensModel_holds prog_13_method_28_code 7 (some .boolean) 0 0 0 0 [.ref a, .int p1] h0 (fun r h' => h' = h0 ∧ r = bI (allB (fun c => decide (¬ A 41 c = p1) || cnB A B c) n)) := by
  unfold vMi
  refine vM_ofQ hE.1 (by decide) (Nat.le_of_ble_eq_true rfl) (fun p e s m args below meth c ls Q hQ C hr hlk hnm X hl => ?_)
  have C : vC p s m _ c _ _ "MenuScreensModel" GT D vcl (vty dT) := C
  have hx := C.1.1
  have hb := C.1.2.1
  replace M := MR.of M
  obtain ⟨H, eH⟩ : ∃ z, z = s.heap := ⟨_, rfl⟩
  obtain ⟨locs, elocs⟩ : ∃ z : List Loc, z = [] := ⟨_, rfl⟩
  rw [← eH, ← elocs] at X
  rw [← eH, ← elocs]
  clear eH elocs
  have hl : lv_has ls 7 [(0, .ref a), (1, .int p1)] := hl
  refine lv_iconst (v := 1) hx hb d_MenuScreensModel_holds_0 (by decide) ?_
  refine lv_istore_n (lv' := [(2, .int 1), (0, .ref a), (1, .int p1)]) hx hb d_MenuScreensModel_holds_1 rfl hl (by decide) rfl (fun ls hl => ?_)
  refine lv_iconst (v := 0) hx hb d_MenuScreensModel_holds_2 (by decide) ?_
  refine lv_istore_n (lv' := [(3, .int 0), (2, .int 1), (0, .ref a), (1, .int p1)]) hx hb d_MenuScreensModel_holds_3 rfl hl (by decide) rfl (fun ls hl => ?_)
  have lp : ∀ (n_lp : Nat) (k : Nat) (g : Int32) (i : Int32) (ls : Array Slot), (i = nI k) → (k ≤ n) → (g = bI (allB (fun c => decide (¬ A 41 c = p1) || cnB A B c) k)) → (n - k) < n_lp → lv_has ls 7 [(0, .ref a), (1, .int p1), (2, .int g), (3, .int i)] → W p l e (vRm 0 0 0 0) s m args below meth c H locs 0 0 Q (F0 m 4 ls []) := by
    intro n_lp
    induction n_lp with
    | zero => intros; exact absurd (by assumption) (Nat.not_lt_zero _)
    | succ n_lp ih_lp =>
      intro k g i ls ei hk eg hmu_lp hl
      refine lv_iload_n hx hb d_MenuScreensModel_holds_4 rfl (lv_at hl 3 rfl) ?_
      refine lv_aload_n hx hb d_MenuScreensModel_holds_5 rfl (lv_at hl 0 rfl) ?_
      refine mm_get C X M 39 f_12_227_13 (.int (x 39)) rfl d_MenuScreensModel_holds_6 ?_
      refine lv_icmp_ge (tgt := 141) hx hb d_MenuScreensModel_holds_9 (by decide) (fun c1 => ?_) (fun c1 => ?_)
      · skip
        refine lv_iload_n hx hb d_MenuScreensModel_holds_141 rfl (lv_at hl 2 rfl) ?_
        exact mq_iret hQ C X hr (by rw [eg]; exact bI_nar _) hlk (⟨rfl, by
            have : k = n := by
              have := (nI_leI (a := n) (b := k) (by omega) (by omega)).mp (by rw [← ei, ← hn]; exact c1)
              omega
            rw [eg, this]⟩) (Nat.le_refl _) (Nat.le_refl _) d_MenuScreensModel_holds_142
      · skip
        have hlt : k < n := by
          rcases Nat.lt_or_ge k n with q | q
          · exact q
          · exact absurd (by rw [hn, ei]; exact nI_le q (by omega)) c1
        obtain ⟨v0, ev0, hv0⟩ := hV k hlt
        have ec0 : (A 42 k).toNatClampNeg = v0 := by rw [ev0]; exact nI_clamp (by omega)
        have j108 : ∀ (f1 : Int32) (ls : Array Slot), (f1 = bI (cnB A B k)) → lv_has ls 7 [(0, .ref a), (1, .int p1), (2, .int g), (3, .int i)] → W p l e (vRm 0 0 0 0) s m args below meth c H locs 0 0 Q (F0 m 108 ls [.int f1]) := by
          intro f1 ls ef hl
          refine lv_istore (lv' := [(6, .int f1), (0, .ref a), (1, .int p1), (2, .int g), (3, .int i)]) hx hb d_MenuScreensModel_holds_108 hl (by decide) rfl (fun ls hl => ?_)
          refine lv_iload_n hx hb d_MenuScreensModel_holds_110 rfl (lv_at hl 3 rfl) ?_
          refine lv_if_eq (tgt := 133) hx hb d_MenuScreensModel_holds_111 (by decide) (fun c2 => ?_) (fun c2 => ?_)
          · skip
            refine lv_iconst (v := 0) hx hb d_MenuScreensModel_holds_133 (by decide) ?_
            refine lv_istore_n (lv' := [(2, .int 0), (6, .int f1), (0, .ref a), (1, .int p1), (3, .int i)]) hx hb d_MenuScreensModel_holds_134 rfl hl (by decide) rfl (fun ls hl => ?_)
            have eg1 : (0 : Int32) = bI (allB (fun c => decide (¬ A 41 c = p1) || cnB A B c) (k + 1)) := by
              rw [allB, bI_0 (eg.symm.trans c2)]; rfl
            refine lv_iinc (v := (i + 1)) (lv' := [(3, .int (i + 1)), (2, .int 0), (6, .int f1), (0, .ref a), (1, .int p1)]) hx hb d_MenuScreensModel_holds_135 hl (k := 4) rfl rfl (by decide) rfl (fun ls hl => ?_)
            refine lv_goto (tgt := 4) hx hb d_MenuScreensModel_holds_138 (by decide) ?_
            exact ih_lp (k + 1) 0 (i + 1) ls  (by rw [ei]; exact nI_1 _) (by omega) eg1 (by omega) (lv_sub hl [3, 4, 1, 0] rfl)
          · skip
            refine lv_aload_n hx hb d_MenuScreensModel_holds_114 rfl (lv_at hl 1 rfl) ?_
            refine mm_get C X M 41 f_12_93_13 (.ref (ar 41)) rfl d_MenuScreensModel_holds_115 ?_
            refine lv_iload_n hx hb d_MenuScreensModel_holds_118 rfl (lv_at hl 4 rfl) ?_
            refine mm_iald C X M 41 512 rfl (A 41) rfl (by decide) k ei (by omega) d_MenuScreensModel_holds_119 ?_
            refine lv_iload_n hx hb d_MenuScreensModel_holds_120 rfl (lv_at hl 2 rfl) ?_
            refine lv_icmp_ne (tgt := 129) hx hb d_MenuScreensModel_holds_121 (by decide) (fun c3 => ?_) (fun c3 => ?_)
            · skip
              refine lv_iconst (v := 1) hx hb d_MenuScreensModel_holds_129 (by decide) ?_
              refine lv_goto (tgt := 134) hx hb d_MenuScreensModel_holds_130 (by decide) ?_
              refine lv_istore_n (lv' := [(2, .int 1), (6, .int f1), (0, .ref a), (1, .int p1), (3, .int i)]) hx hb d_MenuScreensModel_holds_134 rfl hl (by decide) rfl (fun ls hl => ?_)
              have eg1 : (1 : Int32) = bI (allB (fun c => decide (¬ A 41 c = p1) || cnB A B c) (k + 1)) := by
                rw [allB, bI_n (fun z => c2 (eg.trans z))]
                show _ = bI (true && (decide (¬ A 41 k = p1) || cnB A B k)); rw [decide_eq_true c3]; rfl
              refine lv_iinc (v := (i + 1)) (lv' := [(3, .int (i + 1)), (2, .int 1), (6, .int f1), (0, .ref a), (1, .int p1)]) hx hb d_MenuScreensModel_holds_135 hl (k := 4) rfl rfl (by decide) rfl (fun ls hl => ?_)
              refine lv_goto (tgt := 4) hx hb d_MenuScreensModel_holds_138 (by decide) ?_
              exact ih_lp (k + 1) 1 (i + 1) ls  (by rw [ei]; exact nI_1 _) (by omega) eg1 (by omega) (lv_sub hl [3, 4, 1, 0] rfl)
            · skip
              refine lv_iload hx hb d_MenuScreensModel_holds_124 (lv_at hl 0 rfl) ?_
              refine lv_if_eq (tgt := 133) hx hb d_MenuScreensModel_holds_126 (by decide) (fun c4 => ?_) (fun c4 => ?_)
              · skip
                refine lv_iconst (v := 0) hx hb d_MenuScreensModel_holds_133 (by decide) ?_
                refine lv_istore_n (lv' := [(2, .int 0), (6, .int f1), (0, .ref a), (1, .int p1), (3, .int i)]) hx hb d_MenuScreensModel_holds_134 rfl hl (by decide) rfl (fun ls hl => ?_)
                have eg1 : (0 : Int32) = bI (allB (fun c => decide (¬ A 41 c = p1) || cnB A B c) (k + 1)) := by
                  rw [allB, bI_n (fun z => c2 (eg.trans z))]
                  show _ = bI (true && (decide (¬ A 41 k = p1) || cnB A B k)); rw [decide_eq_false (fun z => z c3)]
                  rw [bI_0 (ef.symm.trans c4)]; rfl
                refine lv_iinc (v := (i + 1)) (lv' := [(3, .int (i + 1)), (2, .int 0), (6, .int f1), (0, .ref a), (1, .int p1)]) hx hb d_MenuScreensModel_holds_135 hl (k := 4) rfl rfl (by decide) rfl (fun ls hl => ?_)
                refine lv_goto (tgt := 4) hx hb d_MenuScreensModel_holds_138 (by decide) ?_
                exact ih_lp (k + 1) 0 (i + 1) ls  (by rw [ei]; exact nI_1 _) (by omega) eg1 (by omega) (lv_sub hl [3, 4, 1, 0] rfl)
              · skip
                refine lv_iconst (v := 1) hx hb d_MenuScreensModel_holds_129 (by decide) ?_
                refine lv_goto (tgt := 134) hx hb d_MenuScreensModel_holds_130 (by decide) ?_
                refine lv_istore_n (lv' := [(2, .int 1), (6, .int f1), (0, .ref a), (1, .int p1), (3, .int i)]) hx hb d_MenuScreensModel_holds_134 rfl hl (by decide) rfl (fun ls hl => ?_)
                have eg1 : (1 : Int32) = bI (allB (fun c => decide (¬ A 41 c = p1) || cnB A B c) (k + 1)) := by
                  rw [allB, bI_n (fun z => c2 (eg.trans z))]
                  show _ = bI (true && (decide (¬ A 41 k = p1) || cnB A B k)); rw [decide_eq_false (fun z => z c3)]
                  rw [bI_n (fun z => c4 (ef.trans z))]; rfl
                refine lv_iinc (v := (i + 1)) (lv' := [(3, .int (i + 1)), (2, .int 1), (6, .int f1), (0, .ref a), (1, .int p1)]) hx hb d_MenuScreensModel_holds_135 hl (k := 4) rfl rfl (by decide) rfl (fun ls hl => ?_)
                refine lv_goto (tgt := 4) hx hb d_MenuScreensModel_holds_138 (by decide) ?_
                exact ih_lp (k + 1) 1 (i + 1) ls  (by rw [ei]; exact nI_1 _) (by omega) eg1 (by omega) (lv_sub hl [3, 4, 1, 0] rfl)
        refine lv_aload_n hx hb d_MenuScreensModel_holds_12 rfl (lv_at hl 0 rfl) ?_
        refine mm_get C X M 18 f_12_33_13 (.ref (ar 18)) rfl d_MenuScreensModel_holds_13 ?_
        refine lv_aload_n hx hb d_MenuScreensModel_holds_16 rfl (lv_at hl 0 rfl) ?_
        refine mm_get C X M 42 f_12_96_13 (.ref (ar 42)) rfl d_MenuScreensModel_holds_17 ?_
        refine lv_iload_n hx hb d_MenuScreensModel_holds_20 rfl (lv_at hl 3 rfl) ?_
        refine mm_iald C X M 42 512 rfl (A 42) rfl (by decide) k ei (by omega) d_MenuScreensModel_holds_21 ?_
        refine mm_lald C X M 18 41 rfl (B 18) rfl (by decide) v0 ev0 (by omega) d_MenuScreensModel_holds_22 ?_
        refine lv_lstore (lv' := [(4, .long ((B 18) v0)), (0, .ref a), (1, .int p1), (2, .int g), (3, .int i)]) hx hb d_MenuScreensModel_holds_23 hl (by decide) rfl (fun ls hl => ?_)
        refine lv_aload_n hx hb d_MenuScreensModel_holds_25 rfl (lv_at hl 1 rfl) ?_
        refine mm_get C X M 19 f_12_36_13 (.ref (ar 19)) rfl d_MenuScreensModel_holds_26 ?_
        refine lv_aload_n hx hb d_MenuScreensModel_holds_29 rfl (lv_at hl 1 rfl) ?_
        refine mm_get C X M 42 f_12_96_13 (.ref (ar 42)) rfl d_MenuScreensModel_holds_30 ?_
        refine lv_iload_n hx hb d_MenuScreensModel_holds_33 rfl (lv_at hl 4 rfl) ?_
        refine mm_iald C X M 42 512 rfl (A 42) rfl (by decide) k ei (by omega) d_MenuScreensModel_holds_34 ?_
        refine mm_zald C X M 19 41 rfl (A 19) rfl (by decide) v0 ev0 (by omega) d_MenuScreensModel_holds_35 ?_
        refine lv_if_eq (tgt := 107) hx hb d_MenuScreensModel_holds_36 (by decide) (fun c5 => ?_) (fun c5 => ?_)
        · skip
          refine lv_iconst (v := 0) hx hb d_MenuScreensModel_holds_107 (by decide) ?_
          have hl0 := hl
          exact j108 0 ls (by
            unfold cnB
            rw [ec0]
            rw [decide_eq_false (fun z => z c5)]; rfl) (lv_sub hl [1, 2, 3, 4] rfl)
        · skip
          refine lv_aload_n hx hb d_MenuScreensModel_holds_39 rfl (lv_at hl 1 rfl) ?_
          refine mm_get C X M 43 f_12_99_13 (.ref (ar 43)) rfl d_MenuScreensModel_holds_40 ?_
          refine lv_iload_n hx hb d_MenuScreensModel_holds_43 rfl (lv_at hl 4 rfl) ?_
          refine mm_iald C X M 43 512 rfl (A 43) rfl (by decide) k ei (by omega) d_MenuScreensModel_holds_44 ?_
          refine lv_bipush (v := 61) hx hb d_MenuScreensModel_holds_45 (by decide) ?_
          refine lv_icmp_ne (tgt := 65) hx hb d_MenuScreensModel_holds_47 (by decide) (fun c6 => ?_) (fun c6 => ?_)
          · skip
            refine lv_aload_n hx hb d_MenuScreensModel_holds_65 rfl (lv_at hl 1 rfl) ?_
            refine mm_get C X M 43 f_12_99_13 (.ref (ar 43)) rfl d_MenuScreensModel_holds_66 ?_
            refine lv_iload_n hx hb d_MenuScreensModel_holds_69 rfl (lv_at hl 4 rfl) ?_
            refine mm_iald C X M 43 512 rfl (A 43) rfl (by decide) k ei (by omega) d_MenuScreensModel_holds_70 ?_
            refine lv_bipush (v := 60) hx hb d_MenuScreensModel_holds_71 (by decide) ?_
            refine lv_icmp_ne (tgt := 91) hx hb d_MenuScreensModel_holds_73 (by decide) (fun c7 => ?_) (fun c7 => ?_)
            · skip
              refine lv_lload hx hb d_MenuScreensModel_holds_91 (lv_at hl 0 rfl) ?_
              refine lv_aload_n hx hb d_MenuScreensModel_holds_93 rfl (lv_at hl 1 rfl) ?_
              refine mm_get C X M 44 f_12_102_13 (.ref (ar 44)) rfl d_MenuScreensModel_holds_94 ?_
              refine lv_iload_n hx hb d_MenuScreensModel_holds_97 rfl (lv_at hl 4 rfl) ?_
              refine mm_lald C X M 44 512 rfl (B 44) rfl (by decide) k ei (by omega) d_MenuScreensModel_holds_98 ?_
              refine W.lcmp hx hb d_MenuScreensModel_holds_99 ?_
              refine lv_if_le (tgt := 107) hx hb d_MenuScreensModel_holds_100 (by decide) (fun c8 => ?_) (fun c8 => ?_)
              · skip
                refine lv_iconst (v := 0) hx hb d_MenuScreensModel_holds_107 (by decide) ?_
                have hl0 := hl
                exact j108 0 ls (by
                  unfold cnB
                  rw [ec0]
                  rw [decide_eq_true c5]
                  rw [if_neg c6]
                  rw [if_neg c7]
                  rw [decide_eq_false (Int64.not_lt.mpr ((lg_cmp_le _ _).mp c8))]; rfl) (lv_sub hl [1, 2, 3, 4] rfl)
              · skip
                refine lv_iconst (v := 1) hx hb d_MenuScreensModel_holds_103 (by decide) ?_
                refine lv_goto (tgt := 108) hx hb d_MenuScreensModel_holds_104 (by decide) ?_
                have hl0 := hl
                exact j108 1 ls (by
                  unfold cnB
                  rw [ec0]
                  rw [decide_eq_true c5]
                  rw [if_neg c6]
                  rw [if_neg c7]
                  rw [decide_eq_true (Int64.not_le.mp (fun z => c8 ((lg_cmp_le _ _).mpr z)))]; rfl) (lv_sub hl [1, 2, 3, 4] rfl)
            · skip
              refine lv_lload hx hb d_MenuScreensModel_holds_76 (lv_at hl 0 rfl) ?_
              refine lv_aload_n hx hb d_MenuScreensModel_holds_78 rfl (lv_at hl 1 rfl) ?_
              refine mm_get C X M 44 f_12_102_13 (.ref (ar 44)) rfl d_MenuScreensModel_holds_79 ?_
              refine lv_iload_n hx hb d_MenuScreensModel_holds_82 rfl (lv_at hl 4 rfl) ?_
              refine mm_lald C X M 44 512 rfl (B 44) rfl (by decide) k ei (by omega) d_MenuScreensModel_holds_83 ?_
              refine W.lcmp hx hb d_MenuScreensModel_holds_84 ?_
              refine lv_if_ge (tgt := 107) hx hb d_MenuScreensModel_holds_85 (by decide) (fun c9 => ?_) (fun c9 => ?_)
              · skip
                refine lv_iconst (v := 0) hx hb d_MenuScreensModel_holds_107 (by decide) ?_
                have hl0 := hl
                exact j108 0 ls (by
                  unfold cnB
                  rw [ec0]
                  rw [decide_eq_true c5]
                  rw [if_neg c6]
                  rw [if_pos c7]
                  rw [decide_eq_false (Int64.not_lt.mpr ((lg_cmp_ge _ _).mp c9))]; rfl) (lv_sub hl [1, 2, 3, 4] rfl)
              · skip
                refine lv_goto (tgt := 103) hx hb d_MenuScreensModel_holds_88 (by decide) ?_
                refine lv_iconst (v := 1) hx hb d_MenuScreensModel_holds_103 (by decide) ?_
                refine lv_goto (tgt := 108) hx hb d_MenuScreensModel_holds_104 (by decide) ?_
                have hl0 := hl
                exact j108 1 ls (by
                  unfold cnB
                  rw [ec0]
                  rw [decide_eq_true c5]
                  rw [if_neg c6]
                  rw [if_pos c7]
                  rw [decide_eq_true (Int64.not_le.mp (fun z => c9 ((lg_cmp_ge _ _).mpr z)))]; rfl) (lv_sub hl [1, 2, 3, 4] rfl)
          · skip
            refine lv_lload hx hb d_MenuScreensModel_holds_50 (lv_at hl 0 rfl) ?_
            refine lv_aload_n hx hb d_MenuScreensModel_holds_52 rfl (lv_at hl 1 rfl) ?_
            refine mm_get C X M 44 f_12_102_13 (.ref (ar 44)) rfl d_MenuScreensModel_holds_53 ?_
            refine lv_iload_n hx hb d_MenuScreensModel_holds_56 rfl (lv_at hl 4 rfl) ?_
            refine mm_lald C X M 44 512 rfl (B 44) rfl (by decide) k ei (by omega) d_MenuScreensModel_holds_57 ?_
            refine W.lcmp hx hb d_MenuScreensModel_holds_58 ?_
            refine lv_if_ne (tgt := 107) hx hb d_MenuScreensModel_holds_59 (by decide) (fun c10 => ?_) (fun c10 => ?_)
            · skip
              refine lv_iconst (v := 0) hx hb d_MenuScreensModel_holds_107 (by decide) ?_
              have hl0 := hl
              exact j108 0 ls (by
                unfold cnB
                rw [ec0]
                rw [decide_eq_true c5]
                rw [if_pos c6]
                rw [decide_eq_false (fun z => c10 ((lg_cmp_eq _ _).mpr z))]; rfl) (lv_sub hl [1, 2, 3, 4] rfl)
            · skip
              refine lv_goto (tgt := 103) hx hb d_MenuScreensModel_holds_62 (by decide) ?_
              refine lv_iconst (v := 1) hx hb d_MenuScreensModel_holds_103 (by decide) ?_
              refine lv_goto (tgt := 108) hx hb d_MenuScreensModel_holds_104 (by decide) ?_
              have hl0 := hl
              exact j108 1 ls (by
                unfold cnB
                rw [ec0]
                rw [decide_eq_true c5]
                rw [if_pos c6]
                rw [decide_eq_true ((lg_cmp_eq _ _).mp c10)]; rfl) (lv_sub hl [1, 2, 3, 4] rfl)
  exact lp (n - 0 + 1) 0 1 0 ls  rfl (by omega) rfl (Nat.lt_succ_self _) (lv_sub hl [2, 3, 1, 0] rfl)
