theorem d_MenuScreensModel_leads_0 : decode prog_13_method_20_code 0 = .ok (.aload_n 0, 1) := by decide +kernel
theorem d_MenuScreensModel_leads_1 : decode prog_13_method_20_code 1 = .ok (.getfield 57, 3) := by decide +kernel
theorem d_MenuScreensModel_leads_4 : decode prog_13_method_20_code 4 = .ok (.bipush 10, 2) := by decide +kernel
theorem d_MenuScreensModel_leads_6 : decode prog_13_method_20_code 6 = .ok (.iload_n 1, 1) := by decide +kernel
theorem d_MenuScreensModel_leads_7 : decode prog_13_method_20_code 7 = .ok (.imul, 1) := by decide +kernel
theorem d_MenuScreensModel_leads_8 : decode prog_13_method_20_code 8 = .ok (.iload_n 2, 1) := by decide +kernel
theorem d_MenuScreensModel_leads_9 : decode prog_13_method_20_code 9 = .ok (.iadd, 1) := by decide +kernel
theorem d_MenuScreensModel_leads_10 : decode prog_13_method_20_code 10 = .ok (.iaload, 1) := by decide +kernel
theorem d_MenuScreensModel_leads_11 : decode prog_13_method_20_code 11 = .ok (.ifCond .ne 7, 3) := by decide +kernel
theorem d_MenuScreensModel_leads_14 : decode prog_13_method_20_code 14 = .ok (.iconst 0, 1) := by decide +kernel
theorem d_MenuScreensModel_leads_15 : decode prog_13_method_20_code 15 = .ok (.goto 29, 3) := by decide +kernel
theorem d_MenuScreensModel_leads_18 : decode prog_13_method_20_code 18 = .ok (.aload_n 0, 1) := by decide +kernel
theorem d_MenuScreensModel_leads_19 : decode prog_13_method_20_code 19 = .ok (.aload_n 0, 1) := by decide +kernel
theorem d_MenuScreensModel_leads_20 : decode prog_13_method_20_code 20 = .ok (.getfield 54, 3) := by decide +kernel
theorem d_MenuScreensModel_leads_23 : decode prog_13_method_20_code 23 = .ok (.bipush 10, 2) := by decide +kernel
theorem d_MenuScreensModel_leads_25 : decode prog_13_method_20_code 25 = .ok (.iload_n 1, 1) := by decide +kernel
theorem d_MenuScreensModel_leads_26 : decode prog_13_method_20_code 26 = .ok (.imul, 1) := by decide +kernel
theorem d_MenuScreensModel_leads_27 : decode prog_13_method_20_code 27 = .ok (.iload_n 2, 1) := by decide +kernel
theorem d_MenuScreensModel_leads_28 : decode prog_13_method_20_code 28 = .ok (.iadd, 1) := by decide +kernel
theorem d_MenuScreensModel_leads_29 : decode prog_13_method_20_code 29 = .ok (.iaload, 1) := by decide +kernel
theorem d_MenuScreensModel_leads_30 : decode prog_13_method_20_code 30 = .ok (.aload_n 0, 1) := by decide +kernel
theorem d_MenuScreensModel_leads_31 : decode prog_13_method_20_code 31 = .ok (.getfield 57, 3) := by decide +kernel
theorem d_MenuScreensModel_leads_34 : decode prog_13_method_20_code 34 = .ok (.bipush 10, 2) := by decide +kernel
theorem d_MenuScreensModel_leads_36 : decode prog_13_method_20_code 36 = .ok (.iload_n 1, 1) := by decide +kernel
theorem d_MenuScreensModel_leads_37 : decode prog_13_method_20_code 37 = .ok (.imul, 1) := by decide +kernel
theorem d_MenuScreensModel_leads_38 : decode prog_13_method_20_code 38 = .ok (.iload_n 2, 1) := by decide +kernel
theorem d_MenuScreensModel_leads_39 : decode prog_13_method_20_code 39 = .ok (.iadd, 1) := by decide +kernel
theorem d_MenuScreensModel_leads_40 : decode prog_13_method_20_code 40 = .ok (.iaload, 1) := by decide +kernel
theorem d_MenuScreensModel_leads_41 : decode prog_13_method_20_code 41 = .ok (.invokevirtual 216, 3) := by decide +kernel
theorem d_MenuScreensModel_leads_44 : decode prog_13_method_20_code 44 = .ok (.ireturn, 1) := by decide +kernel
set_option maxRecDepth 100000 in
set_option maxHeartbeats 4000000 in
theorem cm_MenuScreensModel_leads {l : Launch} {S0 : State} {b : Nat} {D : va_G} {dT : Nat → ClassId} (hE : vEnv S0 b D dT) {h0 : vH} {a : Nat} {ar : Nat → Nat} {x : Nat → Int32} {y : Nat → Int64} {A : Nat → Nat → Int32} {B : Nat → Nat → Int64} (M : MV S0 dT h0 a ar x y A B) (p1 : Int32) (p2 : Int32) {s0 k0 n : Nat} (hs : p1 = nI s0) (hk : p2 = nI k0) (hs2 : s0 ≤ 30) (hk2 : k0 ≤ 9) (hn : x 20 = nI n) (hn2 : n ≤ 30) (hR : ∀ v, 1 ≤ v → v ≤ n → ∃ p q, A 21 v = nI p ∧ A 22 v = nI q ∧ p ≤ q ∧ q ≤ 4000) (hQ0 : ¬ A 27 (10 * s0 + k0) = 0 → ∃ p q, A 26 (10 * s0 + k0) = nI p ∧ A 27 (10 * s0 + k0) = nI q ∧ p ≤ q ∧ q ≤ 4000) : vMi l S0 D vcl GT y_MenuScreensModel_leads prog_13_method_20_code 3 (some .int) 2 60 0 0 [.ref a, .int p1, .int p2] h0 (fun r h' => h' = h0 ∧ r = nI (ldS A n (10 * s0 + k0))) := by
  unfold vMi
  refine vM_ofQ hE.1 (by decide) (Nat.le_of_ble_eq_true rfl) (fun p e s m args below meth c ls Q hQ C hr hlk hnm X hl => ?_)
  have C : vC p s m _ c _ _ "MenuScreensModel" GT D vcl (vty dT) := C
  have hx := C.1.1
  have hb := C.1.2.1
  replace M := MR.of M
  obtain ⟨H, eH⟩ : ∃ z, z = s.heap := ⟨_, rfl⟩
  obtain ⟨locs, elocs⟩ : ∃ z : List Loc, z = [] := ⟨_, rfl⟩
  rw [← eH, ← elocs] at X
  rw [← eH, ← elocs]
  clear eH elocs
  have hl : lv_has ls 3 [(0, .ref a), (1, .int p1), (2, .int p2)] := hl
  have iq : 10 * p1 + p2 = nI (10 * s0 + k0) := by rw [hs, hk]; exact (congrArg (· + nI k0) (pk_mul 10 s0)).trans (nI_add _ _)
  refine lv_aload_n hx hb d_MenuScreensModel_leads_0 rfl (lv_at hl 0 rfl) ?_
  refine mm_get C X M 27 f_12_57_13 (.ref (ar 27)) rfl d_MenuScreensModel_leads_1 ?_
  refine lv_bipush (v := 10) hx hb d_MenuScreensModel_leads_4 (by decide) ?_
  refine lv_iload_n hx hb d_MenuScreensModel_leads_6 rfl (lv_at hl 1 rfl) ?_
  refine lv_imul hx hb d_MenuScreensModel_leads_7 ?_
  refine lv_iload_n hx hb d_MenuScreensModel_leads_8 rfl (lv_at hl 2 rfl) ?_
  refine lv_iadd hx hb d_MenuScreensModel_leads_9 ?_
  refine mm_iald C X M 27 310 rfl (A 27) rfl (by decide) (10 * s0 + k0) iq (by omega) d_MenuScreensModel_leads_10 ?_
  refine lv_if_ne (tgt := 18) hx hb d_MenuScreensModel_leads_11 (by decide) (fun c1 => ?_) (fun c1 => ?_)
  · skip
    refine lv_aload_n hx hb d_MenuScreensModel_leads_18 rfl (lv_at hl 0 rfl) ?_
    refine lv_aload_n hx hb d_MenuScreensModel_leads_19 rfl (lv_at hl 0 rfl) ?_
    refine mm_get C X M 26 f_12_54_13 (.ref (ar 26)) rfl d_MenuScreensModel_leads_20 ?_
    refine lv_bipush (v := 10) hx hb d_MenuScreensModel_leads_23 (by decide) ?_
    refine lv_iload_n hx hb d_MenuScreensModel_leads_25 rfl (lv_at hl 1 rfl) ?_
    refine lv_imul hx hb d_MenuScreensModel_leads_26 ?_
    refine lv_iload_n hx hb d_MenuScreensModel_leads_27 rfl (lv_at hl 2 rfl) ?_
    refine lv_iadd hx hb d_MenuScreensModel_leads_28 ?_
    refine mm_iald C X M 26 310 rfl (A 26) rfl (by decide) (10 * s0 + k0) iq (by omega) d_MenuScreensModel_leads_29 ?_
    refine lv_aload_n hx hb d_MenuScreensModel_leads_30 rfl (lv_at hl 0 rfl) ?_
    refine mm_get C X M 27 f_12_57_13 (.ref (ar 27)) rfl d_MenuScreensModel_leads_31 ?_
    refine lv_bipush (v := 10) hx hb d_MenuScreensModel_leads_34 (by decide) ?_
    refine lv_iload_n hx hb d_MenuScreensModel_leads_36 rfl (lv_at hl 1 rfl) ?_
    refine lv_imul hx hb d_MenuScreensModel_leads_37 ?_
    refine lv_iload_n hx hb d_MenuScreensModel_leads_38 rfl (lv_at hl 2 rfl) ?_
    refine lv_iadd hx hb d_MenuScreensModel_leads_39 ?_
    refine mm_iald C X M 27 310 rfl (A 27) rfl (by decide) (10 * s0 + k0) iq (by omega) d_MenuScreensModel_leads_40 ?_
    obtain ⟨v1, v2, ev1, ev2, hv12, hv2⟩ := hQ0 c1
    refine mv_bi X (mv_rV (rest := []) (As := [.int ((A 26) (10 * s0 + k0)), .int ((A 27) (10 * s0 + k0))]) gt_good C X k_12_216 (cm_MenuScreensModel_findScreen hE M.1 _ _ (n := n) hn hn2 hR (F := v1) (T := v2) ev1 ev2 hv12 hv2) M.1.1 rfl rfl ⟨by decide, by decide⟩ rfl hl.1 rfl (Nat.le_of_ble_eq_true rfl) d_MenuScreensModel_leads_41 ⟨Nat.le_refl _, Nat.le_refl _⟩) (fun r2 hN H locs hp X => ?_)
    obtain ⟨ehr2, er2⟩ := hp
    rw [ehr2] at X
    exact mq_iret hQ C X hr rfl hlk (⟨rfl, by rw [er2, ldS, if_neg c1, ev1, ev2, nI_clamp (by omega), nI_clamp (by omega)]⟩) (Nat.le_refl _) (Nat.le_refl _) d_MenuScreensModel_leads_44
  · skip
    refine lv_iconst (v := 0) hx hb d_MenuScreensModel_leads_14 (by decide) ?_
    refine lv_goto (tgt := 44) hx hb d_MenuScreensModel_leads_15 (by decide) ?_
    exact mq_iret hQ C X hr rfl hlk (⟨rfl, by rw [ldS, if_pos c1]; rfl⟩) (Nat.le_refl _) (Nat.le_refl _) d_MenuScreensModel_leads_44
theorem d_MenuScreensModel_press_0 : decode prog_13_method_27_code 0 = .ok (.aload_n 0, 1) := by decide +kernel
theorem d_MenuScreensModel_press_1 : decode prog_13_method_27_code 1 = .ok (.iconst 0, 1) := by decide +kernel
theorem d_MenuScreensModel_press_2 : decode prog_13_method_27_code 2 = .ok (.putfield 127, 3) := by decide +kernel
theorem d_MenuScreensModel_press_5 : decode prog_13_method_27_code 5 = .ok (.iload_n 1, 1) := by decide +kernel
theorem d_MenuScreensModel_press_6 : decode prog_13_method_27_code 6 = .ok (.iconst 1, 1) := by decide +kernel
theorem d_MenuScreensModel_press_7 : decode prog_13_method_27_code 7 = .ok (.if_icmp .lt 9, 3) := by decide +kernel
theorem d_MenuScreensModel_press_10 : decode prog_13_method_27_code 10 = .ok (.iload_n 1, 1) := by decide +kernel
theorem d_MenuScreensModel_press_11 : decode prog_13_method_27_code 11 = .ok (.bipush 9, 2) := by decide +kernel
theorem d_MenuScreensModel_press_13 : decode prog_13_method_27_code 13 = .ok (.if_icmp .le 6, 3) := by decide +kernel
theorem d_MenuScreensModel_press_16 : decode prog_13_method_27_code 16 = .ok (.bipush (-2), 2) := by decide +kernel
theorem d_MenuScreensModel_press_18 : decode prog_13_method_27_code 18 = .ok (.ireturn, 1) := by decide +kernel
theorem d_MenuScreensModel_press_19 : decode prog_13_method_27_code 19 = .ok (.aload_n 0, 1) := by decide +kernel
theorem d_MenuScreensModel_press_20 : decode prog_13_method_27_code 20 = .ok (.getfield 245, 3) := by decide +kernel
theorem d_MenuScreensModel_press_23 : decode prog_13_method_27_code 23 = .ok (.ifCond .ne 6, 3) := by decide +kernel
theorem d_MenuScreensModel_press_26 : decode prog_13_method_27_code 26 = .ok (.bipush (-3), 2) := by decide +kernel
theorem d_MenuScreensModel_press_28 : decode prog_13_method_27_code 28 = .ok (.ireturn, 1) := by decide +kernel
theorem d_MenuScreensModel_press_29 : decode prog_13_method_27_code 29 = .ok (.aload_n 0, 1) := by decide +kernel
theorem d_MenuScreensModel_press_30 : decode prog_13_method_27_code 30 = .ok (.aload_n 0, 1) := by decide +kernel
theorem d_MenuScreensModel_press_31 : decode prog_13_method_27_code 31 = .ok (.getfield 245, 3) := by decide +kernel
theorem d_MenuScreensModel_press_34 : decode prog_13_method_27_code 34 = .ok (.iload_n 1, 1) := by decide +kernel
theorem d_MenuScreensModel_press_35 : decode prog_13_method_27_code 35 = .ok (.invokevirtual 230, 3) := by decide +kernel
theorem d_MenuScreensModel_press_38 : decode prog_13_method_27_code 38 = .ok (.istore_n 2, 1) := by decide +kernel
theorem d_MenuScreensModel_press_39 : decode prog_13_method_27_code 39 = .ok (.iload_n 2, 1) := by decide +kernel
theorem d_MenuScreensModel_press_40 : decode prog_13_method_27_code 40 = .ok (.ifCond .le 21, 3) := by decide +kernel
theorem d_MenuScreensModel_press_43 : decode prog_13_method_27_code 43 = .ok (.iload_n 1, 1) := by decide +kernel
theorem d_MenuScreensModel_press_44 : decode prog_13_method_27_code 44 = .ok (.bipush 9, 2) := by decide +kernel
theorem d_MenuScreensModel_press_46 : decode prog_13_method_27_code 46 = .ok (.if_icmp .eq 10, 3) := by decide +kernel
theorem d_MenuScreensModel_press_49 : decode prog_13_method_27_code 49 = .ok (.aload_n 0, 1) := by decide +kernel
theorem d_MenuScreensModel_press_50 : decode prog_13_method_27_code 50 = .ok (.invokevirtual 254, 3) := by decide +kernel
theorem d_MenuScreensModel_press_53 : decode prog_13_method_27_code 53 = .ok (.ifCond .ne 8, 3) := by decide +kernel
theorem d_MenuScreensModel_press_56 : decode prog_13_method_27_code 56 = .ok (.aload_n 0, 1) := by decide +kernel
theorem d_MenuScreensModel_press_57 : decode prog_13_method_27_code 57 = .ok (.iload_n 2, 1) := by decide +kernel
theorem d_MenuScreensModel_press_58 : decode prog_13_method_27_code 58 = .ok (.putfield 245, 3) := by decide +kernel
theorem d_MenuScreensModel_press_61 : decode prog_13_method_27_code 61 = .ok (.aload_n 0, 1) := by decide +kernel
theorem d_MenuScreensModel_press_62 : decode prog_13_method_27_code 62 = .ok (.getfield 245, 3) := by decide +kernel
theorem d_MenuScreensModel_press_65 : decode prog_13_method_27_code 65 = .ok (.ireturn, 1) := by decide +kernel
set_option maxRecDepth 100000 in
set_option maxHeartbeats 4000000 in
theorem cm_MenuScreensModel_press {l : Launch} {S0 : State} {b : Nat} {D : va_G} {dT : Nat → ClassId} (hE : vEnv S0 b D dT) {h0 : vH} {a : Nat} {ar : Nat → Nat} {x : Nat → Int32} {y : Nat → Int64} {A : Nat → Nat → Int32} {B : Nat → Nat → Int64} (M : MV S0 dT h0 a ar x y A B) (p1 : Int32) {pr n : Nat} (hpr : x 45 = nI pr) (hpr2 : pr ≤ n) (hn : x 20 = nI n) (hn2 : n ≤ 30) (hR : ∀ v, 1 ≤ v → v ≤ n → ∃ p q, A 21 v = nI p ∧ A 22 v = nI q ∧ p ≤ q ∧ q ≤ 4000) (hQ0 : ∀ q, ¬ A 27 q = 0 → ∃ p t, A 26 q = nI p ∧ A 27 q = nI t ∧ p ≤ t ∧ t ≤ 4000) : vMi l S0 D vcl GT y_MenuScreensModel_press prog_13_method_27_code 3 (some .int) 3 100 0 0 [.ref a, .int p1] h0 (fun r h' => ∃ x' y' A' B', MR S0 dT h0 h' a ar x' y' A' B' ∧ (y' = y ∧ A' = A ∧ B' = B ∧ (((p1 < 1 ∨ 9 < p1) ∧ r = -2 ∧ x' = upd x 0 0) ∨ (¬ p1 < 1 ∧ ¬ 9 < p1 ∧ pr = 0 ∧ r = -3 ∧ x' = upd x 0 0) ∨ ∃ k0, 1 ≤ k0 ∧ k0 ≤ 9 ∧ p1 = nI k0 ∧ 0 < pr ∧ ((0 < ldS A n (10 * pr + k0) ∧ (k0 = 9 ∨ ¬ (0 < pr ∧ B 24 pr < y 47))) ∧ r = nI (ldS A n (10 * pr + k0)) ∧ x' = upd (upd x 0 0) 45 (nI (ldS A n (10 * pr + k0))) ∨ ¬ (0 < ldS A n (10 * pr + k0) ∧ (k0 = 9 ∨ ¬ (0 < pr ∧ B 24 pr < y 47))) ∧ r = nI pr ∧ x' = upd x 0 0)))) := by
  unfold vMi
  refine vM_ofQ hE.1 (by decide) (Nat.le_of_ble_eq_true rfl) (fun p e s m args below meth c ls Q hQ C hr hlk hnm X hl => ?_)
  have C : vC p s m _ c _ _ "MenuScreensModel" GT D vcl (vty dT) := C
  have hx := C.1.1
  have hb := C.1.2.1
  replace M := MR.of M
  obtain ⟨H, eH⟩ : ∃ z, z = s.heap := ⟨_, rfl⟩
  obtain ⟨locs, elocs⟩ : ∃ z : List Loc, z = [] := ⟨_, rfl⟩
  rw [← eH, ← elocs] at X
  rw [← eH, ← elocs]
  clear eH elocs
  have hl : lv_has ls 3 [(0, .ref a), (1, .int p1)] := hl
  refine lv_aload_n hx hb d_MenuScreensModel_press_0 rfl (lv_at hl 0 rfl) ?_
  refine lv_iconst (v := 0) hx hb d_MenuScreensModel_press_1 (by decide) ?_
  refine mm_put C X M 0 p_12_127_13 (upd x 0 0) y rfl rfl rfl (by decide) d_MenuScreensModel_press_2 (fun h H locs X M => ?_)
  refine lv_iload_n hx hb d_MenuScreensModel_press_5 rfl (lv_at hl 1 rfl) ?_
  refine lv_iconst (v := 1) hx hb d_MenuScreensModel_press_6 (by decide) ?_
  refine lv_icmp_lt (tgt := 16) hx hb d_MenuScreensModel_press_7 (by decide) (fun c1 => ?_) (fun c1 => ?_)
  · skip
    refine lv_bipush (v := (-2)) hx hb d_MenuScreensModel_press_16 (by decide) ?_
    exact mq_iret hQ C X hr rfl hlk (⟨(upd x 0 0), y, A, B, M, rfl, rfl, rfl, Or.inl ⟨by clear X C hl hr; simp_all, rfl, rfl⟩⟩) (Nat.le_refl _) (Nat.le_refl _) d_MenuScreensModel_press_18
  · skip
    refine lv_iload_n hx hb d_MenuScreensModel_press_10 rfl (lv_at hl 1 rfl) ?_
    refine lv_bipush (v := 9) hx hb d_MenuScreensModel_press_11 (by decide) ?_
    refine lv_icmp_le (tgt := 19) hx hb d_MenuScreensModel_press_13 (by decide) (fun c2 => ?_) (fun c2 => ?_)
    · skip
      refine lv_aload_n hx hb d_MenuScreensModel_press_19 rfl (lv_at hl 0 rfl) ?_
      refine mm_get C X M 45 f_12_245_13 (.int (x 45)) rfl d_MenuScreensModel_press_20 ?_
      refine lv_if_ne (tgt := 29) hx hb d_MenuScreensModel_press_23 (by decide) (fun c3 => ?_) (fun c3 => ?_)
      · skip
        obtain ⟨k0, hk1, hk2, ek⟩ := ix_le1 (n := 9) c1 c2 (by decide)
        have hp0 : 0 < pr := by
          rcases Nat.eq_zero_or_pos pr with q | q
          · exact absurd (by rw [hpr, q]; rfl) c3
          · exact q
        refine lv_aload_n hx hb d_MenuScreensModel_press_29 rfl (lv_at hl 0 rfl) ?_
        refine lv_aload_n hx hb d_MenuScreensModel_press_30 rfl (lv_at hl 0 rfl) ?_
        refine mm_get C X M 45 f_12_245_13 (.int (x 45)) rfl d_MenuScreensModel_press_31 ?_
        refine lv_iload_n hx hb d_MenuScreensModel_press_34 rfl (lv_at hl 1 rfl) ?_
        refine mv_bi X (mv_rV (rest := []) (As := [.int (x 45), .int p1]) gt_good C X k_12_230 (cm_MenuScreensModel_leads hE M.1 _ _ (s0 := pr) (k0 := k0) (n := n) hpr ek (by omega) hk2 hn hn2 hR (hQ0 (10 * pr + k0))) M.1.1 rfl rfl ⟨by decide, by decide⟩ rfl hl.1 rfl (Nat.le_of_ble_eq_true rfl) d_MenuScreensModel_press_35 ⟨Nat.le_refl _, Nat.le_refl _⟩) (fun r4 hN H locs hp X => ?_)
        obtain ⟨ehr4, er4⟩ := hp
        rw [ehr4] at X
        refine lv_istore_n (lv' := [(2, .int r4), (0, .ref a), (1, .int p1)]) hx hb d_MenuScreensModel_press_38 rfl hl (by decide) rfl (fun ls hl => ?_)
        refine lv_iload_n hx hb d_MenuScreensModel_press_39 rfl (lv_at hl 0 rfl) ?_
        refine lv_if_le (tgt := 61) hx hb d_MenuScreensModel_press_40 (by decide) (fun c5 => ?_) (fun c5 => ?_)
        · skip
          refine lv_aload_n hx hb d_MenuScreensModel_press_61 rfl (lv_at hl 1 rfl) ?_
          refine mm_get C X M 45 f_12_245_13 (.int (x 45)) rfl d_MenuScreensModel_press_62 ?_
          exact mq_iret hQ C X hr rfl hlk (⟨(upd x 0 0), y, A, B, M, rfl, rfl, rfl, Or.inr (Or.inr ⟨k0, hk1, hk2, ek, hp0, Or.inr ⟨fun q => by
                have := nI_nle q.1 (by have := ldS_le A n (10 * pr + k0); omega)
                exact this (by rw [← er4]; exact c5), hpr, rfl⟩⟩)⟩) (Nat.le_refl _) (Nat.le_refl _) d_MenuScreensModel_press_65
        · skip
          refine lv_iload_n hx hb d_MenuScreensModel_press_43 rfl (lv_at hl 2 rfl) ?_
          refine lv_bipush (v := 9) hx hb d_MenuScreensModel_press_44 (by decide) ?_
          refine lv_icmp_eq (tgt := 56) hx hb d_MenuScreensModel_press_46 (by decide) (fun c6 => ?_) (fun c6 => ?_)
          · skip
            refine lv_aload_n hx hb d_MenuScreensModel_press_56 rfl (lv_at hl 1 rfl) ?_
            refine lv_iload_n hx hb d_MenuScreensModel_press_57 rfl (lv_at hl 0 rfl) ?_
            refine mm_put C X M 45 p_12_245_13 (upd (upd x 0 0) 45 r4) y rfl rfl rfl (by decide) d_MenuScreensModel_press_58 (fun h H locs X M => ?_)
            refine lv_aload_n hx hb d_MenuScreensModel_press_61 rfl (lv_at hl 1 rfl) ?_
            refine mm_get C X M 45 f_12_245_13 (.int r4) rfl d_MenuScreensModel_press_62 ?_
            exact mq_iret hQ C X hr rfl hlk (⟨(upd (upd x 0 0) 45 r4), y, A, B, M, rfl, rfl, rfl, Or.inr (Or.inr ⟨k0, hk1, hk2, ek, hp0, Or.inl ⟨⟨(by
                  rcases Nat.eq_zero_or_pos (ldS A n (10 * pr + k0)) with q | q
                  · exact absurd (by rw [er4, q]; decide) c5
                  · exact q), Or.inl (nI_eqI (by omega) (by decide) (by rw [← ek]; exact c6))⟩, er4, by rw [er4]⟩⟩)⟩) (Nat.le_refl _) (Nat.le_refl _) d_MenuScreensModel_press_65
          · skip
            refine lv_aload_n hx hb d_MenuScreensModel_press_49 rfl (lv_at hl 1 rfl) ?_
            refine mv_bi X (mv_rV (rest := []) (As := []) gt_good C X k_12_254 (cm_MenuScreensModel_barred hE M.1 (pr := pr) hpr (by omega)) M.1.1 rfl rfl ⟨by decide, by decide⟩ rfl hl.1 rfl (Nat.le_of_ble_eq_true rfl) d_MenuScreensModel_press_50 ⟨Nat.le_refl _, Nat.le_refl _⟩) (fun r7 hN H locs hp X => ?_)
            obtain ⟨ehr7, er7⟩ := hp
            rw [ehr7] at X
            refine lv_if_ne (tgt := 61) hx hb d_MenuScreensModel_press_53 (by decide) (fun c8 => ?_) (fun c8 => ?_)
            · skip
              refine lv_aload_n hx hb d_MenuScreensModel_press_61 rfl (lv_at hl 1 rfl) ?_
              refine mm_get C X M 45 f_12_245_13 (.int (x 45)) rfl d_MenuScreensModel_press_62 ?_
              exact mq_iret hQ C X hr rfl hlk (⟨(upd x 0 0), y, A, B, M, rfl, rfl, rfl, Or.inr (Or.inr ⟨k0, hk1, hk2, ek, hp0, Or.inr ⟨fun q => by
                    rcases q.2 with z | z
                    · exact c6 (by rw [ek, z]; rfl)
                    · exact c8 (by rw [er7, if_neg z]), hpr, rfl⟩⟩)⟩) (Nat.le_refl _) (Nat.le_refl _) d_MenuScreensModel_press_65
            · skip
              refine lv_aload_n hx hb d_MenuScreensModel_press_56 rfl (lv_at hl 1 rfl) ?_
              refine lv_iload_n hx hb d_MenuScreensModel_press_57 rfl (lv_at hl 0 rfl) ?_
              refine mm_put C X M 45 p_12_245_13 (upd (upd x 0 0) 45 r4) y rfl rfl rfl (by decide) d_MenuScreensModel_press_58 (fun h H locs X M => ?_)
              refine lv_aload_n hx hb d_MenuScreensModel_press_61 rfl (lv_at hl 1 rfl) ?_
              refine mm_get C X M 45 f_12_245_13 (.int r4) rfl d_MenuScreensModel_press_62 ?_
              exact mq_iret hQ C X hr rfl hlk (⟨(upd (upd x 0 0) 45 r4), y, A, B, M, rfl, rfl, rfl, Or.inr (Or.inr ⟨k0, hk1, hk2, ek, hp0, Or.inl ⟨⟨(by
                    rcases Nat.eq_zero_or_pos (ldS A n (10 * pr + k0)) with q | q
                    · exact absurd (by rw [er4, q]; decide) c5
                    · exact q), Or.inr (fun z => by rw [er7, if_pos z] at c8; exact absurd c8 (by decide))⟩, er4, by rw [er4]⟩⟩)⟩) (Nat.le_refl _) (Nat.le_refl _) d_MenuScreensModel_press_65
      · skip
        refine lv_bipush (v := (-3)) hx hb d_MenuScreensModel_press_26 (by decide) ?_
        exact mq_iret hQ C X hr rfl hlk (⟨(upd x 0 0), y, A, B, M, rfl, rfl, rfl, Or.inr (Or.inl ⟨c1, Int32.not_lt.mpr c2, nI_eqI (by omega) (by decide) (by rw [← hpr]; exact c3), rfl, rfl⟩)⟩) (Nat.le_refl _) (Nat.le_refl _) d_MenuScreensModel_press_28
    · skip
      refine lv_bipush (v := (-2)) hx hb d_MenuScreensModel_press_16 (by decide) ?_
      exact mq_iret hQ C X hr rfl hlk (⟨(upd x 0 0), y, A, B, M, rfl, rfl, rfl, Or.inl ⟨by clear X C hl hr; simp_all, rfl, rfl⟩⟩) (Nat.le_refl _) (Nat.le_refl _) d_MenuScreensModel_press_18
theorem d_MenuScreensModel_speed_0 : decode prog_13_method_32_code 0 = .ok (.aload_n 0, 1) := by decide +kernel
theorem d_MenuScreensModel_speed_1 : decode prog_13_method_32_code 1 = .ok (.iconst 0, 1) := by decide +kernel
theorem d_MenuScreensModel_speed_2 : decode prog_13_method_32_code 2 = .ok (.putfield 127, 3) := by decide +kernel
theorem d_MenuScreensModel_speed_5 : decode prog_13_method_32_code 5 = .ok (.lload_n 1, 1) := by decide +kernel
theorem d_MenuScreensModel_speed_6 : decode prog_13_method_32_code 6 = .ok (.lconst 0, 1) := by decide +kernel
theorem d_MenuScreensModel_speed_7 : decode prog_13_method_32_code 7 = .ok (.lcmp, 1) := by decide +kernel
theorem d_MenuScreensModel_speed_8 : decode prog_13_method_32_code 8 = .ok (.ifCond .lt 11, 3) := by decide +kernel
theorem d_MenuScreensModel_speed_11 : decode prog_13_method_32_code 11 = .ok (.lload_n 1, 1) := by decide +kernel
theorem d_MenuScreensModel_speed_12 : decode prog_13_method_32_code 12 = .ok (.ldc2_w 197, 3) := by decide +kernel
theorem d_MenuScreensModel_speed_15 : decode prog_13_method_32_code 15 = .ok (.lcmp, 1) := by decide +kernel
theorem d_MenuScreensModel_speed_16 : decode prog_13_method_32_code 16 = .ok (.ifCond .le 6, 3) := by decide +kernel
theorem d_MenuScreensModel_speed_19 : decode prog_13_method_32_code 19 = .ok (.bipush (-2), 2) := by decide +kernel
theorem d_MenuScreensModel_speed_21 : decode prog_13_method_32_code 21 = .ok (.ireturn, 1) := by decide +kernel
theorem d_MenuScreensModel_speed_22 : decode prog_13_method_32_code 22 = .ok (.aload_n 0, 1) := by decide +kernel
theorem d_MenuScreensModel_speed_23 : decode prog_13_method_32_code 23 = .ok (.lload_n 1, 1) := by decide +kernel
theorem d_MenuScreensModel_speed_24 : decode prog_13_method_32_code 24 = .ok (.putfield 251, 3) := by decide +kernel
theorem d_MenuScreensModel_speed_27 : decode prog_13_method_32_code 27 = .ok (.aload_n 0, 1) := by decide +kernel
theorem d_MenuScreensModel_speed_28 : decode prog_13_method_32_code 28 = .ok (.invokevirtual 254, 3) := by decide +kernel
theorem d_MenuScreensModel_speed_31 : decode prog_13_method_32_code 31 = .ok (.ifCond .eq 7, 3) := by decide +kernel
theorem d_MenuScreensModel_speed_34 : decode prog_13_method_32_code 34 = .ok (.iconst 1, 1) := by decide +kernel
theorem d_MenuScreensModel_speed_35 : decode prog_13_method_32_code 35 = .ok (.goto 4, 3) := by decide +kernel
theorem d_MenuScreensModel_speed_38 : decode prog_13_method_32_code 38 = .ok (.iconst 0, 1) := by decide +kernel
theorem d_MenuScreensModel_speed_39 : decode prog_13_method_32_code 39 = .ok (.ireturn, 1) := by decide +kernel
set_option maxRecDepth 100000 in
set_option maxHeartbeats 4000000 in
theorem cm_MenuScreensModel_speed {l : Launch} {S0 : State} {b : Nat} {D : va_G} {dT : Nat → ClassId} (hE : vEnv S0 b D dT) {h0 : vH} {a : Nat} {ar : Nat → Nat} {x : Nat → Int32} {y : Nat → Int64} {A : Nat → Nat → Int32} {B : Nat → Nat → Int64} (M : MV S0 dT h0 a ar x y A B) (p1 : Int64) {pr : Nat} (hpr : x 45 = nI pr) (hpr2 : pr ≤ 30) : vMi l S0 D vcl GT y_MenuScreensModel_speed prog_13_method_32_code 3 (some .int) 1 30 0 0 [.ref a, .long p1] h0 (fun r h' => ∃ x' y' A' B', MR S0 dT h0 h' a ar x' y' A' B' ∧ (x' = upd x 0 0 ∧ A' = A ∧ B' = B ∧ ((p1 < 0 ∨ 999 < p1) ∧ r = -2 ∧ y' = y ∨ ¬ p1 < 0 ∧ ¬ 999 < p1 ∧ r = (if 0 < pr ∧ B 24 pr < p1 then 1 else 0) ∧ y' = vp_updL y 47 p1))) := by
  unfold vMi
  refine vM_ofQ hE.1 (by decide) (Nat.le_of_ble_eq_true rfl) (fun p e s m args below meth c ls Q hQ C hr hlk hnm X hl => ?_)
  have C : vC p s m _ c _ _ "MenuScreensModel" GT D vcl (vty dT) := C
  have hx := C.1.1
  have hb := C.1.2.1
  replace M := MR.of M
  obtain ⟨H, eH⟩ : ∃ z, z = s.heap := ⟨_, rfl⟩
  obtain ⟨locs, elocs⟩ : ∃ z : List Loc, z = [] := ⟨_, rfl⟩
  rw [← eH, ← elocs] at X
  rw [← eH, ← elocs]
  clear eH elocs
  have hl : lv_has ls 3 [(0, .ref a), (1, .long p1)] := hl
  refine lv_aload_n hx hb d_MenuScreensModel_speed_0 rfl (lv_at hl 0 rfl) ?_
  refine lv_iconst (v := 0) hx hb d_MenuScreensModel_speed_1 (by decide) ?_
  refine mm_put C X M 0 p_12_127_13 (upd x 0 0) y rfl rfl rfl (by decide) d_MenuScreensModel_speed_2 (fun h H locs X M => ?_)
  refine lv_lload_n hx hb d_MenuScreensModel_speed_5 rfl (lv_at hl 1 rfl) ?_
  refine lv_lconst (v := 0) hx hb d_MenuScreensModel_speed_6 (by decide) ?_
  refine W.lcmp hx hb d_MenuScreensModel_speed_7 ?_
  refine lv_if_lt (tgt := 19) hx hb d_MenuScreensModel_speed_8 (by decide) (fun c1 => ?_) (fun c1 => ?_)
  · skip
    refine lv_bipush (v := (-2)) hx hb d_MenuScreensModel_speed_19 (by decide) ?_
    exact mq_iret hQ C X hr rfl hlk (⟨(upd x 0 0), y, A, B, M, rfl, rfl, rfl, Or.inl ⟨by clear X C hl hr; simp_all [lg_cmp_lt, lg_cmp_ge, lg_cmp_gt, lg_cmp_le, lg_cmp_eq], rfl, rfl⟩⟩) (Nat.le_refl _) (Nat.le_refl _) d_MenuScreensModel_speed_21
  · skip
    refine lv_lload_n hx hb d_MenuScreensModel_speed_11 rfl (lv_at hl 1 rfl) ?_
    refine lv_ldc2 (v := 999) hx hb C.1.2.2.2.1 (C.1.2.2.2.2 _ (gt_6 50 (by decide +kernel) rfl)) d_MenuScreensModel_speed_12 ?_
    refine W.lcmp hx hb d_MenuScreensModel_speed_15 ?_
    refine lv_if_le (tgt := 22) hx hb d_MenuScreensModel_speed_16 (by decide) (fun c2 => ?_) (fun c2 => ?_)
    · skip
      refine lv_aload_n hx hb d_MenuScreensModel_speed_22 rfl (lv_at hl 0 rfl) ?_
      refine lv_lload_n hx hb d_MenuScreensModel_speed_23 rfl (lv_at hl 1 rfl) ?_
      refine mm_put C X M 47 p_12_251_13 (upd x 0 0) (vp_updL y 47 p1) rfl rfl rfl (by decide) d_MenuScreensModel_speed_24 (fun h H locs X M => ?_)
      refine lv_aload_n hx hb d_MenuScreensModel_speed_27 rfl (lv_at hl 0 rfl) ?_
      refine mv_bi X (mv_rV (rest := []) (As := []) gt_good C X k_12_254 (cm_MenuScreensModel_barred hE M.1 (pr := pr) hpr (by omega)) M.1.1 rfl rfl ⟨by decide, by decide⟩ rfl hl.1 rfl (Nat.le_of_ble_eq_true rfl) d_MenuScreensModel_speed_28 ⟨Nat.le_refl _, Nat.le_refl _⟩) (fun r3 hN H locs hp X => ?_)
      obtain ⟨ehr3, er3⟩ := hp
      rw [ehr3] at X
      refine lv_if_eq (tgt := 38) hx hb d_MenuScreensModel_speed_31 (by decide) (fun c4 => ?_) (fun c4 => ?_)
      · skip
        refine lv_iconst (v := 0) hx hb d_MenuScreensModel_speed_38 (by decide) ?_
        exact mq_iret hQ C X hr rfl hlk (⟨(upd x 0 0), (vp_updL y 47 p1), A, B, M, rfl, rfl, rfl, Or.inr ⟨fun z => c1 ((lg_cmp_lt _ _).mpr z), fun z => absurd ((lg_cmp_gt _ _).mpr z) (Int32.not_lt.mpr c2), by
            by_cases z : 0 < pr ∧ B 24 pr < p1
            · exact absurd ((er3.trans (if_pos z)).symm.trans c4) (by decide)
            · rw [if_neg z], rfl⟩⟩) (Nat.le_refl _) (Nat.le_refl _) d_MenuScreensModel_speed_39
      · skip
        refine lv_iconst (v := 1) hx hb d_MenuScreensModel_speed_34 (by decide) ?_
        refine lv_goto (tgt := 39) hx hb d_MenuScreensModel_speed_35 (by decide) ?_
        exact mq_iret hQ C X hr rfl hlk (⟨(upd x 0 0), (vp_updL y 47 p1), A, B, M, rfl, rfl, rfl, Or.inr ⟨fun z => c1 ((lg_cmp_lt _ _).mpr z), fun z => absurd ((lg_cmp_gt _ _).mpr z) (Int32.not_lt.mpr c2), by
            by_cases z : 0 < pr ∧ B 24 pr < p1
            · rw [if_pos z]
            · exact absurd (er3.trans (if_neg z)) c4, rfl⟩⟩) (Nat.le_refl _) (Nat.le_refl _) d_MenuScreensModel_speed_39
    · skip
      refine lv_bipush (v := (-2)) hx hb d_MenuScreensModel_speed_19 (by decide) ?_
      exact mq_iret hQ C X hr rfl hlk (⟨(upd x 0 0), y, A, B, M, rfl, rfl, rfl, Or.inl ⟨by clear X C hl hr; simp_all [lg_cmp_lt, lg_cmp_ge, lg_cmp_gt, lg_cmp_le, lg_cmp_eq], rfl, rfl⟩⟩) (Nat.le_refl _) (Nat.le_refl _) d_MenuScreensModel_speed_21
