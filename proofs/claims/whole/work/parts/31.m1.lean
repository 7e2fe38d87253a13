theorem d_MenuScreensModel_language_0 : decode prog_13_method_33_code 0 = .ok (.aload_n 0, 1) := by decide +kernel
theorem d_MenuScreensModel_language_1 : decode prog_13_method_33_code 1 = .ok (.iconst 0, 1) := by decide +kernel
theorem d_MenuScreensModel_language_2 : decode prog_13_method_33_code 2 = .ok (.putfield 127, 3) := by decide +kernel
theorem d_MenuScreensModel_language_5 : decode prog_13_method_33_code 5 = .ok (.iload_n 1, 1) := by decide +kernel
theorem d_MenuScreensModel_language_6 : decode prog_13_method_33_code 6 = .ok (.ifCond .lt 8, 3) := by decide +kernel
theorem d_MenuScreensModel_language_9 : decode prog_13_method_33_code 9 = .ok (.iload_n 1, 1) := by decide +kernel
theorem d_MenuScreensModel_language_10 : decode prog_13_method_33_code 10 = .ok (.iconst 1, 1) := by decide +kernel
theorem d_MenuScreensModel_language_11 : decode prog_13_method_33_code 11 = .ok (.if_icmp .le 6, 3) := by decide +kernel
theorem d_MenuScreensModel_language_14 : decode prog_13_method_33_code 14 = .ok (.bipush (-2), 2) := by decide +kernel
theorem d_MenuScreensModel_language_16 : decode prog_13_method_33_code 16 = .ok (.ireturn, 1) := by decide +kernel
theorem d_MenuScreensModel_language_17 : decode prog_13_method_33_code 17 = .ok (.aload_n 0, 1) := by decide +kernel
theorem d_MenuScreensModel_language_18 : decode prog_13_method_33_code 18 = .ok (.getfield 264, 3) := by decide +kernel
theorem d_MenuScreensModel_language_21 : decode prog_13_method_33_code 21 = .ok (.istore_n 2, 1) := by decide +kernel
theorem d_MenuScreensModel_language_22 : decode prog_13_method_33_code 22 = .ok (.aload_n 0, 1) := by decide +kernel
theorem d_MenuScreensModel_language_23 : decode prog_13_method_33_code 23 = .ok (.iload_n 1, 1) := by decide +kernel
theorem d_MenuScreensModel_language_24 : decode prog_13_method_33_code 24 = .ok (.putfield 264, 3) := by decide +kernel
theorem d_MenuScreensModel_language_27 : decode prog_13_method_33_code 27 = .ok (.iload_n 2, 1) := by decide +kernel
theorem d_MenuScreensModel_language_28 : decode prog_13_method_33_code 28 = .ok (.ireturn, 1) := by decide +kernel
set_option maxRecDepth 100000 in
set_option maxHeartbeats 4000000 in
theorem cm_MenuScreensModel_language {l : Launch} {S0 : State} {b : Nat} {D : va_G} {dT : Nat → ClassId} (hE : vEnv S0 b D dT) {h0 : vH} {a : Nat} {ar : Nat → Nat} {x : Nat → Int32} {y : Nat → Int64} {A : Nat → Nat → Int32} {B : Nat → Nat → Int64} (M : MV S0 dT h0 a ar x y A B) (p1 : Int32) : vMi l S0 D vcl GT y_MenuScreensModel_language prog_13_method_33_code 3 (some .int) 0 0 0 0 [.ref a, .int p1] h0 (fun r h' => ∃ x' y' A' B', MR S0 dT h0 h' a ar x' y' A' B' ∧ (y' = y ∧ A' = A ∧ B' = B ∧ ((p1 < 0 ∨ 1 < p1) ∧ r = -2 ∧ x' = upd x 0 0 ∨ ¬ p1 < 0 ∧ ¬ 1 < p1 ∧ r = x 46 ∧ x' = upd (upd x 0 0) 46 p1))) := by
  unfold vMi
  refine vM_ofQ hE.1 (by decide) (Nat.le_of_ble_eq_true rfl) (fun p e s m args below meth c ls Q hQ C hr hlk hnm X hl => ?_)
  have C : vC p s m _ c _ _ "MenuScreensModel" GT D vcl (vty dT) := C
  have hx := C.1.1
  have hb := C.1.2.1
  replace M := MR.of M
  obtain ⟨H, eH⟩ : ∃ z, z = s.heap := ⟨_, rfl⟩
  obtain ⟨locs, elocs⟩ : ∃ z : List Loc, z = [] := ⟨_, rfl⟩
  rw [← eH, ← elocs] at X
  rw [← eH, ← elocs]
  clear eH elocs
  have hl : lv_has ls 3 [(0, .ref a), (1, .int p1)] := hl
  refine lv_aload_n hx hb d_MenuScreensModel_language_0 rfl (lv_at hl 0 rfl) ?_
  refine lv_iconst (v := 0) hx hb d_MenuScreensModel_language_1 (by decide) ?_
  refine mm_put C X M 0 p_12_127_13 (upd x 0 0) y rfl rfl rfl (by decide) d_MenuScreensModel_language_2 (fun h H locs X M => ?_)
  refine lv_iload_n hx hb d_MenuScreensModel_language_5 rfl (lv_at hl 1 rfl) ?_
  refine lv_if_lt (tgt := 14) hx hb d_MenuScreensModel_language_6 (by decide) (fun c1 => ?_) (fun c1 => ?_)
  · skip
    refine lv_bipush (v := (-2)) hx hb d_MenuScreensModel_language_14 (by decide) ?_
    exact mq_iret hQ C X hr rfl hlk (⟨(upd x 0 0), y, A, B, M, (by clear X C hl hr; simp_all [lg_cmp_lt, lg_cmp_ge, lg_cmp_gt, lg_cmp_le, lg_cmp_eq])⟩) (Nat.le_refl _) (Nat.le_refl _) d_MenuScreensModel_language_16
  · skip
    refine lv_iload_n hx hb d_MenuScreensModel_language_9 rfl (lv_at hl 1 rfl) ?_
    refine lv_iconst (v := 1) hx hb d_MenuScreensModel_language_10 (by decide) ?_
    refine lv_icmp_le (tgt := 17) hx hb d_MenuScreensModel_language_11 (by decide) (fun c2 => ?_) (fun c2 => ?_)
    · skip
      refine lv_aload_n hx hb d_MenuScreensModel_language_17 rfl (lv_at hl 0 rfl) ?_
      refine mm_get C X M 46 f_12_264_13 (.int (x 46)) rfl d_MenuScreensModel_language_18 ?_
      refine lv_istore_n (lv' := [(2, .int (x 46)), (0, .ref a), (1, .int p1)]) hx hb d_MenuScreensModel_language_21 rfl hl (by decide) rfl (fun ls hl => ?_)
      refine lv_aload_n hx hb d_MenuScreensModel_language_22 rfl (lv_at hl 1 rfl) ?_
      refine lv_iload_n hx hb d_MenuScreensModel_language_23 rfl (lv_at hl 2 rfl) ?_
      refine mm_put C X M 46 p_12_264_13 (upd (upd x 0 0) 46 p1) y rfl rfl rfl (by decide) d_MenuScreensModel_language_24 (fun h H locs X M => ?_)
      refine lv_iload_n hx hb d_MenuScreensModel_language_27 rfl (lv_at hl 0 rfl) ?_
      exact mq_iret hQ C X hr rfl hlk (⟨(upd (upd x 0 0) 46 p1), y, A, B, M, (by clear X C hl hr; simp_all [lg_cmp_lt, lg_cmp_ge, lg_cmp_gt, lg_cmp_le, lg_cmp_eq])⟩) (Nat.le_refl _) (Nat.le_refl _) d_MenuScreensModel_language_28
    · skip
      refine lv_bipush (v := (-2)) hx hb d_MenuScreensModel_language_14 (by decide) ?_
      exact mq_iret hQ C X hr rfl hlk (⟨(upd x 0 0), y, A, B, M, (by clear X C hl hr; simp_all [lg_cmp_lt, lg_cmp_ge, lg_cmp_gt, lg_cmp_le, lg_cmp_eq])⟩) (Nat.le_refl _) (Nat.le_refl _) d_MenuScreensModel_language_16
theorem d_MenuScreensModel_ring_0 : decode prog_13_method_34_code 0 = .ok (.aload_n 0, 1) := by decide +kernel
theorem d_MenuScreensModel_ring_1 : decode prog_13_method_34_code 1 = .ok (.iconst 0, 1) := by decide +kernel
theorem d_MenuScreensModel_ring_2 : decode prog_13_method_34_code 2 = .ok (.putfield 127, 3) := by decide +kernel
theorem d_MenuScreensModel_ring_5 : decode prog_13_method_34_code 5 = .ok (.iload_n 1, 1) := by decide +kernel
theorem d_MenuScreensModel_ring_6 : decode prog_13_method_34_code 6 = .ok (.ifCond .lt 11, 3) := by decide +kernel
theorem d_MenuScreensModel_ring_9 : decode prog_13_method_34_code 9 = .ok (.iload_n 1, 1) := by decide +kernel
theorem d_MenuScreensModel_ring_10 : decode prog_13_method_34_code 10 = .ok (.aload_n 0, 1) := by decide +kernel
theorem d_MenuScreensModel_ring_11 : decode prog_13_method_34_code 11 = .ok (.getfield 233, 3) := by decide +kernel
theorem d_MenuScreensModel_ring_14 : decode prog_13_method_34_code 14 = .ok (.if_icmp .lt 7, 3) := by decide +kernel
theorem d_MenuScreensModel_ring_17 : decode prog_13_method_34_code 17 = .ok (.iconst 0, 1) := by decide +kernel
theorem d_MenuScreensModel_ring_18 : decode prog_13_method_34_code 18 = .ok (.goto 9, 3) := by decide +kernel
theorem d_MenuScreensModel_ring_21 : decode prog_13_method_34_code 21 = .ok (.aload_n 0, 1) := by decide +kernel
theorem d_MenuScreensModel_ring_22 : decode prog_13_method_34_code 22 = .ok (.getfield 105, 3) := by decide +kernel
theorem d_MenuScreensModel_ring_25 : decode prog_13_method_34_code 25 = .ok (.iload_n 1, 1) := by decide +kernel
theorem d_MenuScreensModel_ring_26 : decode prog_13_method_34_code 26 = .ok (.iaload, 1) := by decide +kernel
theorem d_MenuScreensModel_ring_27 : decode prog_13_method_34_code 27 = .ok (.ireturn, 1) := by decide +kernel
set_option maxRecDepth 100000 in
set_option maxHeartbeats 4000000 in
theorem cm_MenuScreensModel_ring {l : Launch} {S0 : State} {b : Nat} {D : va_G} {dT : Nat → ClassId} (hE : vEnv S0 b D dT) {h0 : vH} {a : Nat} {ar : Nat → Nat} {x : Nat → Int32} {y : Nat → Int64} {A : Nat → Nat → Int32} {B : Nat → Nat → Int64} (M : MV S0 dT h0 a ar x y A B) (p1 : Int32) {nr : Nat} (hnr : x 48 = nI nr) (hnr2 : nr ≤ 30) : vMi l S0 D vcl GT y_MenuScreensModel_ring prog_13_method_34_code 2 (some .int) 0 0 0 0 [.ref a, .int p1] h0 (fun r h' => ∃ x' y' A' B', MR S0 dT h0 h' a ar x' y' A' B' ∧ (x' = upd x 0 0 ∧ y' = y ∧ A' = A ∧ B' = B ∧ ((p1 < 0 ∨ x 48 ≤ p1) ∧ r = 0 ∨ ∃ j, j < nr ∧ p1 = nI j ∧ r = A 49 j))) := by
  unfold vMi
  refine vM_ofQ hE.1 (by decide) (Nat.le_of_ble_eq_true rfl) (fun p e s m args below meth c ls Q hQ C hr hlk hnm X hl => ?_)
  have C : vC p s m _ c _ _ "MenuScreensModel" GT D vcl (vty dT) := C
  have hx := C.1.1
  have hb := C.1.2.1
  replace M := MR.of M
  obtain ⟨H, eH⟩ : ∃ z, z = s.heap := ⟨_, rfl⟩
  obtain ⟨locs, elocs⟩ : ∃ z : List Loc, z = [] := ⟨_, rfl⟩
  rw [← eH, ← elocs] at X
  rw [← eH, ← elocs]
  clear eH elocs
  have hl : lv_has ls 2 [(0, .ref a), (1, .int p1)] := hl
  refine lv_aload_n hx hb d_MenuScreensModel_ring_0 rfl (lv_at hl 0 rfl) ?_
  refine lv_iconst (v := 0) hx hb d_MenuScreensModel_ring_1 (by decide) ?_
  refine mm_put C X M 0 p_12_127_13 (upd x 0 0) y rfl rfl rfl (by decide) d_MenuScreensModel_ring_2 (fun h H locs X M => ?_)
  refine lv_iload_n hx hb d_MenuScreensModel_ring_5 rfl (lv_at hl 1 rfl) ?_
  refine lv_if_lt (tgt := 17) hx hb d_MenuScreensModel_ring_6 (by decide) (fun c1 => ?_) (fun c1 => ?_)
  · skip
    refine lv_iconst (v := 0) hx hb d_MenuScreensModel_ring_17 (by decide) ?_
    refine lv_goto (tgt := 27) hx hb d_MenuScreensModel_ring_18 (by decide) ?_
    exact mq_iret hQ C X hr rfl hlk (⟨(upd x 0 0), y, A, B, M, ⟨rfl, rfl, rfl, rfl, Or.inl ⟨by clear X C hl hr; simp_all, rfl⟩⟩⟩) (Nat.le_refl _) (Nat.le_refl _) d_MenuScreensModel_ring_27
  · skip
    refine lv_iload_n hx hb d_MenuScreensModel_ring_9 rfl (lv_at hl 1 rfl) ?_
    refine lv_aload_n hx hb d_MenuScreensModel_ring_10 rfl (lv_at hl 0 rfl) ?_
    refine mm_get C X M 48 f_12_233_13 (.int (x 48)) rfl d_MenuScreensModel_ring_11 ?_
    refine lv_icmp_lt (tgt := 21) hx hb d_MenuScreensModel_ring_14 (by decide) (fun c2 => ?_) (fun c2 => ?_)
    · skip
      obtain ⟨j, hj, ej⟩ := ix_lt c1 (by rw [← hnr]; exact c2) (by omega)
      refine lv_aload_n hx hb d_MenuScreensModel_ring_21 rfl (lv_at hl 0 rfl) ?_
      refine mm_get C X M 49 f_12_105_13 (.ref (ar 49)) rfl d_MenuScreensModel_ring_22 ?_
      refine lv_iload_n hx hb d_MenuScreensModel_ring_25 rfl (lv_at hl 1 rfl) ?_
      refine mm_iald C X M 49 30 rfl (A 49) rfl (by decide) j ej (by omega) d_MenuScreensModel_ring_26 ?_
      exact mq_iret hQ C X hr rfl hlk (⟨(upd x 0 0), y, A, B, M, ⟨rfl, rfl, rfl, rfl, Or.inr ⟨j, hj, ej, rfl⟩⟩⟩) (Nat.le_refl _) (Nat.le_refl _) d_MenuScreensModel_ring_27
    · skip
      refine lv_iconst (v := 0) hx hb d_MenuScreensModel_ring_17 (by decide) ?_
      refine lv_goto (tgt := 27) hx hb d_MenuScreensModel_ring_18 (by decide) ?_
      exact mq_iret hQ C X hr rfl hlk (⟨(upd x 0 0), y, A, B, M, ⟨rfl, rfl, rfl, rfl, Or.inl ⟨by clear X C hl hr; simp_all, rfl⟩⟩⟩) (Nat.le_refl _) (Nat.le_refl _) d_MenuScreensModel_ring_27
theorem d_MenuScreensModel_warn_0 : decode prog_13_method_35_code 0 = .ok (.aload_n 0, 1) := by decide +kernel
theorem d_MenuScreensModel_warn_1 : decode prog_13_method_35_code 1 = .ok (.iconst 0, 1) := by decide +kernel
theorem d_MenuScreensModel_warn_2 : decode prog_13_method_35_code 2 = .ok (.putfield 127, 3) := by decide +kernel
theorem d_MenuScreensModel_warn_5 : decode prog_13_method_35_code 5 = .ok (.iload_n 1, 1) := by decide +kernel
theorem d_MenuScreensModel_warn_6 : decode prog_13_method_35_code 6 = .ok (.ifCond .lt 18, 3) := by decide +kernel
theorem d_MenuScreensModel_warn_9 : decode prog_13_method_35_code 9 = .ok (.iload_n 1, 1) := by decide +kernel
theorem d_MenuScreensModel_warn_10 : decode prog_13_method_35_code 10 = .ok (.bipush 99, 2) := by decide +kernel
theorem d_MenuScreensModel_warn_12 : decode prog_13_method_35_code 12 = .ok (.if_icmp .gt 12, 3) := by decide +kernel
theorem d_MenuScreensModel_warn_15 : decode prog_13_method_35_code 15 = .ok (.lload_n 2, 1) := by decide +kernel
theorem d_MenuScreensModel_warn_16 : decode prog_13_method_35_code 16 = .ok (.aload_n 0, 1) := by decide +kernel
theorem d_MenuScreensModel_warn_17 : decode prog_13_method_35_code 17 = .ok (.getfield 273, 3) := by decide +kernel
theorem d_MenuScreensModel_warn_20 : decode prog_13_method_35_code 20 = .ok (.lcmp, 1) := by decide +kernel
theorem d_MenuScreensModel_warn_21 : decode prog_13_method_35_code 21 = .ok (.ifCond .ge 6, 3) := by decide +kernel
theorem d_MenuScreensModel_warn_24 : decode prog_13_method_35_code 24 = .ok (.bipush (-2), 2) := by decide +kernel
theorem d_MenuScreensModel_warn_26 : decode prog_13_method_35_code 26 = .ok (.ireturn, 1) := by decide +kernel
theorem d_MenuScreensModel_warn_27 : decode prog_13_method_35_code 27 = .ok (.aload_n 0, 1) := by decide +kernel
theorem d_MenuScreensModel_warn_28 : decode prog_13_method_35_code 28 = .ok (.getfield 276, 3) := by decide +kernel
theorem d_MenuScreensModel_warn_31 : decode prog_13_method_35_code 31 = .ok (.sipush 200, 3) := by decide +kernel
theorem d_MenuScreensModel_warn_34 : decode prog_13_method_35_code 34 = .ok (.if_icmp .ne 6, 3) := by decide +kernel
theorem d_MenuScreensModel_warn_37 : decode prog_13_method_35_code 37 = .ok (.bipush (-4), 2) := by decide +kernel
theorem d_MenuScreensModel_warn_39 : decode prog_13_method_35_code 39 = .ok (.ireturn, 1) := by decide +kernel
theorem d_MenuScreensModel_warn_40 : decode prog_13_method_35_code 40 = .ok (.aload_n 0, 1) := by decide +kernel
theorem d_MenuScreensModel_warn_41 : decode prog_13_method_35_code 41 = .ok (.lload_n 2, 1) := by decide +kernel
theorem d_MenuScreensModel_warn_42 : decode prog_13_method_35_code 42 = .ok (.putfield 273, 3) := by decide +kernel
theorem d_MenuScreensModel_warn_45 : decode prog_13_method_35_code 45 = .ok (.aload_n 0, 1) := by decide +kernel
theorem d_MenuScreensModel_warn_46 : decode prog_13_method_35_code 46 = .ok (.dup, 1) := by decide +kernel
theorem d_MenuScreensModel_warn_47 : decode prog_13_method_35_code 47 = .ok (.getfield 276, 3) := by decide +kernel
theorem d_MenuScreensModel_warn_50 : decode prog_13_method_35_code 50 = .ok (.iconst 1, 1) := by decide +kernel
theorem d_MenuScreensModel_warn_51 : decode prog_13_method_35_code 51 = .ok (.iadd, 1) := by decide +kernel
theorem d_MenuScreensModel_warn_52 : decode prog_13_method_35_code 52 = .ok (.putfield 276, 3) := by decide +kernel
theorem d_MenuScreensModel_warn_55 : decode prog_13_method_35_code 55 = .ok (.aload_n 0, 1) := by decide +kernel
theorem d_MenuScreensModel_warn_56 : decode prog_13_method_35_code 56 = .ok (.getfield 108, 3) := by decide +kernel
theorem d_MenuScreensModel_warn_59 : decode prog_13_method_35_code 59 = .ok (.aload_n 0, 1) := by decide +kernel
theorem d_MenuScreensModel_warn_60 : decode prog_13_method_35_code 60 = .ok (.getfield 276, 3) := by decide +kernel
theorem d_MenuScreensModel_warn_63 : decode prog_13_method_35_code 63 = .ok (.iload_n 1, 1) := by decide +kernel
theorem d_MenuScreensModel_warn_64 : decode prog_13_method_35_code 64 = .ok (.iastore, 1) := by decide +kernel
theorem d_MenuScreensModel_warn_65 : decode prog_13_method_35_code 65 = .ok (.aload_n 0, 1) := by decide +kernel
theorem d_MenuScreensModel_warn_66 : decode prog_13_method_35_code 66 = .ok (.getfield 111, 3) := by decide +kernel
theorem d_MenuScreensModel_warn_69 : decode prog_13_method_35_code 69 = .ok (.aload_n 0, 1) := by decide +kernel
theorem d_MenuScreensModel_warn_70 : decode prog_13_method_35_code 70 = .ok (.getfield 276, 3) := by decide +kernel
theorem d_MenuScreensModel_warn_73 : decode prog_13_method_35_code 73 = .ok (.lload_n 2, 1) := by decide +kernel
theorem d_MenuScreensModel_warn_74 : decode prog_13_method_35_code 74 = .ok (.lastore, 1) := by decide +kernel
theorem d_MenuScreensModel_warn_75 : decode prog_13_method_35_code 75 = .ok (.aload_n 0, 1) := by decide +kernel
theorem d_MenuScreensModel_warn_76 : decode prog_13_method_35_code 76 = .ok (.getfield 276, 3) := by decide +kernel
theorem d_MenuScreensModel_warn_79 : decode prog_13_method_35_code 79 = .ok (.ireturn, 1) := by decide +kernel
set_option maxRecDepth 100000 in
set_option maxHeartbeats 4000000 in
theorem cm_MenuScreensModel_warn {l : Launch} {S0 : State} {b : Nat} {D : va_G} {dT : Nat → ClassId} (hE : vEnv S0 b D dT) {h0 : vH} {a : Nat} {ar : Nat → Nat} {x : Nat → Int32} {y : Nat → Int64} {A : Nat → Nat → Int32} {B : Nat → Nat → Int64} (M : MV S0 dT h0 a ar x y A B) (p1 : Int32) (p2 : Int64) {n : Nat} (hn : x 50 = nI n) (hn2 : n ≤ 200) : vMi l S0 D vcl GT y_MenuScreensModel_warn prog_13_method_35_code 4 (some .int) 0 0 0 0 [.ref a, .int p1, .long p2] h0 (fun r h' => ∃ x' y' A' B', MR S0 dT h0 h' a ar x' y' A' B' ∧ (((p1 < 0 ∨ 99 < p1 ∨ p2 < y 54) ∧ r = -2 ∧ x' = upd x 0 0 ∧ y' = y ∧ A' = A ∧ B' = B) ∨ (¬ p1 < 0 ∧ ¬ 99 < p1 ∧ ¬ p2 < y 54 ∧ n = 200 ∧ r = -4 ∧ x' = upd x 0 0 ∧ y' = y ∧ A' = A ∧ B' = B) ∨ (¬ p1 < 0 ∧ ¬ 99 < p1 ∧ ¬ p2 < y 54 ∧ n < 200 ∧ r = nI (n + 1) ∧ x' = upd (upd x 0 0) 50 (nI (n + 1)) ∧ y' = vp_updL y 54 p2 ∧ A' = va_up A 51 (upd (A 51) (n + 1) p1) ∧ B' = va_up B 52 (vp_updL (B 52) (n + 1) p2)))) := by
  unfold vMi
  refine vM_ofQ hE.1 (by decide) (Nat.le_of_ble_eq_true rfl) (fun p e s m args below meth c ls Q hQ C hr hlk hnm X hl => ?_)
  have C : vC p s m _ c _ _ "MenuScreensModel" GT D vcl (vty dT) := C
  have hx := C.1.1
  have hb := C.1.2.1
  replace M := MR.of M
  obtain ⟨H, eH⟩ : ∃ z, z = s.heap := ⟨_, rfl⟩
  obtain ⟨locs, elocs⟩ : ∃ z : List Loc, z = [] := ⟨_, rfl⟩
  rw [← eH, ← elocs] at X
  rw [← eH, ← elocs]
  clear eH elocs
  have hl : lv_has ls 4 [(0, .ref a), (1, .int p1), (2, .long p2)] := hl
  refine lv_aload_n hx hb d_MenuScreensModel_warn_0 rfl (lv_at hl 0 rfl) ?_
  refine lv_iconst (v := 0) hx hb d_MenuScreensModel_warn_1 (by decide) ?_
  refine mm_put C X M 0 p_12_127_13 (upd x 0 0) y rfl rfl rfl (by decide) d_MenuScreensModel_warn_2 (fun h H locs X M => ?_)
  refine lv_iload_n hx hb d_MenuScreensModel_warn_5 rfl (lv_at hl 1 rfl) ?_
  refine lv_if_lt (tgt := 24) hx hb d_MenuScreensModel_warn_6 (by decide) (fun c1 => ?_) (fun c1 => ?_)
  · skip
    refine lv_bipush (v := (-2)) hx hb d_MenuScreensModel_warn_24 (by decide) ?_
    exact mq_iret hQ C X hr rfl hlk (⟨(upd x 0 0), y, A, B, M, Or.inl ⟨by clear X C hl hr; simp_all [lg_cmp_lt, lg_cmp_ge, lg_cmp_gt, lg_cmp_le, lg_cmp_eq], rfl, rfl, rfl, rfl, rfl⟩⟩) (Nat.le_refl _) (Nat.le_refl _) d_MenuScreensModel_warn_26
  · skip
    refine lv_iload_n hx hb d_MenuScreensModel_warn_9 rfl (lv_at hl 1 rfl) ?_
    refine lv_bipush (v := 99) hx hb d_MenuScreensModel_warn_10 (by decide) ?_
    refine lv_icmp_gt (tgt := 24) hx hb d_MenuScreensModel_warn_12 (by decide) (fun c2 => ?_) (fun c2 => ?_)
    · skip
      refine lv_bipush (v := (-2)) hx hb d_MenuScreensModel_warn_24 (by decide) ?_
      exact mq_iret hQ C X hr rfl hlk (⟨(upd x 0 0), y, A, B, M, Or.inl ⟨by clear X C hl hr; simp_all [lg_cmp_lt, lg_cmp_ge, lg_cmp_gt, lg_cmp_le, lg_cmp_eq], rfl, rfl, rfl, rfl, rfl⟩⟩) (Nat.le_refl _) (Nat.le_refl _) d_MenuScreensModel_warn_26
    · skip
      refine lv_lload_n hx hb d_MenuScreensModel_warn_15 rfl (lv_at hl 2 rfl) ?_
      refine lv_aload_n hx hb d_MenuScreensModel_warn_16 rfl (lv_at hl 0 rfl) ?_
      refine mm_get C X M 54 f_12_273_13 (.long (y 54)) rfl d_MenuScreensModel_warn_17 ?_
      refine W.lcmp hx hb d_MenuScreensModel_warn_20 ?_
      refine lv_if_ge (tgt := 27) hx hb d_MenuScreensModel_warn_21 (by decide) (fun c3 => ?_) (fun c3 => ?_)
      · skip
        refine lv_aload_n hx hb d_MenuScreensModel_warn_27 rfl (lv_at hl 0 rfl) ?_
        refine mm_get C X M 50 f_12_276_13 (.int (x 50)) rfl d_MenuScreensModel_warn_28 ?_
        refine lv_sipush (v := 200) hx hb d_MenuScreensModel_warn_31 (by decide) ?_
        refine lv_icmp_ne (tgt := 40) hx hb d_MenuScreensModel_warn_34 (by decide) (fun c4 => ?_) (fun c4 => ?_)
        · skip
          have hlt : n < 200 := by
            have := nI_neI (a := n) (b := 200) (by omega) (by decide) (fun q => c4 (by rw [hn]; exact q))
            omega
          have e50 : x 50 + 1 = nI (n + 1) := by rw [hn]; exact nI_1 n
          refine lv_aload_n hx hb d_MenuScreensModel_warn_40 rfl (lv_at hl 0 rfl) ?_
          refine lv_lload_n hx hb d_MenuScreensModel_warn_41 rfl (lv_at hl 2 rfl) ?_
          refine mm_put C X M 54 p_12_273_13 (upd x 0 0) (vp_updL y 54 p2) rfl rfl rfl (by decide) d_MenuScreensModel_warn_42 (fun h H locs X M => ?_)
          refine lv_aload_n hx hb d_MenuScreensModel_warn_45 rfl (lv_at hl 0 rfl) ?_
          refine lv_dup hx hb d_MenuScreensModel_warn_46 rfl ?_
          refine mm_get C X M 50 f_12_276_13 (.int (x 50)) rfl d_MenuScreensModel_warn_47 ?_
          refine lv_iconst (v := 1) hx hb d_MenuScreensModel_warn_50 (by decide) ?_
          refine lv_iadd hx hb d_MenuScreensModel_warn_51 ?_
          refine mm_put C X M 50 p_12_276_13 (upd (upd x 0 0) 50 ((x 50) + 1)) (vp_updL y 54 p2) rfl rfl rfl (by decide) d_MenuScreensModel_warn_52 (fun h H locs X M => ?_)
          refine lv_aload_n hx hb d_MenuScreensModel_warn_55 rfl (lv_at hl 0 rfl) ?_
          refine mm_get C X M 51 f_12_108_13 (.ref (ar 51)) rfl d_MenuScreensModel_warn_56 ?_
          refine lv_aload_n hx hb d_MenuScreensModel_warn_59 rfl (lv_at hl 0 rfl) ?_
          refine mm_get C X M 50 f_12_276_13 (.int ((x 50) + 1)) rfl d_MenuScreensModel_warn_60 ?_
          refine lv_iload_n hx hb d_MenuScreensModel_warn_63 rfl (lv_at hl 1 rfl) ?_
          refine mm_iast C X M 51 201 rfl (A 51) rfl (fun _ => rfl) (by decide) (n + 1) e50 (by omega) d_MenuScreensModel_warn_64 (fun h H locs X M => ?_)
          refine lv_aload_n hx hb d_MenuScreensModel_warn_65 rfl (lv_at hl 0 rfl) ?_
          refine mm_get C X M 52 f_12_111_13 (.ref (ar 52)) rfl d_MenuScreensModel_warn_66 ?_
          refine lv_aload_n hx hb d_MenuScreensModel_warn_69 rfl (lv_at hl 0 rfl) ?_
          refine mm_get C X M 50 f_12_276_13 (.int ((x 50) + 1)) rfl d_MenuScreensModel_warn_70 ?_
          refine lv_lload_n hx hb d_MenuScreensModel_warn_73 rfl (lv_at hl 2 rfl) ?_
          refine mm_last C X M 52 201 rfl (B 52) rfl (fun _ => rfl) (by decide) (n + 1) e50 (by omega) d_MenuScreensModel_warn_74 (fun h H locs X M => ?_)
          refine lv_aload_n hx hb d_MenuScreensModel_warn_75 rfl (lv_at hl 0 rfl) ?_
          refine mm_get C X M 50 f_12_276_13 (.int ((x 50) + 1)) rfl d_MenuScreensModel_warn_76 ?_
          exact mq_iret hQ C X hr rfl hlk (⟨(upd (upd x 0 0) 50 ((x 50) + 1)), (vp_updL y 54 p2), (va_up A 51 (upd (A 51) (n + 1) p1)), (va_up B 52 (vp_updL (B 52) (n + 1) p2)), M, Or.inr (Or.inr ⟨c1, c2, by have := (lg_cmp_ge _ _).mp c3; exact Int64.not_lt.mpr this, hlt, e50, by rw [← e50], rfl, rfl, rfl⟩)⟩) (Nat.le_refl _) (Nat.le_refl _) d_MenuScreensModel_warn_79
        · skip
          refine lv_bipush (v := (-4)) hx hb d_MenuScreensModel_warn_37 (by decide) ?_
          exact mq_iret hQ C X hr rfl hlk (⟨(upd x 0 0), y, A, B, M, Or.inr (Or.inl ⟨c1, c2, by have := (lg_cmp_ge _ _).mp c3; exact Int64.not_lt.mpr this, nI_eqI (by omega) (by decide) (by rw [← hn]; exact c4), rfl, rfl, rfl, rfl, rfl⟩)⟩) (Nat.le_refl _) (Nat.le_refl _) d_MenuScreensModel_warn_39
      · skip
        refine lv_bipush (v := (-2)) hx hb d_MenuScreensModel_warn_24 (by decide) ?_
        exact mq_iret hQ C X hr rfl hlk (⟨(upd x 0 0), y, A, B, M, Or.inl ⟨by clear X C hl hr; simp_all [lg_cmp_lt, lg_cmp_ge, lg_cmp_gt, lg_cmp_le, lg_cmp_eq], rfl, rfl, rfl, rfl, rfl⟩⟩) (Nat.le_refl _) (Nat.le_refl _) d_MenuScreensModel_warn_26
theorem d_MenuScreensModel_trip_0 : decode prog_13_method_40_code 0 = .ok (.aload_n 0, 1) := by decide +kernel
theorem d_MenuScreensModel_trip_1 : decode prog_13_method_40_code 1 = .ok (.iconst 0, 1) := by decide +kernel
theorem d_MenuScreensModel_trip_2 : decode prog_13_method_40_code 2 = .ok (.putfield 127, 3) := by decide +kernel
theorem d_MenuScreensModel_trip_5 : decode prog_13_method_40_code 5 = .ok (.lload_n 1, 1) := by decide +kernel
theorem d_MenuScreensModel_trip_6 : decode prog_13_method_40_code 6 = .ok (.lconst 0, 1) := by decide +kernel
theorem d_MenuScreensModel_trip_7 : decode prog_13_method_40_code 7 = .ok (.lcmp, 1) := by decide +kernel
theorem d_MenuScreensModel_trip_8 : decode prog_13_method_40_code 8 = .ok (.ifCond .lt 25, 3) := by decide +kernel
theorem d_MenuScreensModel_trip_11 : decode prog_13_method_40_code 11 = .ok (.lload_n 1, 1) := by decide +kernel
theorem d_MenuScreensModel_trip_12 : decode prog_13_method_40_code 12 = .ok (.ldc2_w 285, 3) := by decide +kernel
theorem d_MenuScreensModel_trip_15 : decode prog_13_method_40_code 15 = .ok (.lcmp, 1) := by decide +kernel
theorem d_MenuScreensModel_trip_16 : decode prog_13_method_40_code 16 = .ok (.ifCond .gt 17, 3) := by decide +kernel
theorem d_MenuScreensModel_trip_19 : decode prog_13_method_40_code 19 = .ok (.lload_n 3, 1) := by decide +kernel
theorem d_MenuScreensModel_trip_20 : decode prog_13_method_40_code 20 = .ok (.lconst 0, 1) := by decide +kernel
theorem d_MenuScreensModel_trip_21 : decode prog_13_method_40_code 21 = .ok (.lcmp, 1) := by decide +kernel
theorem d_MenuScreensModel_trip_22 : decode prog_13_method_40_code 22 = .ok (.ifCond .lt 11, 3) := by decide +kernel
theorem d_MenuScreensModel_trip_25 : decode prog_13_method_40_code 25 = .ok (.lload_n 3, 1) := by decide +kernel
theorem d_MenuScreensModel_trip_26 : decode prog_13_method_40_code 26 = .ok (.ldc2_w 285, 3) := by decide +kernel
theorem d_MenuScreensModel_trip_29 : decode prog_13_method_40_code 29 = .ok (.lcmp, 1) := by decide +kernel
theorem d_MenuScreensModel_trip_30 : decode prog_13_method_40_code 30 = .ok (.ifCond .le 6, 3) := by decide +kernel
theorem d_MenuScreensModel_trip_33 : decode prog_13_method_40_code 33 = .ok (.bipush (-2), 2) := by decide +kernel
theorem d_MenuScreensModel_trip_35 : decode prog_13_method_40_code 35 = .ok (.ireturn, 1) := by decide +kernel
theorem d_MenuScreensModel_trip_36 : decode prog_13_method_40_code 36 = .ok (.aload_n 0, 1) := by decide +kernel
theorem d_MenuScreensModel_trip_37 : decode prog_13_method_40_code 37 = .ok (.aload_n 0, 1) := by decide +kernel
theorem d_MenuScreensModel_trip_38 : decode prog_13_method_40_code 38 = .ok (.getfield 287, 3) := by decide +kernel
theorem d_MenuScreensModel_trip_41 : decode prog_13_method_40_code 41 = .ok (.lload_n 1, 1) := by decide +kernel
theorem d_MenuScreensModel_trip_42 : decode prog_13_method_40_code 42 = .ok (.ladd, 1) := by decide +kernel
theorem d_MenuScreensModel_trip_43 : decode prog_13_method_40_code 43 = .ok (.putfield 287, 3) := by decide +kernel
theorem d_MenuScreensModel_trip_46 : decode prog_13_method_40_code 46 = .ok (.aload_n 0, 1) := by decide +kernel
theorem d_MenuScreensModel_trip_47 : decode prog_13_method_40_code 47 = .ok (.aload_n 0, 1) := by decide +kernel
theorem d_MenuScreensModel_trip_48 : decode prog_13_method_40_code 48 = .ok (.getfield 290, 3) := by decide +kernel
theorem d_MenuScreensModel_trip_51 : decode prog_13_method_40_code 51 = .ok (.lload_n 3, 1) := by decide +kernel
theorem d_MenuScreensModel_trip_52 : decode prog_13_method_40_code 52 = .ok (.ladd, 1) := by decide +kernel
theorem d_MenuScreensModel_trip_53 : decode prog_13_method_40_code 53 = .ok (.putfield 290, 3) := by decide +kernel
theorem d_MenuScreensModel_trip_56 : decode prog_13_method_40_code 56 = .ok (.aload_n 0, 1) := by decide +kernel
theorem d_MenuScreensModel_trip_57 : decode prog_13_method_40_code 57 = .ok (.dup, 1) := by decide +kernel
theorem d_MenuScreensModel_trip_58 : decode prog_13_method_40_code 58 = .ok (.getfield 293, 3) := by decide +kernel
theorem d_MenuScreensModel_trip_61 : decode prog_13_method_40_code 61 = .ok (.iconst 1, 1) := by decide +kernel
theorem d_MenuScreensModel_trip_62 : decode prog_13_method_40_code 62 = .ok (.iadd, 1) := by decide +kernel
theorem d_MenuScreensModel_trip_63 : decode prog_13_method_40_code 63 = .ok (.putfield 293, 3) := by decide +kernel
theorem d_MenuScreensModel_trip_66 : decode prog_13_method_40_code 66 = .ok (.aload_n 0, 1) := by decide +kernel
theorem d_MenuScreensModel_trip_67 : decode prog_13_method_40_code 67 = .ok (.getfield 293, 3) := by decide +kernel
theorem d_MenuScreensModel_trip_70 : decode prog_13_method_40_code 70 = .ok (.ireturn, 1) := by decide +kernel
set_option maxRecDepth 100000 in
set_option maxHeartbeats 4000000 in
theorem cm_MenuScreensModel_trip {l : Launch} {S0 : State} {b : Nat} {D : va_G} {dT : Nat → ClassId} (hE : vEnv S0 b D dT) {h0 : vH} {a : Nat} {ar : Nat → Nat} {x : Nat → Int32} {y : Nat → Int64} {A : Nat → Nat → Int32} {B : Nat → Nat → Int64} (M : MV S0 dT h0 a ar x y A B) (p1 : Int64) (p2 : Int64) : vMi l S0 D vcl GT y_MenuScreensModel_trip prog_13_method_40_code 5 (some .int) 0 0 0 0 [.ref a, .long p1, .long p2] h0 (fun r h' => ∃ x' y' A' B', MR S0 dT h0 h' a ar x' y' A' B' ∧ (A' = A ∧ B' = B ∧ ((p1 < 0 ∨ 1000000000 < p1 ∨ p2 < 0 ∨ 1000000000 < p2) ∧ r = -2 ∧ x' = upd x 0 0 ∧ y' = y ∨ (¬ p1 < 0 ∧ ¬ 1000000000 < p1 ∧ ¬ p2 < 0 ∧ ¬ 1000000000 < p2) ∧ r = x 55 + 1 ∧ x' = upd (upd x 0 0) 55 (x 55 + 1) ∧ y' = vp_updL (vp_updL y 56 (y 56 + p1)) 57 (y 57 + p2)))) := by
  unfold vMi
  refine vM_ofQ hE.1 (by decide) (Nat.le_of_ble_eq_true rfl) (fun p e s m args below meth c ls Q hQ C hr hlk hnm X hl => ?_)
  have C : vC p s m _ c _ _ "MenuScreensModel" GT D vcl (vty dT) := C
  have hx := C.1.1
  have hb := C.1.2.1
  replace M := MR.of M
  obtain ⟨H, eH⟩ : ∃ z, z = s.heap := ⟨_, rfl⟩
  obtain ⟨locs, elocs⟩ : ∃ z : List Loc, z = [] := ⟨_, rfl⟩
  rw [← eH, ← elocs] at X
  rw [← eH, ← elocs]
  clear eH elocs
  have hl : lv_has ls 5 [(0, .ref a), (1, .long p1), (3, .long p2)] := hl
  refine lv_aload_n hx hb d_MenuScreensModel_trip_0 rfl (lv_at hl 0 rfl) ?_
  refine lv_iconst (v := 0) hx hb d_MenuScreensModel_trip_1 (by decide) ?_
  refine mm_put C X M 0 p_12_127_13 (upd x 0 0) y rfl rfl rfl (by decide) d_MenuScreensModel_trip_2 (fun h H locs X M => ?_)
  refine lv_lload_n hx hb d_MenuScreensModel_trip_5 rfl (lv_at hl 1 rfl) ?_
  refine lv_lconst (v := 0) hx hb d_MenuScreensModel_trip_6 (by decide) ?_
  refine W.lcmp hx hb d_MenuScreensModel_trip_7 ?_
  refine lv_if_lt (tgt := 33) hx hb d_MenuScreensModel_trip_8 (by decide) (fun c1 => ?_) (fun c1 => ?_)
  · skip
    refine lv_bipush (v := (-2)) hx hb d_MenuScreensModel_trip_33 (by decide) ?_
    exact mq_iret hQ C X hr rfl hlk (⟨(upd x 0 0), y, A, B, M, (by clear X C hl hr; simp_all [lg_cmp_lt, lg_cmp_ge, lg_cmp_gt, lg_cmp_le, lg_cmp_eq])⟩) (Nat.le_refl _) (Nat.le_refl _) d_MenuScreensModel_trip_35
  · skip
    refine lv_lload_n hx hb d_MenuScreensModel_trip_11 rfl (lv_at hl 1 rfl) ?_
    refine lv_ldc2 (v := 1000000000) hx hb C.1.2.2.2.1 (C.1.2.2.2.2 _ (gt_6 128 (by decide +kernel) rfl)) d_MenuScreensModel_trip_12 ?_
    refine W.lcmp hx hb d_MenuScreensModel_trip_15 ?_
    refine lv_if_gt (tgt := 33) hx hb d_MenuScreensModel_trip_16 (by decide) (fun c2 => ?_) (fun c2 => ?_)
    · skip
      refine lv_bipush (v := (-2)) hx hb d_MenuScreensModel_trip_33 (by decide) ?_
      exact mq_iret hQ C X hr rfl hlk (⟨(upd x 0 0), y, A, B, M, (by clear X C hl hr; simp_all [lg_cmp_lt, lg_cmp_ge, lg_cmp_gt, lg_cmp_le, lg_cmp_eq])⟩) (Nat.le_refl _) (Nat.le_refl _) d_MenuScreensModel_trip_35
    · skip
      refine lv_lload_n hx hb d_MenuScreensModel_trip_19 rfl (lv_at hl 2 rfl) ?_
      refine lv_lconst (v := 0) hx hb d_MenuScreensModel_trip_20 (by decide) ?_
      refine W.lcmp hx hb d_MenuScreensModel_trip_21 ?_
      refine lv_if_lt (tgt := 33) hx hb d_MenuScreensModel_trip_22 (by decide) (fun c3 => ?_) (fun c3 => ?_)
      · skip
        refine lv_bipush (v := (-2)) hx hb d_MenuScreensModel_trip_33 (by decide) ?_
        exact mq_iret hQ C X hr rfl hlk (⟨(upd x 0 0), y, A, B, M, (by clear X C hl hr; simp_all [lg_cmp_lt, lg_cmp_ge, lg_cmp_gt, lg_cmp_le, lg_cmp_eq])⟩) (Nat.le_refl _) (Nat.le_refl _) d_MenuScreensModel_trip_35
      · skip
        refine lv_lload_n hx hb d_MenuScreensModel_trip_25 rfl (lv_at hl 2 rfl) ?_
        refine lv_ldc2 (v := 1000000000) hx hb C.1.2.2.2.1 (C.1.2.2.2.2 _ (gt_6 128 (by decide +kernel) rfl)) d_MenuScreensModel_trip_26 ?_
        refine W.lcmp hx hb d_MenuScreensModel_trip_29 ?_
        refine lv_if_le (tgt := 36) hx hb d_MenuScreensModel_trip_30 (by decide) (fun c4 => ?_) (fun c4 => ?_)
        · skip
          refine lv_aload_n hx hb d_MenuScreensModel_trip_36 rfl (lv_at hl 0 rfl) ?_
          refine lv_aload_n hx hb d_MenuScreensModel_trip_37 rfl (lv_at hl 0 rfl) ?_
          refine mm_get C X M 56 f_12_287_13 (.long (y 56)) rfl d_MenuScreensModel_trip_38 ?_
          refine lv_lload_n hx hb d_MenuScreensModel_trip_41 rfl (lv_at hl 1 rfl) ?_
          refine lv_ladd hx hb d_MenuScreensModel_trip_42 ?_
          refine mm_put C X M 56 p_12_287_13 (upd x 0 0) (vp_updL y 56 ((y 56) + p1)) rfl rfl rfl (by decide) d_MenuScreensModel_trip_43 (fun h H locs X M => ?_)
          refine lv_aload_n hx hb d_MenuScreensModel_trip_46 rfl (lv_at hl 0 rfl) ?_
          refine lv_aload_n hx hb d_MenuScreensModel_trip_47 rfl (lv_at hl 0 rfl) ?_
          refine mm_get C X M 57 f_12_290_13 (.long (y 57)) rfl d_MenuScreensModel_trip_48 ?_
          refine lv_lload_n hx hb d_MenuScreensModel_trip_51 rfl (lv_at hl 2 rfl) ?_
          refine lv_ladd hx hb d_MenuScreensModel_trip_52 ?_
          refine mm_put C X M 57 p_12_290_13 (upd x 0 0) (vp_updL (vp_updL y 56 ((y 56) + p1)) 57 ((y 57) + p2)) rfl rfl rfl (by decide) d_MenuScreensModel_trip_53 (fun h H locs X M => ?_)
          refine lv_aload_n hx hb d_MenuScreensModel_trip_56 rfl (lv_at hl 0 rfl) ?_
          refine lv_dup hx hb d_MenuScreensModel_trip_57 rfl ?_
          refine mm_get C X M 55 f_12_293_13 (.int (x 55)) rfl d_MenuScreensModel_trip_58 ?_
          refine lv_iconst (v := 1) hx hb d_MenuScreensModel_trip_61 (by decide) ?_
          refine lv_iadd hx hb d_MenuScreensModel_trip_62 ?_
          refine mm_put C X M 55 p_12_293_13 (upd (upd x 0 0) 55 ((x 55) + 1)) (vp_updL (vp_updL y 56 ((y 56) + p1)) 57 ((y 57) + p2)) rfl rfl rfl (by decide) d_MenuScreensModel_trip_63 (fun h H locs X M => ?_)
          refine lv_aload_n hx hb d_MenuScreensModel_trip_66 rfl (lv_at hl 0 rfl) ?_
          refine mm_get C X M 55 f_12_293_13 (.int ((x 55) + 1)) rfl d_MenuScreensModel_trip_67 ?_
          exact mq_iret hQ C X hr rfl hlk (⟨(upd (upd x 0 0) 55 ((x 55) + 1)), (vp_updL (vp_updL y 56 ((y 56) + p1)) 57 ((y 57) + p2)), A, B, M, (by clear X C hl hr; simp_all [lg_cmp_lt, lg_cmp_ge, lg_cmp_gt, lg_cmp_le, lg_cmp_eq])⟩) (Nat.le_refl _) (Nat.le_refl _) d_MenuScreensModel_trip_70
        · skip
          refine lv_bipush (v := (-2)) hx hb d_MenuScreensModel_trip_33 (by decide) ?_
          exact mq_iret hQ C X hr rfl hlk (⟨(upd x 0 0), y, A, B, M, (by clear X C hl hr; simp_all [lg_cmp_lt, lg_cmp_ge, lg_cmp_gt, lg_cmp_le, lg_cmp_eq])⟩) (Nat.le_refl _) (Nat.le_refl _) d_MenuScreensModel_trip_35
theorem d_MenuScreensModel_value_0 : decode prog_13_method_24_code 0 = .ok (.aload_n 0, 1) := by decide +kernel
theorem d_MenuScreensModel_value_1 : decode prog_13_method_24_code 1 = .ok (.iconst 0, 1) := by decide +kernel
theorem d_MenuScreensModel_value_2 : decode prog_13_method_24_code 2 = .ok (.putfield 127, 3) := by decide +kernel
theorem d_MenuScreensModel_value_5 : decode prog_13_method_24_code 5 = .ok (.iload_n 1, 1) := by decide +kernel
theorem d_MenuScreensModel_value_6 : decode prog_13_method_24_code 6 = .ok (.iconst 1, 1) := by decide +kernel
theorem d_MenuScreensModel_value_7 : decode prog_13_method_24_code 7 = .ok (.if_icmp .lt 11, 3) := by decide +kernel
theorem d_MenuScreensModel_value_10 : decode prog_13_method_24_code 10 = .ok (.iload_n 1, 1) := by decide +kernel
theorem d_MenuScreensModel_value_11 : decode prog_13_method_24_code 11 = .ok (.aload_n 0, 1) := by decide +kernel
theorem d_MenuScreensModel_value_12 : decode prog_13_method_24_code 12 = .ok (.getfield 162, 3) := by decide +kernel
theorem d_MenuScreensModel_value_15 : decode prog_13_method_24_code 15 = .ok (.if_icmp .le 5, 3) := by decide +kernel
theorem d_MenuScreensModel_value_18 : decode prog_13_method_24_code 18 = .ok (.iconst (-1), 1) := by decide +kernel
theorem d_MenuScreensModel_value_19 : decode prog_13_method_24_code 19 = .ok (.ireturn, 1) := by decide +kernel
theorem d_MenuScreensModel_value_20 : decode prog_13_method_24_code 20 = .ok (.lload_n 2, 1) := by decide +kernel
theorem d_MenuScreensModel_value_21 : decode prog_13_method_24_code 21 = .ok (.ldc2_w 212, 3) := by decide +kernel
theorem d_MenuScreensModel_value_24 : decode prog_13_method_24_code 24 = .ok (.lcmp, 1) := by decide +kernel
theorem d_MenuScreensModel_value_25 : decode prog_13_method_24_code 25 = .ok (.ifCond .lt 11, 3) := by decide +kernel
theorem d_MenuScreensModel_value_28 : decode prog_13_method_24_code 28 = .ok (.lload_n 2, 1) := by decide +kernel
theorem d_MenuScreensModel_value_29 : decode prog_13_method_24_code 29 = .ok (.ldc2_w 214, 3) := by decide +kernel
theorem d_MenuScreensModel_value_32 : decode prog_13_method_24_code 32 = .ok (.lcmp, 1) := by decide +kernel
theorem d_MenuScreensModel_value_33 : decode prog_13_method_24_code 33 = .ok (.ifCond .le 6, 3) := by decide +kernel
theorem d_MenuScreensModel_value_36 : decode prog_13_method_24_code 36 = .ok (.bipush (-2), 2) := by decide +kernel
theorem d_MenuScreensModel_value_38 : decode prog_13_method_24_code 38 = .ok (.ireturn, 1) := by decide +kernel
theorem d_MenuScreensModel_value_39 : decode prog_13_method_24_code 39 = .ok (.aload_n 0, 1) := by decide +kernel
theorem d_MenuScreensModel_value_40 : decode prog_13_method_24_code 40 = .ok (.getfield 22, 3) := by decide +kernel
theorem d_MenuScreensModel_value_43 : decode prog_13_method_24_code 43 = .ok (.iload_n 1, 1) := by decide +kernel
theorem d_MenuScreensModel_value_44 : decode prog_13_method_24_code 44 = .ok (.baload, 1) := by decide +kernel
theorem d_MenuScreensModel_value_45 : decode prog_13_method_24_code 45 = .ok (.ifCond .eq 6, 3) := by decide +kernel
theorem d_MenuScreensModel_value_48 : decode prog_13_method_24_code 48 = .ok (.bipush (-3), 2) := by decide +kernel
theorem d_MenuScreensModel_value_50 : decode prog_13_method_24_code 50 = .ok (.ireturn, 1) := by decide +kernel
theorem d_MenuScreensModel_value_51 : decode prog_13_method_24_code 51 = .ok (.aload_n 0, 1) := by decide +kernel
theorem d_MenuScreensModel_value_52 : decode prog_13_method_24_code 52 = .ok (.getfield 33, 3) := by decide +kernel
theorem d_MenuScreensModel_value_55 : decode prog_13_method_24_code 55 = .ok (.iload_n 1, 1) := by decide +kernel
theorem d_MenuScreensModel_value_56 : decode prog_13_method_24_code 56 = .ok (.lload_n 2, 1) := by decide +kernel
theorem d_MenuScreensModel_value_57 : decode prog_13_method_24_code 57 = .ok (.lastore, 1) := by decide +kernel
theorem d_MenuScreensModel_value_58 : decode prog_13_method_24_code 58 = .ok (.aload_n 0, 1) := by decide +kernel
theorem d_MenuScreensModel_value_59 : decode prog_13_method_24_code 59 = .ok (.getfield 36, 3) := by decide +kernel
theorem d_MenuScreensModel_value_62 : decode prog_13_method_24_code 62 = .ok (.iload_n 1, 1) := by decide +kernel
theorem d_MenuScreensModel_value_63 : decode prog_13_method_24_code 63 = .ok (.iload 4, 2) := by decide +kernel
theorem d_MenuScreensModel_value_65 : decode prog_13_method_24_code 65 = .ok (.bastore, 1) := by decide +kernel
theorem d_MenuScreensModel_value_66 : decode prog_13_method_24_code 66 = .ok (.iconst 1, 1) := by decide +kernel
theorem d_MenuScreensModel_value_67 : decode prog_13_method_24_code 67 = .ok (.ireturn, 1) := by decide +kernel
set_option maxRecDepth 100000 in
set_option maxHeartbeats 4000000 in
theorem cm_MenuScreensModel_value {l : Launch} {S0 : State} {b : Nat} {D : va_G} {dT : Nat → ClassId} (hE : vEnv S0 b D dT) {h0 : vH} {a : Nat} {ar : Nat → Nat} {x : Nat → Int32} {y : Nat → Int64} {A : Nat → Nat → Int32} {B : Nat → Nat → Int64} (M : MV S0 dT h0 a ar x y A B) (p1 : Int32) (p2 : Int64) (p3 : Int32) {nv : Nat} (hv : x 12 = nI nv) (hv2 : nv ≤ 40) (hb3 : vp_nar .boolean p3 = p3) : vMi l S0 D vcl GT y_MenuScreensModel_value prog_13_method_24_code 5 (some .int) 0 0 0 0 [.ref a, .int p1, .long p2, .int p3] h0 (fun r h' => ∃ x' y' A' B', MR S0 dT h0 h' a ar x' y' A' B' ∧ (x' = upd x 0 0 ∧ y' = y ∧ ((p1 < 1 ∨ x 12 < p1) ∧ r = -1 ∧ A' = A ∧ B' = B ∨ ∃ j, 1 ≤ j ∧ j ≤ nv ∧ p1 = nI j ∧ ((p2 < -999999 ∨ 999999 < p2) ∧ r = -2 ∧ A' = A ∧ B' = B ∨ ¬ p2 < -999999 ∧ ¬ 999999 < p2 ∧ ¬ A 15 j = 0 ∧ r = -3 ∧ A' = A ∧ B' = B ∨ ¬ p2 < -999999 ∧ ¬ 999999 < p2 ∧ A 15 j = 0 ∧ r = 1 ∧ A' = va_up A 19 (upd (A 19) j p3) ∧ B' = va_up B 18 (vp_updL (B 18) j p2))))) := by
  unfold vMi
  refine vM_ofQ hE.1 (by decide) (Nat.le_of_ble_eq_true rfl) (fun p e s m args below meth c ls Q hQ C hr hlk hnm X hl => ?_)
  have C : vC p s m _ c _ _ "MenuScreensModel" GT D vcl (vty dT) := C
  have hx := C.1.1
  have hb := C.1.2.1
  replace M := MR.of M
  obtain ⟨H, eH⟩ : ∃ z, z = s.heap := ⟨_, rfl⟩
  obtain ⟨locs, elocs⟩ : ∃ z : List Loc, z = [] := ⟨_, rfl⟩
  rw [← eH, ← elocs] at X
  rw [← eH, ← elocs]
  clear eH elocs
  have hl : lv_has ls 5 [(0, .ref a), (1, .int p1), (2, .long p2), (4, .int p3)] := hl
  refine lv_aload_n hx hb d_MenuScreensModel_value_0 rfl (lv_at hl 0 rfl) ?_
  refine lv_iconst (v := 0) hx hb d_MenuScreensModel_value_1 (by decide) ?_
  refine mm_put C X M 0 p_12_127_13 (upd x 0 0) y rfl rfl rfl (by decide) d_MenuScreensModel_value_2 (fun h H locs X M => ?_)
  refine lv_iload_n hx hb d_MenuScreensModel_value_5 rfl (lv_at hl 1 rfl) ?_
  refine lv_iconst (v := 1) hx hb d_MenuScreensModel_value_6 (by decide) ?_
  refine lv_icmp_lt (tgt := 18) hx hb d_MenuScreensModel_value_7 (by decide) (fun c1 => ?_) (fun c1 => ?_)
  · skip
    refine lv_iconst (v := (-1)) hx hb d_MenuScreensModel_value_18 (by decide) ?_
    exact mq_iret hQ C X hr rfl hlk (⟨(upd x 0 0), y, A, B, M, ⟨rfl, rfl, Or.inl (by clear X C hl hr; simp_all [lg_cmp_lt, lg_cmp_ge, lg_cmp_gt, lg_cmp_le, lg_cmp_eq])⟩⟩) (Nat.le_refl _) (Nat.le_refl _) d_MenuScreensModel_value_19
  · skip
    refine lv_iload_n hx hb d_MenuScreensModel_value_10 rfl (lv_at hl 1 rfl) ?_
    refine lv_aload_n hx hb d_MenuScreensModel_value_11 rfl (lv_at hl 0 rfl) ?_
    refine mm_get C X M 12 f_12_162_13 (.int (x 12)) rfl d_MenuScreensModel_value_12 ?_
    refine lv_icmp_le (tgt := 20) hx hb d_MenuScreensModel_value_15 (by decide) (fun c2 => ?_) (fun c2 => ?_)
    · skip
      obtain ⟨j, hj1, hj2, ej⟩ := ix_le1 c1 (by rw [← hv]; exact c2) (by omega)
      refine lv_lload_n hx hb d_MenuScreensModel_value_20 rfl (lv_at hl 2 rfl) ?_
      refine lv_ldc2 (v := (-999999)) hx hb C.1.2.2.2.1 (C.1.2.2.2.2 _ (gt_6 16 (by decide +kernel) rfl)) d_MenuScreensModel_value_21 ?_
      refine W.lcmp hx hb d_MenuScreensModel_value_24 ?_
      refine lv_if_lt (tgt := 36) hx hb d_MenuScreensModel_value_25 (by decide) (fun c3 => ?_) (fun c3 => ?_)
      · skip
        refine lv_bipush (v := (-2)) hx hb d_MenuScreensModel_value_36 (by decide) ?_
        exact mq_iret hQ C X hr rfl hlk (⟨(upd x 0 0), y, A, B, M, ⟨rfl, rfl, Or.inr ⟨j, hj1, hj2, ej, (by clear X C hl hr; simp_all [lg_cmp_lt, lg_cmp_ge, lg_cmp_gt, lg_cmp_le, lg_cmp_eq])⟩⟩⟩) (Nat.le_refl _) (Nat.le_refl _) d_MenuScreensModel_value_38
      · skip
        refine lv_lload_n hx hb d_MenuScreensModel_value_28 rfl (lv_at hl 2 rfl) ?_
        refine lv_ldc2 (v := 999999) hx hb C.1.2.2.2.1 (C.1.2.2.2.2 _ (gt_6 17 (by decide +kernel) rfl)) d_MenuScreensModel_value_29 ?_
        refine W.lcmp hx hb d_MenuScreensModel_value_32 ?_
        refine lv_if_le (tgt := 39) hx hb d_MenuScreensModel_value_33 (by decide) (fun c4 => ?_) (fun c4 => ?_)
        · skip
          refine lv_aload_n hx hb d_MenuScreensModel_value_39 rfl (lv_at hl 0 rfl) ?_
          refine mm_get C X M 15 f_12_22_13 (.ref (ar 15)) rfl d_MenuScreensModel_value_40 ?_
          refine lv_iload_n hx hb d_MenuScreensModel_value_43 rfl (lv_at hl 1 rfl) ?_
          refine mm_zald C X M 15 41 rfl (A 15) rfl (by decide) j ej (by omega) d_MenuScreensModel_value_44 ?_
          refine lv_if_eq (tgt := 51) hx hb d_MenuScreensModel_value_45 (by decide) (fun c5 => ?_) (fun c5 => ?_)
          · skip
            refine lv_aload_n hx hb d_MenuScreensModel_value_51 rfl (lv_at hl 0 rfl) ?_
            refine mm_get C X M 18 f_12_33_13 (.ref (ar 18)) rfl d_MenuScreensModel_value_52 ?_
            refine lv_iload_n hx hb d_MenuScreensModel_value_55 rfl (lv_at hl 1 rfl) ?_
            refine lv_lload_n hx hb d_MenuScreensModel_value_56 rfl (lv_at hl 2 rfl) ?_
            refine mm_last C X M 18 41 rfl (B 18) rfl (fun _ => rfl) (by decide) j ej (by omega) d_MenuScreensModel_value_57 (fun h H locs X M => ?_)
            refine lv_aload_n hx hb d_MenuScreensModel_value_58 rfl (lv_at hl 0 rfl) ?_
            refine mm_get C X M 19 f_12_36_13 (.ref (ar 19)) rfl d_MenuScreensModel_value_59 ?_
            refine lv_iload_n hx hb d_MenuScreensModel_value_62 rfl (lv_at hl 1 rfl) ?_
            refine lv_iload hx hb d_MenuScreensModel_value_63 (lv_at hl 3 rfl) ?_
            refine mm_zast C X M 19 41 rfl (A 19) rfl (fun _ => rfl) (by decide) hb3 j ej (by omega) d_MenuScreensModel_value_65 (fun h H locs X M => ?_)
            refine lv_iconst (v := 1) hx hb d_MenuScreensModel_value_66 (by decide) ?_
            exact mq_iret hQ C X hr rfl hlk (⟨(upd x 0 0), y, (va_up A 19 (upd (A 19) j p3)), (va_up B 18 (vp_updL (B 18) j p2)), M, ⟨rfl, rfl, Or.inr ⟨j, hj1, hj2, ej, (by clear X C hl hr; simp_all [lg_cmp_lt, lg_cmp_ge, lg_cmp_gt, lg_cmp_le, lg_cmp_eq])⟩⟩⟩) (Nat.le_refl _) (Nat.le_refl _) d_MenuScreensModel_value_67
          · skip
            refine lv_bipush (v := (-3)) hx hb d_MenuScreensModel_value_48 (by decide) ?_
            exact mq_iret hQ C X hr rfl hlk (⟨(upd x 0 0), y, A, B, M, ⟨rfl, rfl, Or.inr ⟨j, hj1, hj2, ej, (by clear X C hl hr; simp_all [lg_cmp_lt, lg_cmp_ge, lg_cmp_gt, lg_cmp_le, lg_cmp_eq])⟩⟩⟩) (Nat.le_refl _) (Nat.le_refl _) d_MenuScreensModel_value_50
        · skip
          refine lv_bipush (v := (-2)) hx hb d_MenuScreensModel_value_36 (by decide) ?_
          exact mq_iret hQ C X hr rfl hlk (⟨(upd x 0 0), y, A, B, M, ⟨rfl, rfl, Or.inr ⟨j, hj1, hj2, ej, (by clear X C hl hr; simp_all [lg_cmp_lt, lg_cmp_ge, lg_cmp_gt, lg_cmp_le, lg_cmp_eq])⟩⟩⟩) (Nat.le_refl _) (Nat.le_refl _) d_MenuScreensModel_value_38
    · skip
      refine lv_iconst (v := (-1)) hx hb d_MenuScreensModel_value_18 (by decide) ?_
      exact mq_iret hQ C X hr rfl hlk (⟨(upd x 0 0), y, A, B, M, ⟨rfl, rfl, Or.inl (by clear X C hl hr; simp_all [lg_cmp_lt, lg_cmp_ge, lg_cmp_gt, lg_cmp_le, lg_cmp_eq])⟩⟩) (Nat.le_refl _) (Nat.le_refl _) d_MenuScreensModel_value_19
theorem d_MenuScreensModel_setting_0 : decode prog_13_method_25_code 0 = .ok (.aload_n 0, 1) := by decide +kernel
theorem d_MenuScreensModel_setting_1 : decode prog_13_method_25_code 1 = .ok (.iconst 0, 1) := by decide +kernel
theorem d_MenuScreensModel_setting_2 : decode prog_13_method_25_code 2 = .ok (.putfield 127, 3) := by decide +kernel
theorem d_MenuScreensModel_setting_5 : decode prog_13_method_25_code 5 = .ok (.iload_n 1, 1) := by decide +kernel
theorem d_MenuScreensModel_setting_6 : decode prog_13_method_25_code 6 = .ok (.iconst 1, 1) := by decide +kernel
theorem d_MenuScreensModel_setting_7 : decode prog_13_method_25_code 7 = .ok (.if_icmp .lt 11, 3) := by decide +kernel
theorem d_MenuScreensModel_setting_10 : decode prog_13_method_25_code 10 = .ok (.iload_n 1, 1) := by decide +kernel
theorem d_MenuScreensModel_setting_11 : decode prog_13_method_25_code 11 = .ok (.aload_n 0, 1) := by decide +kernel
theorem d_MenuScreensModel_setting_12 : decode prog_13_method_25_code 12 = .ok (.getfield 162, 3) := by decide +kernel
theorem d_MenuScreensModel_setting_15 : decode prog_13_method_25_code 15 = .ok (.if_icmp .le 5, 3) := by decide +kernel
theorem d_MenuScreensModel_setting_18 : decode prog_13_method_25_code 18 = .ok (.iconst (-1), 1) := by decide +kernel
theorem d_MenuScreensModel_setting_19 : decode prog_13_method_25_code 19 = .ok (.ireturn, 1) := by decide +kernel
theorem d_MenuScreensModel_setting_20 : decode prog_13_method_25_code 20 = .ok (.aload_n 0, 1) := by decide +kernel
theorem d_MenuScreensModel_setting_21 : decode prog_13_method_25_code 21 = .ok (.getfield 22, 3) := by decide +kernel
theorem d_MenuScreensModel_setting_24 : decode prog_13_method_25_code 24 = .ok (.iload_n 1, 1) := by decide +kernel
theorem d_MenuScreensModel_setting_25 : decode prog_13_method_25_code 25 = .ok (.baload, 1) := by decide +kernel
theorem d_MenuScreensModel_setting_26 : decode prog_13_method_25_code 26 = .ok (.ifCond .ne 6, 3) := by decide +kernel
theorem d_MenuScreensModel_setting_29 : decode prog_13_method_25_code 29 = .ok (.bipush (-3), 2) := by decide +kernel
theorem d_MenuScreensModel_setting_31 : decode prog_13_method_25_code 31 = .ok (.ireturn, 1) := by decide +kernel
theorem d_MenuScreensModel_setting_32 : decode prog_13_method_25_code 32 = .ok (.lload_n 2, 1) := by decide +kernel
theorem d_MenuScreensModel_setting_33 : decode prog_13_method_25_code 33 = .ok (.aload_n 0, 1) := by decide +kernel
theorem d_MenuScreensModel_setting_34 : decode prog_13_method_25_code 34 = .ok (.getfield 26, 3) := by decide +kernel
theorem d_MenuScreensModel_setting_37 : decode prog_13_method_25_code 37 = .ok (.iload_n 1, 1) := by decide +kernel
theorem d_MenuScreensModel_setting_38 : decode prog_13_method_25_code 38 = .ok (.laload, 1) := by decide +kernel
theorem d_MenuScreensModel_setting_39 : decode prog_13_method_25_code 39 = .ok (.lcmp, 1) := by decide +kernel
theorem d_MenuScreensModel_setting_40 : decode prog_13_method_25_code 40 = .ok (.ifCond .lt 14, 3) := by decide +kernel
theorem d_MenuScreensModel_setting_43 : decode prog_13_method_25_code 43 = .ok (.lload_n 2, 1) := by decide +kernel
theorem d_MenuScreensModel_setting_44 : decode prog_13_method_25_code 44 = .ok (.aload_n 0, 1) := by decide +kernel
theorem d_MenuScreensModel_setting_45 : decode prog_13_method_25_code 45 = .ok (.getfield 30, 3) := by decide +kernel
theorem d_MenuScreensModel_setting_48 : decode prog_13_method_25_code 48 = .ok (.iload_n 1, 1) := by decide +kernel
theorem d_MenuScreensModel_setting_49 : decode prog_13_method_25_code 49 = .ok (.laload, 1) := by decide +kernel
theorem d_MenuScreensModel_setting_50 : decode prog_13_method_25_code 50 = .ok (.lcmp, 1) := by decide +kernel
theorem d_MenuScreensModel_setting_51 : decode prog_13_method_25_code 51 = .ok (.ifCond .le 5, 3) := by decide +kernel
theorem d_MenuScreensModel_setting_54 : decode prog_13_method_25_code 54 = .ok (.iconst 0, 1) := by decide +kernel
theorem d_MenuScreensModel_setting_55 : decode prog_13_method_25_code 55 = .ok (.ireturn, 1) := by decide +kernel
theorem d_MenuScreensModel_setting_56 : decode prog_13_method_25_code 56 = .ok (.aload_n 0, 1) := by decide +kernel
theorem d_MenuScreensModel_setting_57 : decode prog_13_method_25_code 57 = .ok (.getfield 33, 3) := by decide +kernel
theorem d_MenuScreensModel_setting_60 : decode prog_13_method_25_code 60 = .ok (.iload_n 1, 1) := by decide +kernel
theorem d_MenuScreensModel_setting_61 : decode prog_13_method_25_code 61 = .ok (.lload_n 2, 1) := by decide +kernel
theorem d_MenuScreensModel_setting_62 : decode prog_13_method_25_code 62 = .ok (.lastore, 1) := by decide +kernel
theorem d_MenuScreensModel_setting_63 : decode prog_13_method_25_code 63 = .ok (.iconst 1, 1) := by decide +kernel
theorem d_MenuScreensModel_setting_64 : decode prog_13_method_25_code 64 = .ok (.ireturn, 1) := by decide +kernel
set_option maxRecDepth 100000 in
set_option maxHeartbeats 4000000 in
theorem cm_MenuScreensModel_setting {l : Launch} {S0 : State} {b : Nat} {D : va_G} {dT : Nat → ClassId} (hE : vEnv S0 b D dT) {h0 : vH} {a : Nat} {ar : Nat → Nat} {x : Nat → Int32} {y : Nat → Int64} {A : Nat → Nat → Int32} {B : Nat → Nat → Int64} (M : MV S0 dT h0 a ar x y A B) (p1 : Int32) (p2 : Int64) {nv : Nat} (hv : x 12 = nI nv) (hv2 : nv ≤ 40) : vMi l S0 D vcl GT y_MenuScreensModel_setting prog_13_method_25_code 4 (some .int) 0 0 0 0 [.ref a, .int p1, .long p2] h0 (fun r h' => ∃ x' y' A' B', MR S0 dT h0 h' a ar x' y' A' B' ∧ (x' = upd x 0 0 ∧ y' = y ∧ A' = A ∧ ((p1 < 1 ∨ x 12 < p1) ∧ r = -1 ∧ B' = B ∨ ∃ j, 1 ≤ j ∧ j ≤ nv ∧ p1 = nI j ∧ (A 15 j = 0 ∧ r = -3 ∧ B' = B ∨ ¬ A 15 j = 0 ∧ (p2 < B 16 j ∨ B 17 j < p2) ∧ r = 0 ∧ B' = B ∨ ¬ A 15 j = 0 ∧ ¬ p2 < B 16 j ∧ ¬ B 17 j < p2 ∧ r = 1 ∧ B' = va_up B 18 (vp_updL (B 18) j p2))))) := by
  unfold vMi
  refine vM_ofQ hE.1 (by decide) (Nat.le_of_ble_eq_true rfl) (fun p e s m args below meth c ls Q hQ C hr hlk hnm X hl => ?_)
  have C : vC p s m _ c _ _ "MenuScreensModel" GT D vcl (vty dT) := C
  have hx := C.1.1
  have hb := C.1.2.1
  replace M := MR.of M
  obtain ⟨H, eH⟩ : ∃ z, z = s.heap := ⟨_, rfl⟩
  obtain ⟨locs, elocs⟩ : ∃ z : List Loc, z = [] := ⟨_, rfl⟩
  rw [← eH, ← elocs] at X
  rw [← eH, ← elocs]
  clear eH elocs
  have hl : lv_has ls 4 [(0, .ref a), (1, .int p1), (2, .long p2)] := hl
  refine lv_aload_n hx hb d_MenuScreensModel_setting_0 rfl (lv_at hl 0 rfl) ?_
  refine lv_iconst (v := 0) hx hb d_MenuScreensModel_setting_1 (by decide) ?_
  refine mm_put C X M 0 p_12_127_13 (upd x 0 0) y rfl rfl rfl (by decide) d_MenuScreensModel_setting_2 (fun h H locs X M => ?_)
  refine lv_iload_n hx hb d_MenuScreensModel_setting_5 rfl (lv_at hl 1 rfl) ?_
  refine lv_iconst (v := 1) hx hb d_MenuScreensModel_setting_6 (by decide) ?_
  refine lv_icmp_lt (tgt := 18) hx hb d_MenuScreensModel_setting_7 (by decide) (fun c1 => ?_) (fun c1 => ?_)
  · skip
    refine lv_iconst (v := (-1)) hx hb d_MenuScreensModel_setting_18 (by decide) ?_
    exact mq_iret hQ C X hr rfl hlk (⟨(upd x 0 0), y, A, B, M, ⟨rfl, rfl, rfl, Or.inl (by clear X C hl hr; simp_all [lg_cmp_lt, lg_cmp_ge, lg_cmp_gt, lg_cmp_le, lg_cmp_eq])⟩⟩) (Nat.le_refl _) (Nat.le_refl _) d_MenuScreensModel_setting_19
  · skip
    refine lv_iload_n hx hb d_MenuScreensModel_setting_10 rfl (lv_at hl 1 rfl) ?_
    refine lv_aload_n hx hb d_MenuScreensModel_setting_11 rfl (lv_at hl 0 rfl) ?_
    refine mm_get C X M 12 f_12_162_13 (.int (x 12)) rfl d_MenuScreensModel_setting_12 ?_
    refine lv_icmp_le (tgt := 20) hx hb d_MenuScreensModel_setting_15 (by decide) (fun c2 => ?_) (fun c2 => ?_)
    · skip
      obtain ⟨j, hj1, hj2, ej⟩ := ix_le1 c1 (by rw [← hv]; exact c2) (by omega)
      refine lv_aload_n hx hb d_MenuScreensModel_setting_20 rfl (lv_at hl 0 rfl) ?_
      refine mm_get C X M 15 f_12_22_13 (.ref (ar 15)) rfl d_MenuScreensModel_setting_21 ?_
      refine lv_iload_n hx hb d_MenuScreensModel_setting_24 rfl (lv_at hl 1 rfl) ?_
      refine mm_zald C X M 15 41 rfl (A 15) rfl (by decide) j ej (by omega) d_MenuScreensModel_setting_25 ?_
      refine lv_if_ne (tgt := 32) hx hb d_MenuScreensModel_setting_26 (by decide) (fun c3 => ?_) (fun c3 => ?_)
      · skip
        refine lv_lload_n hx hb d_MenuScreensModel_setting_32 rfl (lv_at hl 2 rfl) ?_
        refine lv_aload_n hx hb d_MenuScreensModel_setting_33 rfl (lv_at hl 0 rfl) ?_
        refine mm_get C X M 16 f_12_26_13 (.ref (ar 16)) rfl d_MenuScreensModel_setting_34 ?_
        refine lv_iload_n hx hb d_MenuScreensModel_setting_37 rfl (lv_at hl 1 rfl) ?_
        refine mm_lald C X M 16 41 rfl (B 16) rfl (by decide) j ej (by omega) d_MenuScreensModel_setting_38 ?_
        refine W.lcmp hx hb d_MenuScreensModel_setting_39 ?_
        refine lv_if_lt (tgt := 54) hx hb d_MenuScreensModel_setting_40 (by decide) (fun c4 => ?_) (fun c4 => ?_)
        · skip
          refine lv_iconst (v := 0) hx hb d_MenuScreensModel_setting_54 (by decide) ?_
          exact mq_iret hQ C X hr rfl hlk (⟨(upd x 0 0), y, A, B, M, ⟨rfl, rfl, rfl, Or.inr ⟨j, hj1, hj2, ej, (by clear X C hl hr; simp_all [lg_cmp_lt, lg_cmp_ge, lg_cmp_gt, lg_cmp_le, lg_cmp_eq])⟩⟩⟩) (Nat.le_refl _) (Nat.le_refl _) d_MenuScreensModel_setting_55
        · skip
          refine lv_lload_n hx hb d_MenuScreensModel_setting_43 rfl (lv_at hl 2 rfl) ?_
          refine lv_aload_n hx hb d_MenuScreensModel_setting_44 rfl (lv_at hl 0 rfl) ?_
          refine mm_get C X M 17 f_12_30_13 (.ref (ar 17)) rfl d_MenuScreensModel_setting_45 ?_
          refine lv_iload_n hx hb d_MenuScreensModel_setting_48 rfl (lv_at hl 1 rfl) ?_
          refine mm_lald C X M 17 41 rfl (B 17) rfl (by decide) j ej (by omega) d_MenuScreensModel_setting_49 ?_
          refine W.lcmp hx hb d_MenuScreensModel_setting_50 ?_
          refine lv_if_le (tgt := 56) hx hb d_MenuScreensModel_setting_51 (by decide) (fun c5 => ?_) (fun c5 => ?_)
          · skip
            refine lv_aload_n hx hb d_MenuScreensModel_setting_56 rfl (lv_at hl 0 rfl) ?_
            refine mm_get C X M 18 f_12_33_13 (.ref (ar 18)) rfl d_MenuScreensModel_setting_57 ?_
            refine lv_iload_n hx hb d_MenuScreensModel_setting_60 rfl (lv_at hl 1 rfl) ?_
            refine lv_lload_n hx hb d_MenuScreensModel_setting_61 rfl (lv_at hl 2 rfl) ?_
            refine mm_last C X M 18 41 rfl (B 18) rfl (fun _ => rfl) (by decide) j ej (by omega) d_MenuScreensModel_setting_62 (fun h H locs X M => ?_)
            refine lv_iconst (v := 1) hx hb d_MenuScreensModel_setting_63 (by decide) ?_
            exact mq_iret hQ C X hr rfl hlk (⟨(upd x 0 0), y, A, (va_up B 18 (vp_updL (B 18) j p2)), M, ⟨rfl, rfl, rfl, Or.inr ⟨j, hj1, hj2, ej, (by clear X C hl hr; simp_all [lg_cmp_lt, lg_cmp_ge, lg_cmp_gt, lg_cmp_le, lg_cmp_eq])⟩⟩⟩) (Nat.le_refl _) (Nat.le_refl _) d_MenuScreensModel_setting_64
          · skip
            refine lv_iconst (v := 0) hx hb d_MenuScreensModel_setting_54 (by decide) ?_
            exact mq_iret hQ C X hr rfl hlk (⟨(upd x 0 0), y, A, B, M, ⟨rfl, rfl, rfl, Or.inr ⟨j, hj1, hj2, ej, (by clear X C hl hr; simp_all [lg_cmp_lt, lg_cmp_ge, lg_cmp_gt, lg_cmp_le, lg_cmp_eq])⟩⟩⟩) (Nat.le_refl _) (Nat.le_refl _) d_MenuScreensModel_setting_55
      · skip
        refine lv_bipush (v := (-3)) hx hb d_MenuScreensModel_setting_29 (by decide) ?_
        exact mq_iret hQ C X hr rfl hlk (⟨(upd x 0 0), y, A, B, M, ⟨rfl, rfl, rfl, Or.inr ⟨j, hj1, hj2, ej, (by clear X C hl hr; simp_all [lg_cmp_lt, lg_cmp_ge, lg_cmp_gt, lg_cmp_le, lg_cmp_eq])⟩⟩⟩) (Nat.le_refl _) (Nat.le_refl _) d_MenuScreensModel_setting_31
    · skip
      refine lv_iconst (v := (-1)) hx hb d_MenuScreensModel_setting_18 (by decide) ?_
      exact mq_iret hQ C X hr rfl hlk (⟨(upd x 0 0), y, A, B, M, ⟨rfl, rfl, rfl, Or.inl (by clear X C hl hr; simp_all [lg_cmp_lt, lg_cmp_ge, lg_cmp_gt, lg_cmp_le, lg_cmp_eq])⟩⟩) (Nat.le_refl _) (Nat.le_refl _) d_MenuScreensModel_setting_19
theorem d_MenuScreensModel_barred_0 : decode prog_13_method_26_code 0 = .ok (.aload_n 0, 1) := by decide +kernel
theorem d_MenuScreensModel_barred_1 : decode prog_13_method_26_code 1 = .ok (.getfield 245, 3) := by decide +kernel
theorem d_MenuScreensModel_barred_4 : decode prog_13_method_26_code 4 = .ok (.ifCond .le 24, 3) := by decide +kernel
theorem d_MenuScreensModel_barred_7 : decode prog_13_method_26_code 7 = .ok (.aload_n 0, 1) := by decide +kernel
theorem d_MenuScreensModel_barred_8 : decode prog_13_method_26_code 8 = .ok (.getfield 251, 3) := by decide +kernel
theorem d_MenuScreensModel_barred_11 : decode prog_13_method_26_code 11 = .ok (.aload_n 0, 1) := by decide +kernel
theorem d_MenuScreensModel_barred_12 : decode prog_13_method_26_code 12 = .ok (.getfield 48, 3) := by decide +kernel
theorem d_MenuScreensModel_barred_15 : decode prog_13_method_26_code 15 = .ok (.aload_n 0, 1) := by decide +kernel
theorem d_MenuScreensModel_barred_16 : decode prog_13_method_26_code 16 = .ok (.getfield 245, 3) := by decide +kernel
theorem d_MenuScreensModel_barred_19 : decode prog_13_method_26_code 19 = .ok (.laload, 1) := by decide +kernel
theorem d_MenuScreensModel_barred_20 : decode prog_13_method_26_code 20 = .ok (.lcmp, 1) := by decide +kernel
theorem d_MenuScreensModel_barred_21 : decode prog_13_method_26_code 21 = .ok (.ifCond .le 7, 3) := by decide +kernel
theorem d_MenuScreensModel_barred_24 : decode prog_13_method_26_code 24 = .ok (.iconst 1, 1) := by decide +kernel
theorem d_MenuScreensModel_barred_25 : decode prog_13_method_26_code 25 = .ok (.goto 4, 3) := by decide +kernel
theorem d_MenuScreensModel_barred_28 : decode prog_13_method_26_code 28 = .ok (.iconst 0, 1) := by decide +kernel
theorem d_MenuScreensModel_barred_29 : decode prog_13_method_26_code 29 = .ok (.ireturn, 1) := by decide +kernel
set_option maxRecDepth 100000 in
set_option maxHeartbeats 4000000 in
theorem cm_MenuScreensModel_barred {l : Launch} {S0 : State} {b : Nat} {D : va_G} {dT : Nat → ClassId} (hE : vEnv S0 b D dT) {h0 : vH} {a : Nat} {ar : Nat → Nat} {x : Nat → Int32} {y : Nat → Int64} {A : Nat → Nat → Int32} {B : Nat → Nat → Int64} (M : MV S0 dT h0 a ar x y A B) {pr : Nat} (hpr : x 45 = nI pr) (hpr2 : pr ≤ 30) : vMi l S0 D vcl GT y_MenuScreensModel_barred prog_13_method_26_code 1 (some .boolean) 0 0 0 0 [.ref a] h0 (fun r h' => h' = h0 ∧ r = (if 0 < pr ∧ B 24 pr < y 47 then 1 else 0)) := by
  unfold vMi
  refine vM_ofQ hE.1 (by decide) (Nat.le_of_ble_eq_true rfl) (fun p e s m args below meth c ls Q hQ C hr hlk hnm X hl => ?_)
  have C : vC p s m _ c _ _ "MenuScreensModel" GT D vcl (vty dT) := C
  have hx := C.1.1
  have hb := C.1.2.1
  replace M := MR.of M
  obtain ⟨H, eH⟩ : ∃ z, z = s.heap := ⟨_, rfl⟩
  obtain ⟨locs, elocs⟩ : ∃ z : List Loc, z = [] := ⟨_, rfl⟩
  rw [← eH, ← elocs] at X
  rw [← eH, ← elocs]
  clear eH elocs
  have hl : lv_has ls 1 [(0, .ref a)] := hl
  refine lv_aload_n hx hb d_MenuScreensModel_barred_0 rfl (lv_at hl 0 rfl) ?_
  refine mm_get C X M 45 f_12_245_13 (.int (x 45)) rfl d_MenuScreensModel_barred_1 ?_
  refine lv_if_le (tgt := 28) hx hb d_MenuScreensModel_barred_4 (by decide) (fun c1 => ?_) (fun c1 => ?_)
  · skip
    refine lv_iconst (v := 0) hx hb d_MenuScreensModel_barred_28 (by decide) ?_
    exact mq_iret hQ C X hr rfl hlk (⟨rfl, (if_neg (fun q => nI_nle q.1 (by omega) (by rw [← hpr]; exact c1))).symm⟩) (Nat.le_refl _) (Nat.le_refl _) d_MenuScreensModel_barred_29
  · skip
    have hp0 : 0 < pr := by
      rcases Nat.eq_zero_or_pos pr with q | q
      · exact absurd (by rw [hpr, q]; decide) c1
      · exact q
    refine lv_aload_n hx hb d_MenuScreensModel_barred_7 rfl (lv_at hl 0 rfl) ?_
    refine mm_get C X M 47 f_12_251_13 (.long (y 47)) rfl d_MenuScreensModel_barred_8 ?_
    refine lv_aload_n hx hb d_MenuScreensModel_barred_11 rfl (lv_at hl 0 rfl) ?_
    refine mm_get C X M 24 f_12_48_13 (.ref (ar 24)) rfl d_MenuScreensModel_barred_12 ?_
    refine lv_aload_n hx hb d_MenuScreensModel_barred_15 rfl (lv_at hl 0 rfl) ?_
    refine mm_get C X M 45 f_12_245_13 (.int (x 45)) rfl d_MenuScreensModel_barred_16 ?_
    refine mm_lald C X M 24 31 rfl (B 24) rfl (by decide) pr hpr (by omega) d_MenuScreensModel_barred_19 ?_
    refine W.lcmp hx hb d_MenuScreensModel_barred_20 ?_
    refine lv_if_le (tgt := 28) hx hb d_MenuScreensModel_barred_21 (by decide) (fun c2 => ?_) (fun c2 => ?_)
    · skip
      refine lv_iconst (v := 0) hx hb d_MenuScreensModel_barred_28 (by decide) ?_
      exact mq_iret hQ C X hr rfl hlk (⟨rfl, (if_neg (fun q => by have := (lg_cmp_le _ _).mp c2; exact absurd q.2 (Int64.not_lt.mpr this))).symm⟩) (Nat.le_refl _) (Nat.le_refl _) d_MenuScreensModel_barred_29
    · skip
      refine lv_iconst (v := 1) hx hb d_MenuScreensModel_barred_24 (by decide) ?_
      refine lv_goto (tgt := 29) hx hb d_MenuScreensModel_barred_25 (by decide) ?_
      exact mq_iret hQ C X hr rfl hlk (⟨rfl, (if_pos ⟨hp0, (lg_cmp_gt _ _).mp (Int32.not_le.mp c2)⟩).symm⟩) (Nat.le_refl _) (Nat.le_refl _) d_MenuScreensModel_barred_29
