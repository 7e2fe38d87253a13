theorem d_MenuScreensModel_language_0 : decode prog_13_method_33_code 0 = .ok (.aload_n 0, 1) := by decide +kernel
theorem d_MenuScreensModel_language_1 : decode prog_13_method_33_code 1 = .ok (.iconst 0, 1) := by decide +kernel
theorem d_MenuScreensModel_language_2 : decode prog_13_method_33_code 2 = .ok (.putfield 127, 3) := by decide +kernel
theorem d_MenuScreensModel_language_5 : decode prog_13_method_33_code 5 = .ok (.iload_n 1, 1) := by decide +kernel
theorem d_MenuScreensModel_language_6 : decode prog_13_method_33_code 6 = .ok (.ifCond .lt 8, 3) := by decide +kernel
theorem d_MenuScreensModel_language_9 : decode prog_13_method_33_code 9 = .ok (.iload_n 1, 1) := by decide +kernel
theorem d_MenuScreensModel_language_10 : decode prog_13_method_33_code 10 = .ok (.iconst 1, 1) := by decide +kernel
theorem d_MenuScreensModel_language_11 : decode prog_13_method_33_code 11 = .ok (.if_icmp .le 6, 3) := by decide +kernel
theorem d_MenuScreensModel_language_14 : decode prog_13_method_33_code 14 = .ok (.bipush (-2), 2) := by decide +kernel
theorem d_MenuScreensModel_language_16 : decode prog_13_method_33_code 16 = .ok (.ireturn, 1) := by decide +kernel
theorem d_MenuScreensModel_language_17 : decode prog_13_method_33_code 17 = .ok (.aload_n 0, 1) := by decide +kernel
theorem d_MenuScreensModel_language_18 : decode prog_13_method_33_code 18 = .ok (.getfield 264, 3) := by decide +kernel
theorem d_MenuScreensModel_language_21 : decode prog_13_method_33_code 21 = .ok (.istore_n 2, 1) := by decide +kernel
theorem d_MenuScreensModel_language_22 : decode prog_13_method_33_code 22 = .ok (.aload_n 0, 1) := by decide +kernel
theorem d_MenuScreensModel_language_23 : decode prog_13_method_33_code 23 = .ok (.iload_n 1, 1) := by decide +kernel
theorem d_MenuScreensModel_language_24 : decode prog_13_method_33_code 24 = .ok (.putfield 264, 3) := by decide +kernel
theorem d_MenuScreensModel_language_27 : decode prog_13_method_33_code 27 = .ok (.iload_n 2, 1) := by decide +kernel
theorem d_MenuScreensModel_language_28 : decode prog_13_method_33_code 28 = .ok (.ireturn, 1) := by decide +kernel
set_option maxRecDepth 100000 in
set_option maxHeartbeats 4000000 in
theorem cm_MenuScreensModel_language {l : Launch} {S0 : State} {b : Nat} {D : va_G} {dT : Nat → ClassId} (hE : vEnv S0 b D dT) {h : vH} {a : Nat} {ar : Nat → Nat} {x : Nat → Int32} {y : Nat → Int64} {A : Nat → Nat → Int32} {B : Nat → Nat → Int64} (M : MV S0 dT h a ar x y A B) (p1 : Int32) : vMi l S0 D vcl GT y_MenuScreensModel_language prog_13_method_33_code 3 (some .int) 0 0 0 0 [.ref a, .int p1] h (fun r h' => ∃ x' y' A' B', MR S0 dT h h' a ar x' y' A' B' ∧ (y' = y ∧ A' = A ∧ B' = B ∧ ((p1 < 0 ∨ 1 < p1) ∧ r = -2 ∧ x' = upd x 0 0 ∨ ¬ p1 < 0 ∧ ¬ 1 < p1 ∧ r = x 46 ∧ x' = upd (upd x 0 0) 46 p1))) := by
  unfold vMi
  refine vM_of hE.1 (by decide) (Nat.le_of_ble_eq_true rfl) (fun p e s m below meth c ls C hr hlk hnm X hl => ?_)
  have C : vC p s m _ c _ _ "MenuScreensModel" GT D vcl (vty dT) := C
  have hx := C.1.1
  have hb := C.1.2.1
  replace M := MR.of M
  have h0 := h
  have hl : lv_has ls 3 [(0, .ref a), (1, .int p1)] := hl
  refine lv_aload_n hx hb d_MenuScreensModel_language_0 rfl (lv_at hl 0 rfl) ?_
  refine lv_iconst (v := 0) hx hb d_MenuScreensModel_language_1 (by decide) ?_
  refine mm_put C X M 0 p_12_127_13 (upd x 0 0) y rfl rfl rfl (by decide) d_MenuScreensModel_language_2 (fun h H locs X M => ?_)
  refine lv_iload_n hx hb d_MenuScreensModel_language_5 rfl (lv_at hl 1 rfl) ?_
  refine lv_if_lt (tgt := 14) hx hb d_MenuScreensModel_language_6 (by decide) (fun c1 => ?_) (fun c1 => ?_)
  · skip
    refine lv_bipush (v := (-2)) hx hb d_MenuScreensModel_language_14 (by decide) ?_
    exact mv_iret C X hr rfl hlk (⟨(upd x 0 0), y, A, B, M, ⟨rfl, rfl, rfl, by simp_all⟩⟩) (Nat.le_refl _) (Nat.le_refl _) d_MenuScreensModel_language_16
  · skip
    refine lv_iload_n hx hb d_MenuScreensModel_language_9 rfl (lv_at hl 1 rfl) ?_
    refine lv_iconst (v := 1) hx hb d_MenuScreensModel_language_10 (by decide) ?_
    refine lv_icmp_le (tgt := 17) hx hb d_MenuScreensModel_language_11 (by decide) (fun c2 => ?_) (fun c2 => ?_)
    · skip
      refine lv_aload_n hx hb d_MenuScreensModel_language_17 rfl (lv_at hl 0 rfl) ?_
      refine mm_get C X M 46 f_12_264_13 (.int (x 46)) rfl d_MenuScreensModel_language_18 ?_
      refine lv_istore_n (lv' := [(2, .int (x 46)), (0, .ref a), (1, .int p1)]) hx hb d_MenuScreensModel_language_21 rfl hl (by decide) rfl (fun ls hl => ?_)
      refine lv_aload_n hx hb d_MenuScreensModel_language_22 rfl (lv_at hl 1 rfl) ?_
      refine lv_iload_n hx hb d_MenuScreensModel_language_23 rfl (lv_at hl 2 rfl) ?_
      refine mm_put C X M 46 p_12_264_13 (upd (upd x 0 0) 46 p1) y rfl rfl rfl (by decide) d_MenuScreensModel_language_24 (fun h H locs X M => ?_)
      refine lv_iload_n hx hb d_MenuScreensModel_language_27 rfl (lv_at hl 0 rfl) ?_
      exact mv_iret C X hr rfl hlk (⟨(upd (upd x 0 0) 46 p1), y, A, B, M, ⟨rfl, rfl, rfl, by simp_all⟩⟩) (Nat.le_refl _) (Nat.le_refl _) d_MenuScreensModel_language_28
    · skip
      refine lv_bipush (v := (-2)) hx hb d_MenuScreensModel_language_14 (by decide) ?_
      exact mv_iret C X hr rfl hlk (⟨(upd x 0 0), y, A, B, M, ⟨rfl, rfl, rfl, by simp_all⟩⟩) (Nat.le_refl _) (Nat.le_refl _) d_MenuScreensModel_language_16
