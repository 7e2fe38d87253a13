theorem d_MenuScreensModel_addKey_0 : decode prog_13_method_19_code 0 = .ok (.aload_n 0, 1) := by decide +kernel
theorem d_MenuScreensModel_addKey_1 : decode prog_13_method_19_code 1 = .ok (.lconst 1, 1) := by decide +kernel
theorem d_MenuScreensModel_addKey_2 : decode prog_13_method_19_code 2 = .ok (.ldc2_w 225, 3) := by decide +kernel
theorem d_MenuScreensModel_addKey_5 : decode prog_13_method_19_code 5 = .ok (.invokevirtual 199, 3) := by decide +kernel
theorem d_MenuScreensModel_addKey_8 : decode prog_13_method_19_code 8 = .ok (.ifCond .ne 5, 3) := by decide +kernel
theorem d_MenuScreensModel_addKey_11 : decode prog_13_method_19_code 11 = .ok (.iconst 0, 1) := by decide +kernel
theorem d_MenuScreensModel_addKey_12 : decode prog_13_method_19_code 12 = .ok (.ireturn, 1) := by decide +kernel
theorem d_MenuScreensModel_addKey_13 : decode prog_13_method_19_code 13 = .ok (.bipush 10, 2) := by decide +kernel
theorem d_MenuScreensModel_addKey_15 : decode prog_13_method_19_code 15 = .ok (.aload_n 0, 1) := by decide +kernel
theorem d_MenuScreensModel_addKey_16 : decode prog_13_method_19_code 16 = .ok (.getfield 169, 3) := by decide +kernel
theorem d_MenuScreensModel_addKey_19 : decode prog_13_method_19_code 19 = .ok (.imul, 1) := by decide +kernel
theorem d_MenuScreensModel_addKey_20 : decode prog_13_method_19_code 20 = .ok (.aload_n 0, 1) := by decide +kernel
theorem d_MenuScreensModel_addKey_21 : decode prog_13_method_19_code 21 = .ok (.getfield 152, 3) := by decide +kernel
theorem d_MenuScreensModel_addKey_24 : decode prog_13_method_19_code 24 = .ok (.l2i, 1) := by decide +kernel
theorem d_MenuScreensModel_addKey_25 : decode prog_13_method_19_code 25 = .ok (.iadd, 1) := by decide +kernel
theorem d_MenuScreensModel_addKey_26 : decode prog_13_method_19_code 26 = .ok (.istore_n 1, 1) := by decide +kernel
theorem d_MenuScreensModel_addKey_27 : decode prog_13_method_19_code 27 = .ok (.aload_n 0, 1) := by decide +kernel
theorem d_MenuScreensModel_addKey_28 : decode prog_13_method_19_code 28 = .ok (.invokevirtual 205, 3) := by decide +kernel
theorem d_MenuScreensModel_addKey_31 : decode prog_13_method_19_code 31 = .ok (.ifCond .ne 5, 3) := by decide +kernel
theorem d_MenuScreensModel_addKey_34 : decode prog_13_method_19_code 34 = .ok (.iconst 0, 1) := by decide +kernel
theorem d_MenuScreensModel_addKey_35 : decode prog_13_method_19_code 35 = .ok (.ireturn, 1) := by decide +kernel
theorem d_MenuScreensModel_addKey_36 : decode prog_13_method_19_code 36 = .ok (.aload_n 0, 1) := by decide +kernel
theorem d_MenuScreensModel_addKey_37 : decode prog_13_method_19_code 37 = .ok (.getfield 139, 3) := by decide +kernel
theorem d_MenuScreensModel_addKey_40 : decode prog_13_method_19_code 40 = .ok (.istore_n 2, 1) := by decide +kernel
theorem d_MenuScreensModel_addKey_41 : decode prog_13_method_19_code 41 = .ok (.aload_n 0, 1) := by decide +kernel
theorem d_MenuScreensModel_addKey_42 : decode prog_13_method_19_code 42 = .ok (.getfield 142, 3) := by decide +kernel
theorem d_MenuScreensModel_addKey_45 : decode prog_13_method_19_code 45 = .ok (.istore_n 3, 1) := by decide +kernel
theorem d_MenuScreensModel_addKey_46 : decode prog_13_method_19_code 46 = .ok (.aload_n 0, 1) := by decide +kernel
theorem d_MenuScreensModel_addKey_47 : decode prog_13_method_19_code 47 = .ok (.invokevirtual 202, 3) := by decide +kernel
theorem d_MenuScreensModel_addKey_50 : decode prog_13_method_19_code 50 = .ok (.ifCond .eq 12, 3) := by decide +kernel
theorem d_MenuScreensModel_addKey_53 : decode prog_13_method_19_code 53 = .ok (.aload_n 0, 1) := by decide +kernel
theorem d_MenuScreensModel_addKey_54 : decode prog_13_method_19_code 54 = .ok (.getfield 57, 3) := by decide +kernel
theorem d_MenuScreensModel_addKey_57 : decode prog_13_method_19_code 57 = .ok (.iload_n 1, 1) := by decide +kernel
theorem d_MenuScreensModel_addKey_58 : decode prog_13_method_19_code 58 = .ok (.iaload, 1) := by decide +kernel
theorem d_MenuScreensModel_addKey_59 : decode prog_13_method_19_code 59 = .ok (.ifCond .le 5, 3) := by decide +kernel
theorem d_MenuScreensModel_addKey_62 : decode prog_13_method_19_code 62 = .ok (.iconst 0, 1) := by decide +kernel
theorem d_MenuScreensModel_addKey_63 : decode prog_13_method_19_code 63 = .ok (.ireturn, 1) := by decide +kernel
theorem d_MenuScreensModel_addKey_64 : decode prog_13_method_19_code 64 = .ok (.aload_n 0, 1) := by decide +kernel
theorem d_MenuScreensModel_addKey_65 : decode prog_13_method_19_code 65 = .ok (.getfield 54, 3) := by decide +kernel
theorem d_MenuScreensModel_addKey_68 : decode prog_13_method_19_code 68 = .ok (.iload_n 1, 1) := by decide +kernel
theorem d_MenuScreensModel_addKey_69 : decode prog_13_method_19_code 69 = .ok (.iload_n 2, 1) := by decide +kernel
theorem d_MenuScreensModel_addKey_70 : decode prog_13_method_19_code 70 = .ok (.iastore, 1) := by decide +kernel
theorem d_MenuScreensModel_addKey_71 : decode prog_13_method_19_code 71 = .ok (.aload_n 0, 1) := by decide +kernel
theorem d_MenuScreensModel_addKey_72 : decode prog_13_method_19_code 72 = .ok (.getfield 57, 3) := by decide +kernel
theorem d_MenuScreensModel_addKey_75 : decode prog_13_method_19_code 75 = .ok (.iload_n 1, 1) := by decide +kernel
theorem d_MenuScreensModel_addKey_76 : decode prog_13_method_19_code 76 = .ok (.iload_n 3, 1) := by decide +kernel
theorem d_MenuScreensModel_addKey_77 : decode prog_13_method_19_code 77 = .ok (.iastore, 1) := by decide +kernel
theorem d_MenuScreensModel_addKey_78 : decode prog_13_method_19_code 78 = .ok (.iconst 1, 1) := by decide +kernel
theorem d_MenuScreensModel_addKey_79 : decode prog_13_method_19_code 79 = .ok (.ireturn, 1) := by decide +kernel
set_option maxRecDepth 100000 in
set_option maxHeartbeats 4000000 in
theorem cm_MenuScreensModel_addKey {l : Launch} {S0 : State} {b : Nat} {D : va_G} {dT : Nat → ClassId} (hE : vEnv S0 b D dT) {h0 : vH} {a : Nat} {ar : Nat → Nat} {x : Nat → Int32} {y : Nat → Int64} {A : Nat → Nat → Int32} {B : Nat → Nat → Int64} (M : MV S0 dT h0 a ar x y A B) {i0 e0 : Nat} (hat : x 7 = nI i0) (hend : x 8 = nI e0) (hle : i0 ≤ e0) (he : e0 ≤ 4000) {ns : Nat} (hns : x 20 = nI ns) (hns2 : ns ≤ 30) : vMi l S0 D vcl GT y_MenuScreensModel_addKey prog_13_method_19_code 4 (some .boolean) 3 100 0 0 [.ref a] h0 (fun r h' => ∃ x' y' A', MR S0 dT h0 h' a ar x' y' A' B ∧ (∀ k, k ≠ 7 → k ≠ 9 → k ≠ 10 → x' k = x k) ∧ (∀ k, k ≠ 11 → y' k = y k) ∧ (okKe A e0 i0 ns = true ∧ r = 1 ∧ A' = va_up (va_up A 26 (upd (A 26) (10 * ns + (vNu (A 6) e0 i0).toInt32.toNatClampNeg) (nI (nF (A 6) e0 (nT (A 6) e0 i0))))) 27 (upd (A 27) (10 * ns + (vNu (A 6) e0 i0).toInt32.toNatClampNeg) (nI (nT (A 6) e0 (nT (A 6) e0 i0)))) ∨ okKe A e0 i0 ns = false ∧ r = 0 ∧ A' = A)) := by
  unfold vMi
  refine vM_ofQ hE.1 (by decide) (Nat.le_of_ble_eq_true rfl) (fun p e s m args below meth c ls Q hQ C hr hlk hnm X hl => ?_)
  have C : vC p s m _ c _ _ "MenuScreensModel" GT D vcl (vty dT) := C
  have hx := C.1.1
  have hb := C.1.2.1
  replace M := MR.of M
  obtain ⟨H, eH⟩ : ∃ z, z = s.heap := ⟨_, rfl⟩
  obtain ⟨locs, elocs⟩ : ∃ z : List Loc, z = [] := ⟨_, rfl⟩
  rw [← eH, ← elocs] at X
  rw [← eH, ← elocs]
  clear eH elocs
  have hl : lv_has ls 4 [(0, .ref a)] := hl
  refine lv_aload_n hx hb d_MenuScreensModel_addKey_0 rfl (lv_at hl 0 rfl) ?_
  refine lv_lconst (v := 1) hx hb d_MenuScreensModel_addKey_1 (by decide) ?_
  refine lv_ldc2 (v := 9) hx hb C.1.2.2.2.1 (C.1.2.2.2.2 _ (gt_6 41 (by decide +kernel) rfl)) d_MenuScreensModel_addKey_2 ?_
  refine mv_bi X (mv_rV (rest := []) (As := [.long 1, .long 9]) gt_good C X k_12_199 (cm_MenuScreensModel_number hE M.1 _ _ (i0 := i0) (e0 := e0) hat hend hle he) M.1.1 rfl rfl ⟨by decide, by decide⟩ rfl hl.1 rfl (Nat.le_of_ble_eq_true rfl) d_MenuScreensModel_addKey_5 ⟨Nat.le_refl _, Nat.le_refl _⟩) (fun r1 hN H locs hp X => ?_)
  obtain ⟨x1, yn2, M1, rfl, kyn2, vyn2, er1⟩ := hp
  replace M := M.trans M1
  replace er1 : r1 = bI (cNu (A 6) e0 i0 1 9) := er1
  replace vyn2 : r1 = 1 → yn2 11 = vNu (A 6) e0 i0 := vyn2
  have hT1 := (nT_in (A 6) hle)
  have hT2 := (nT_in (A 6) hT1.2)
  refine lv_if_ne (tgt := 13) hx hb d_MenuScreensModel_addKey_8 (by decide) (fun c3 => ?_) (fun c3 => ?_)
  · skip
    have a1 : cNu (A 6) e0 i0 1 9 = true := bI_n (fun z => c3 (er1.trans z))
    have er : r1 = 1 := by rw [er1, a1]; rfl
    have ev := vyn2 er
    obtain ⟨K, hK1, hK2, eK⟩ := l64_in (lo := 1) (hi := 9) (cNu_in a1).1 (cNu_in a1).2 (by decide) (by decide)
    have eKc : (vNu (A 6) e0 i0).toInt32.toNatClampNeg = K := by rw [eK, lN_i]; exact nI_clamp (by omega)
    have ek : 10 * x 20 + ((yn2 11) : Int64).toInt32 = nI (10 * ns + K) := by rw [hns, ev, eK, lN_i]; exact (congrArg (· + nI K) (pk_mul 10 ns)).trans (nI_add _ _)
    refine lv_bipush (v := 10) hx hb d_MenuScreensModel_addKey_13 (by decide) ?_
    refine lv_aload_n hx hb d_MenuScreensModel_addKey_15 rfl (lv_at hl 0 rfl) ?_
    refine mm_get C X M 20 f_12_169_13 (.int (x 20)) rfl d_MenuScreensModel_addKey_16 ?_
    refine lv_imul hx hb d_MenuScreensModel_addKey_19 ?_
    refine lv_aload_n hx hb d_MenuScreensModel_addKey_20 rfl (lv_at hl 0 rfl) ?_
    refine mm_get C X M 11 f_12_152_13 (.long (yn2 11)) rfl d_MenuScreensModel_addKey_21 ?_
    refine lv_l2i (v := ((yn2 11) : Int64).toInt32) hx hb d_MenuScreensModel_addKey_24 rfl ?_
    refine lv_iadd hx hb d_MenuScreensModel_addKey_25 ?_
    refine lv_istore_n (lv' := [(1, .int ((10 * (x 20)) + (((yn2 11) : Int64).toInt32))), (0, .ref a)]) hx hb d_MenuScreensModel_addKey_26 rfl hl (by decide) rfl (fun ls hl => ?_)
    refine lv_aload_n hx hb d_MenuScreensModel_addKey_27 rfl (lv_at hl 1 rfl) ?_
    refine mv_bi X (mv_rV (rest := []) (As := []) gt_good C X k_12_205 (cm_MenuScreensModel_name hE M.1 (i0 := (nT (A 6) e0 i0)) (e0 := e0) rfl hend hT1.2 he) M.1.1 rfl rfl ⟨by decide, by decide⟩ rfl hl.1 rfl (Nat.le_of_ble_eq_true rfl) d_MenuScreensModel_addKey_28 ⟨Nat.le_refl _, Nat.le_refl _⟩) (fun r4 hN H locs hp X => ?_)
    obtain ⟨x1, M1, rfl, er4⟩ := hp
    replace M := M.trans M1
    replace er4 : r4 = bI (cNm (A 6) e0 (nT (A 6) e0 i0)) := er4
    refine lv_if_ne (tgt := 36) hx hb d_MenuScreensModel_addKey_31 (by decide) (fun c5 => ?_) (fun c5 => ?_)
    · skip
      have a2 : cNm (A 6) e0 (nT (A 6) e0 i0) = true := bI_n (fun z => c5 (er4.trans z))
      refine lv_aload_n hx hb d_MenuScreensModel_addKey_36 rfl (lv_at hl 1 rfl) ?_
      refine mm_get C X M 9 f_12_139_13 (.int (nI (nF (A 6) e0 (nT (A 6) e0 i0)))) rfl d_MenuScreensModel_addKey_37 ?_
      refine lv_istore_n (lv' := [(2, .int (nI (nF (A 6) e0 (nT (A 6) e0 i0)))), (1, .int ((10 * (x 20)) + (((yn2 11) : Int64).toInt32))), (0, .ref a)]) hx hb d_MenuScreensModel_addKey_40 rfl hl (by decide) rfl (fun ls hl => ?_)
      refine lv_aload_n hx hb d_MenuScreensModel_addKey_41 rfl (lv_at hl 2 rfl) ?_
      refine mm_get C X M 10 f_12_142_13 (.int (nI (nT (A 6) e0 (nT (A 6) e0 i0)))) rfl d_MenuScreensModel_addKey_42 ?_
      refine lv_istore_n (lv' := [(3, .int (nI (nT (A 6) e0 (nT (A 6) e0 i0)))), (2, .int (nI (nF (A 6) e0 (nT (A 6) e0 i0)))), (1, .int ((10 * (x 20)) + (((yn2 11) : Int64).toInt32))), (0, .ref a)]) hx hb d_MenuScreensModel_addKey_45 rfl hl (by decide) rfl (fun ls hl => ?_)
      refine lv_aload_n hx hb d_MenuScreensModel_addKey_46 rfl (lv_at hl 3 rfl) ?_
      refine mv_bi X (mv_rV (rest := []) (As := []) gt_good C X k_12_202 (cm_MenuScreensModel_through hE M.1 (i0 := (nT (A 6) e0 (nT (A 6) e0 i0))) (e0 := e0) rfl hend hT2.2 he) M.1.1 rfl rfl ⟨by decide, by decide⟩ rfl hl.1 rfl (Nat.le_of_ble_eq_true rfl) d_MenuScreensModel_addKey_47 ⟨Nat.le_refl _, Nat.le_refl _⟩) (fun r6 hN H locs hp X => ?_)
      obtain ⟨x1, M1, rfl, er6⟩ := hp
      replace M := M.trans M1
      replace er6 : r6 = bI (cEnd (A 6) e0 (nT (A 6) e0 (nT (A 6) e0 i0))) := er6
      refine lv_if_eq (tgt := 62) hx hb d_MenuScreensModel_addKey_50 (by decide) (fun c7 => ?_) (fun c7 => ?_)
      · skip
        refine lv_iconst (v := 0) hx hb d_MenuScreensModel_addKey_62 (by decide) ?_
        exact mq_iret hQ C X hr rfl hlk (⟨(upd (upd (upd x 7 (nI (nT (A 6) e0 (nT (A 6) e0 (nT (A 6) e0 i0))))) 9 (nI (nF (A 6) e0 (nT (A 6) e0 (nT (A 6) e0 i0))))) 10 (nI (nT (A 6) e0 (nT (A 6) e0 (nT (A 6) e0 i0))))), yn2, A, M, (fun k q7 q9 q10 => by simp [upd, q7, q9, q10]), (fun k q11 => by rw [kyn2 k q11]), Or.inr ⟨by unfold okKe; rw [show cEnd (A 6) e0 (nT (A 6) e0 (nT (A 6) e0 i0)) = false from bI_0 (er6.symm.trans c7)]; simp, rfl, rfl⟩⟩) (Nat.le_refl _) (Nat.le_refl _) d_MenuScreensModel_addKey_63
      · skip
        have a3 : cEnd (A 6) e0 (nT (A 6) e0 (nT (A 6) e0 i0)) = true := bI_n (fun z => c7 (er6.trans z))
        refine lv_aload_n hx hb d_MenuScreensModel_addKey_53 rfl (lv_at hl 3 rfl) ?_
        refine mm_get C X M 27 f_12_57_13 (.ref (ar 27)) rfl d_MenuScreensModel_addKey_54 ?_
        refine lv_iload_n hx hb d_MenuScreensModel_addKey_57 rfl (lv_at hl 2 rfl) ?_
        refine mm_iald C X M 27 310 rfl (A 27) rfl (by decide) (10 * ns + K) ek (by omega) d_MenuScreensModel_addKey_58 ?_
        refine lv_if_le (tgt := 64) hx hb d_MenuScreensModel_addKey_59 (by decide) (fun c8 => ?_) (fun c8 => ?_)
        · skip
          refine lv_aload_n hx hb d_MenuScreensModel_addKey_64 rfl (lv_at hl 3 rfl) ?_
          refine mm_get C X M 26 f_12_54_13 (.ref (ar 26)) rfl d_MenuScreensModel_addKey_65 ?_
          refine lv_iload_n hx hb d_MenuScreensModel_addKey_68 rfl (lv_at hl 2 rfl) ?_
          refine lv_iload_n hx hb d_MenuScreensModel_addKey_69 rfl (lv_at hl 1 rfl) ?_
          refine mm_iast C X M 26 310 rfl (A 26) rfl (fun _ => rfl) (by decide) (10 * ns + K) ek (by omega) d_MenuScreensModel_addKey_70 (fun h H locs X M => ?_)
          refine lv_aload_n hx hb d_MenuScreensModel_addKey_71 rfl (lv_at hl 3 rfl) ?_
          refine mm_get C X M 27 f_12_57_13 (.ref (ar 27)) rfl d_MenuScreensModel_addKey_72 ?_
          refine lv_iload_n hx hb d_MenuScreensModel_addKey_75 rfl (lv_at hl 2 rfl) ?_
          refine lv_iload_n hx hb d_MenuScreensModel_addKey_76 rfl (lv_at hl 0 rfl) ?_
          refine mm_iast C X M 27 310 rfl (A 27) rfl (fun _ => rfl) (by decide) (10 * ns + K) ek (by omega) d_MenuScreensModel_addKey_77 (fun h H locs X M => ?_)
          refine lv_iconst (v := 1) hx hb d_MenuScreensModel_addKey_78 (by decide) ?_
          exact mq_iret hQ C X hr rfl hlk (⟨(upd (upd (upd x 7 (nI (nT (A 6) e0 (nT (A 6) e0 (nT (A 6) e0 i0))))) 9 (nI (nF (A 6) e0 (nT (A 6) e0 (nT (A 6) e0 i0))))) 10 (nI (nT (A 6) e0 (nT (A 6) e0 (nT (A 6) e0 i0))))), yn2, (va_up (va_up A 26 (upd (A 26) (10 * ns + K) (nI (nF (A 6) e0 (nT (A 6) e0 i0))))) 27 (upd (A 27) (10 * ns + K) (nI (nT (A 6) e0 (nT (A 6) e0 i0))))), M, (fun k q7 q9 q10 => by simp [upd, q7, q9, q10]), (fun k q11 => by rw [kyn2 k q11]), Or.inl ⟨by unfold okKe; rw [a1, a2, a3, eKc, decide_eq_true (p := A 27 (10 * ns + K) ≤ 0) c8]; rfl, rfl, by rw [eKc]⟩⟩) (Nat.le_refl _) (Nat.le_refl _) d_MenuScreensModel_addKey_79
        · skip
          refine lv_iconst (v := 0) hx hb d_MenuScreensModel_addKey_62 (by decide) ?_
          exact mq_iret hQ C X hr rfl hlk (⟨(upd (upd (upd x 7 (nI (nT (A 6) e0 (nT (A 6) e0 (nT (A 6) e0 i0))))) 9 (nI (nF (A 6) e0 (nT (A 6) e0 (nT (A 6) e0 i0))))) 10 (nI (nT (A 6) e0 (nT (A 6) e0 (nT (A 6) e0 i0))))), yn2, A, M, (fun k q7 q9 q10 => by simp [upd, q7, q9, q10]), (fun k q11 => by rw [kyn2 k q11]), Or.inr ⟨by unfold okKe; rw [eKc, decide_eq_false (p := A 27 (10 * ns + K) ≤ 0) c8]; simp, rfl, rfl⟩⟩) (Nat.le_refl _) (Nat.le_refl _) d_MenuScreensModel_addKey_63
    · skip
      refine lv_iconst (v := 0) hx hb d_MenuScreensModel_addKey_34 (by decide) ?_
      exact mq_iret hQ C X hr rfl hlk (⟨(upd (upd (upd x 7 (nI (nT (A 6) e0 (nT (A 6) e0 i0)))) 9 (nI (nF (A 6) e0 (nT (A 6) e0 i0)))) 10 (nI (nT (A 6) e0 (nT (A 6) e0 i0)))), yn2, A, M, (fun k q7 q9 q10 => by simp [upd, q7, q9, q10]), (fun k q11 => by rw [kyn2 k q11]), Or.inr ⟨by unfold okKe; rw [show cNm (A 6) e0 (nT (A 6) e0 i0) = false from bI_0 (er4.symm.trans c5)]; simp, rfl, rfl⟩⟩) (Nat.le_refl _) (Nat.le_refl _) d_MenuScreensModel_addKey_35
  · skip
    refine lv_iconst (v := 0) hx hb d_MenuScreensModel_addKey_11 (by decide) ?_
    exact mq_iret hQ C X hr rfl hlk (⟨(upd (upd (upd x 7 (nI (nT (A 6) e0 i0))) 9 (nI (nF (A 6) e0 i0))) 10 (nI (nT (A 6) e0 i0))), yn2, A, M, (fun k q7 q9 q10 => by simp [upd, q7, q9, q10]), (fun k q11 => by rw [kyn2 k q11]), Or.inr ⟨by unfold okKe; rw [show cNu (A 6) e0 i0 1 9 = false from bI_0 (er1.symm.trans c3)]; rfl, rfl, rfl⟩⟩) (Nat.le_refl _) (Nat.le_refl _) d_MenuScreensModel_addKey_12
theorem d_MenuScreensModel_addCondition_0 : decode prog_13_method_18_code 0 = .ok (.aload_n 0, 1) := by decide +kernel
theorem d_MenuScreensModel_addCondition_1 : decode prog_13_method_18_code 1 = .ok (.invokevirtual 205, 3) := by decide +kernel
theorem d_MenuScreensModel_addCondition_4 : decode prog_13_method_18_code 4 = .ok (.ifCond .ne 5, 3) := by decide +kernel
theorem d_MenuScreensModel_addCondition_7 : decode prog_13_method_18_code 7 = .ok (.iconst 0, 1) := by decide +kernel
theorem d_MenuScreensModel_addCondition_8 : decode prog_13_method_18_code 8 = .ok (.ireturn, 1) := by decide +kernel
theorem d_MenuScreensModel_addCondition_9 : decode prog_13_method_18_code 9 = .ok (.aload_n 0, 1) := by decide +kernel
theorem d_MenuScreensModel_addCondition_10 : decode prog_13_method_18_code 10 = .ok (.invokevirtual 208, 3) := by decide +kernel
theorem d_MenuScreensModel_addCondition_13 : decode prog_13_method_18_code 13 = .ok (.istore_n 1, 1) := by decide +kernel
theorem d_MenuScreensModel_addCondition_14 : decode prog_13_method_18_code 14 = .ok (.iload_n 1, 1) := by decide +kernel
theorem d_MenuScreensModel_addCondition_15 : decode prog_13_method_18_code 15 = .ok (.ifCond .eq 23, 3) := by decide +kernel
theorem d_MenuScreensModel_addCondition_18 : decode prog_13_method_18_code 18 = .ok (.aload_n 0, 1) := by decide +kernel
theorem d_MenuScreensModel_addCondition_19 : decode prog_13_method_18_code 19 = .ok (.invokevirtual 145, 3) := by decide +kernel
theorem d_MenuScreensModel_addCondition_22 : decode prog_13_method_18_code 22 = .ok (.ifCond .eq 16, 3) := by decide +kernel
theorem d_MenuScreensModel_addCondition_25 : decode prog_13_method_18_code 25 = .ok (.aload_n 0, 1) := by decide +kernel
theorem d_MenuScreensModel_addCondition_26 : decode prog_13_method_18_code 26 = .ok (.getfield 142, 3) := by decide +kernel
theorem d_MenuScreensModel_addCondition_29 : decode prog_13_method_18_code 29 = .ok (.aload_n 0, 1) := by decide +kernel
theorem d_MenuScreensModel_addCondition_30 : decode prog_13_method_18_code 30 = .ok (.getfield 139, 3) := by decide +kernel
theorem d_MenuScreensModel_addCondition_33 : decode prog_13_method_18_code 33 = .ok (.isub, 1) := by decide +kernel
theorem d_MenuScreensModel_addCondition_34 : decode prog_13_method_18_code 34 = .ok (.iconst 1, 1) := by decide +kernel
theorem d_MenuScreensModel_addCondition_35 : decode prog_13_method_18_code 35 = .ok (.if_icmp .eq 5, 3) := by decide +kernel
theorem d_MenuScreensModel_addCondition_38 : decode prog_13_method_18_code 38 = .ok (.iconst 0, 1) := by decide +kernel
theorem d_MenuScreensModel_addCondition_39 : decode prog_13_method_18_code 39 = .ok (.ireturn, 1) := by decide +kernel
theorem d_MenuScreensModel_addCondition_40 : decode prog_13_method_18_code 40 = .ok (.aload_n 0, 1) := by decide +kernel
theorem d_MenuScreensModel_addCondition_41 : decode prog_13_method_18_code 41 = .ok (.getfield 13, 3) := by decide +kernel
theorem d_MenuScreensModel_addCondition_44 : decode prog_13_method_18_code 44 = .ok (.aload_n 0, 1) := by decide +kernel
theorem d_MenuScreensModel_addCondition_45 : decode prog_13_method_18_code 45 = .ok (.getfield 139, 3) := by decide +kernel
theorem d_MenuScreensModel_addCondition_48 : decode prog_13_method_18_code 48 = .ok (.iaload, 1) := by decide +kernel
theorem d_MenuScreensModel_addCondition_49 : decode prog_13_method_18_code 49 = .ok (.istore_n 2, 1) := by decide +kernel
theorem d_MenuScreensModel_addCondition_50 : decode prog_13_method_18_code 50 = .ok (.iload_n 2, 1) := by decide +kernel
theorem d_MenuScreensModel_addCondition_51 : decode prog_13_method_18_code 51 = .ok (.bipush 61, 2) := by decide +kernel
theorem d_MenuScreensModel_addCondition_53 : decode prog_13_method_18_code 53 = .ok (.if_icmp .eq 17, 3) := by decide +kernel
theorem d_MenuScreensModel_addCondition_56 : decode prog_13_method_18_code 56 = .ok (.iload_n 2, 1) := by decide +kernel
theorem d_MenuScreensModel_addCondition_57 : decode prog_13_method_18_code 57 = .ok (.bipush 60, 2) := by decide +kernel
theorem d_MenuScreensModel_addCondition_59 : decode prog_13_method_18_code 59 = .ok (.if_icmp .eq 11, 3) := by decide +kernel
theorem d_MenuScreensModel_addCondition_62 : decode prog_13_method_18_code 62 = .ok (.iload_n 2, 1) := by decide +kernel
theorem d_MenuScreensModel_addCondition_63 : decode prog_13_method_18_code 63 = .ok (.bipush 62, 2) := by decide +kernel
theorem d_MenuScreensModel_addCondition_65 : decode prog_13_method_18_code 65 = .ok (.if_icmp .eq 5, 3) := by decide +kernel
theorem d_MenuScreensModel_addCondition_68 : decode prog_13_method_18_code 68 = .ok (.iconst 0, 1) := by decide +kernel
theorem d_MenuScreensModel_addCondition_69 : decode prog_13_method_18_code 69 = .ok (.ireturn, 1) := by decide +kernel
theorem d_MenuScreensModel_addCondition_70 : decode prog_13_method_18_code 70 = .ok (.aload_n 0, 1) := by decide +kernel
theorem d_MenuScreensModel_addCondition_71 : decode prog_13_method_18_code 71 = .ok (.ldc2_w 212, 3) := by decide +kernel
theorem d_MenuScreensModel_addCondition_74 : decode prog_13_method_18_code 74 = .ok (.ldc2_w 214, 3) := by decide +kernel
theorem d_MenuScreensModel_addCondition_77 : decode prog_13_method_18_code 77 = .ok (.invokevirtual 199, 3) := by decide +kernel
theorem d_MenuScreensModel_addCondition_80 : decode prog_13_method_18_code 80 = .ok (.ifCond .eq 10, 3) := by decide +kernel
theorem d_MenuScreensModel_addCondition_83 : decode prog_13_method_18_code 83 = .ok (.aload_n 0, 1) := by decide +kernel
theorem d_MenuScreensModel_addCondition_84 : decode prog_13_method_18_code 84 = .ok (.invokevirtual 202, 3) := by decide +kernel
theorem d_MenuScreensModel_addCondition_87 : decode prog_13_method_18_code 87 = .ok (.ifCond .ne 5, 3) := by decide +kernel
theorem d_MenuScreensModel_addCondition_90 : decode prog_13_method_18_code 90 = .ok (.iconst 0, 1) := by decide +kernel
theorem d_MenuScreensModel_addCondition_91 : decode prog_13_method_18_code 91 = .ok (.ireturn, 1) := by decide +kernel
theorem d_MenuScreensModel_addCondition_92 : decode prog_13_method_18_code 92 = .ok (.aload_n 0, 1) := by decide +kernel
theorem d_MenuScreensModel_addCondition_93 : decode prog_13_method_18_code 93 = .ok (.getfield 90, 3) := by decide +kernel
theorem d_MenuScreensModel_addCondition_96 : decode prog_13_method_18_code 96 = .ok (.aload_n 0, 1) := by decide +kernel
theorem d_MenuScreensModel_addCondition_97 : decode prog_13_method_18_code 97 = .ok (.getfield 227, 3) := by decide +kernel
theorem d_MenuScreensModel_addCondition_100 : decode prog_13_method_18_code 100 = .ok (.aload_n 0, 1) := by decide +kernel
theorem d_MenuScreensModel_addCondition_101 : decode prog_13_method_18_code 101 = .ok (.getfield 169, 3) := by decide +kernel
theorem d_MenuScreensModel_addCondition_104 : decode prog_13_method_18_code 104 = .ok (.iastore, 1) := by decide +kernel
theorem d_MenuScreensModel_addCondition_105 : decode prog_13_method_18_code 105 = .ok (.aload_n 0, 1) := by decide +kernel
theorem d_MenuScreensModel_addCondition_106 : decode prog_13_method_18_code 106 = .ok (.getfield 93, 3) := by decide +kernel
theorem d_MenuScreensModel_addCondition_109 : decode prog_13_method_18_code 109 = .ok (.aload_n 0, 1) := by decide +kernel
theorem d_MenuScreensModel_addCondition_110 : decode prog_13_method_18_code 110 = .ok (.getfield 227, 3) := by decide +kernel
theorem d_MenuScreensModel_addCondition_113 : decode prog_13_method_18_code 113 = .ok (.iconst (-1), 1) := by decide +kernel
theorem d_MenuScreensModel_addCondition_114 : decode prog_13_method_18_code 114 = .ok (.iastore, 1) := by decide +kernel
theorem d_MenuScreensModel_addCondition_115 : decode prog_13_method_18_code 115 = .ok (.aload_n 0, 1) := by decide +kernel
theorem d_MenuScreensModel_addCondition_116 : decode prog_13_method_18_code 116 = .ok (.getfield 96, 3) := by decide +kernel
theorem d_MenuScreensModel_addCondition_119 : decode prog_13_method_18_code 119 = .ok (.aload_n 0, 1) := by decide +kernel
theorem d_MenuScreensModel_addCondition_120 : decode prog_13_method_18_code 120 = .ok (.getfield 227, 3) := by decide +kernel
theorem d_MenuScreensModel_addCondition_123 : decode prog_13_method_18_code 123 = .ok (.iload_n 1, 1) := by decide +kernel
theorem d_MenuScreensModel_addCondition_124 : decode prog_13_method_18_code 124 = .ok (.iastore, 1) := by decide +kernel
theorem d_MenuScreensModel_addCondition_125 : decode prog_13_method_18_code 125 = .ok (.aload_n 0, 1) := by decide +kernel
theorem d_MenuScreensModel_addCondition_126 : decode prog_13_method_18_code 126 = .ok (.getfield 99, 3) := by decide +kernel
theorem d_MenuScreensModel_addCondition_129 : decode prog_13_method_18_code 129 = .ok (.aload_n 0, 1) := by decide +kernel
theorem d_MenuScreensModel_addCondition_130 : decode prog_13_method_18_code 130 = .ok (.getfield 227, 3) := by decide +kernel
theorem d_MenuScreensModel_addCondition_133 : decode prog_13_method_18_code 133 = .ok (.iload_n 2, 1) := by decide +kernel
theorem d_MenuScreensModel_addCondition_134 : decode prog_13_method_18_code 134 = .ok (.iastore, 1) := by decide +kernel
theorem d_MenuScreensModel_addCondition_135 : decode prog_13_method_18_code 135 = .ok (.aload_n 0, 1) := by decide +kernel
theorem d_MenuScreensModel_addCondition_136 : decode prog_13_method_18_code 136 = .ok (.getfield 102, 3) := by decide +kernel
theorem d_MenuScreensModel_addCondition_139 : decode prog_13_method_18_code 139 = .ok (.aload_n 0, 1) := by decide +kernel
theorem d_MenuScreensModel_addCondition_140 : decode prog_13_method_18_code 140 = .ok (.getfield 227, 3) := by decide +kernel
theorem d_MenuScreensModel_addCondition_143 : decode prog_13_method_18_code 143 = .ok (.aload_n 0, 1) := by decide +kernel
theorem d_MenuScreensModel_addCondition_144 : decode prog_13_method_18_code 144 = .ok (.getfield 152, 3) := by decide +kernel
theorem d_MenuScreensModel_addCondition_147 : decode prog_13_method_18_code 147 = .ok (.lastore, 1) := by decide +kernel
theorem d_MenuScreensModel_addCondition_148 : decode prog_13_method_18_code 148 = .ok (.aload_n 0, 1) := by decide +kernel
theorem d_MenuScreensModel_addCondition_149 : decode prog_13_method_18_code 149 = .ok (.dup, 1) := by decide +kernel
theorem d_MenuScreensModel_addCondition_150 : decode prog_13_method_18_code 150 = .ok (.getfield 227, 3) := by decide +kernel
theorem d_MenuScreensModel_addCondition_153 : decode prog_13_method_18_code 153 = .ok (.iconst 1, 1) := by decide +kernel
theorem d_MenuScreensModel_addCondition_154 : decode prog_13_method_18_code 154 = .ok (.iadd, 1) := by decide +kernel
theorem d_MenuScreensModel_addCondition_155 : decode prog_13_method_18_code 155 = .ok (.putfield 227, 3) := by decide +kernel
theorem d_MenuScreensModel_addCondition_158 : decode prog_13_method_18_code 158 = .ok (.iconst 1, 1) := by decide +kernel
theorem d_MenuScreensModel_addCondition_159 : decode prog_13_method_18_code 159 = .ok (.ireturn, 1) := by decide +kernel
set_option maxRecDepth 100000 in
set_option maxHeartbeats 4000000 in
theorem cm_MenuScreensModel_addCondition {l : Launch} {S0 : State} {b : Nat} {D : va_G} {dT : Nat → ClassId} (hE : vEnv S0 b D dT) {h0 : vH} {a : Nat} {ar : Nat → Nat} {x : Nat → Int32} {y : Nat → Int64} {A : Nat → Nat → Int32} {B : Nat → Nat → Int64} (M : MV S0 dT h0 a ar x y A B) {i0 e0 : Nat} (hat : x 7 = nI i0) (hend : x 8 = nI e0) (hle : i0 ≤ e0) (he : e0 ≤ 4000) {nv : Nat} (hnv : x 12 = nI nv) (hnv2 : nv ≤ 40) (hRV : ∀ v, 1 ≤ v → v ≤ nv → ∃ p q, A 13 v = nI p ∧ A 14 v = nI q ∧ p ≤ q ∧ q ≤ 4000) {nc : Nat} (hnc : x 39 = nI nc) (hnc2 : nc < 512) : vMi l S0 D vcl GT y_MenuScreensModel_addCondition prog_13_method_18_code 3 (some .boolean) 3 100 0 0 [.ref a] h0 (fun r h' => ∃ x' y' A' B', MR S0 dT h0 h' a ar x' y' A' B' ∧ (∀ k, k ≠ 7 → k ≠ 9 → k ≠ 10 → k ≠ 39 → x' k = x k) ∧ (∀ k, k ≠ 11 → y' k = y k) ∧ (okIf A e0 i0 nv = true ∧ r = 1 ∧ x' 39 = nI (nc + 1) ∧ A' = va_up (va_up (va_up (va_up A 40 (upd (A 40) nc (x 20))) 41 (upd (A 41) nc (-1))) 42 (upd (A 42) nc (nI (fV A nv (nF (A 6) e0 i0) (nT (A 6) e0 i0))))) 43 (upd (A 43) nc (A 6 (nF (A 6) e0 (nT (A 6) e0 i0)))) ∧ B' = va_up B 44 (vp_updL (B 44) nc (vNu (A 6) e0 (nT (A 6) e0 (nT (A 6) e0 i0)))) ∨ okIf A e0 i0 nv = false ∧ r = 0 ∧ x' 39 = x 39 ∧ A' = A ∧ B' = B)) := by
  unfold vMi
  refine vM_ofQ hE.1 (by decide) (Nat.le_of_ble_eq_true rfl) (fun p e s m args below meth c ls Q hQ C hr hlk hnm X hl => ?_)
  have C : vC p s m _ c _ _ "MenuScreensModel" GT D vcl (vty dT) := C
  have hx := C.1.1
  have hb := C.1.2.1
  replace M := MR.of M
  obtain ⟨H, eH⟩ : ∃ z, z = s.heap := ⟨_, rfl⟩
  obtain ⟨locs, elocs⟩ : ∃ z : List Loc, z = [] := ⟨_, rfl⟩
  rw [← eH, ← elocs] at X
  rw [← eH, ← elocs]
  clear eH elocs
  have hl : lv_has ls 3 [(0, .ref a)] := hl
  refine lv_aload_n hx hb d_MenuScreensModel_addCondition_0 rfl (lv_at hl 0 rfl) ?_
  refine mv_bi X (mv_rV (rest := []) (As := []) gt_good C X k_12_205 (cm_MenuScreensModel_name hE M.1 (i0 := i0) (e0 := e0) hat hend hle he) M.1.1 rfl rfl ⟨by decide, by decide⟩ rfl hl.1 rfl (Nat.le_of_ble_eq_true rfl) d_MenuScreensModel_addCondition_1 ⟨Nat.le_refl _, Nat.le_refl _⟩) (fun r1 hN H locs hp X => ?_)
  obtain ⟨x1, M1, rfl, er1⟩ := hp
  replace M := M.trans M1
  replace er1 : r1 = bI (cNm (A 6) e0 i0) := er1
  have hT1 := (nT_in (A 6) hle)
  have hT2 := (nT_in (A 6) hT1.2)
  have hT3 := (nT_in (A 6) hT2.2)
  refine lv_if_ne (tgt := 9) hx hb d_MenuScreensModel_addCondition_4 (by decide) (fun c2 => ?_) (fun c2 => ?_)
  · skip
    refine lv_aload_n hx hb d_MenuScreensModel_addCondition_9 rfl (lv_at hl 0 rfl) ?_
    have a1 : cNm (A 6) e0 i0 = true := bI_n (fun z => c2 (er1.trans z))
    refine mv_bi X (mv_rV (rest := []) (As := []) gt_good C X k_12_208 (cm_MenuScreensModel_findValue hE M.1 (n := nv) hnv hnv2 hRV (F := (nF (A 6) e0 i0)) (T := (nT (A 6) e0 i0)) rfl rfl hT1.1 (by omega)) M.1.1 rfl rfl ⟨by decide, by decide⟩ rfl hl.1 rfl (Nat.le_of_ble_eq_true rfl) d_MenuScreensModel_addCondition_10 ⟨Nat.le_refl _, Nat.le_refl _⟩) (fun r3 hN H locs hp X => ?_)
    obtain ⟨ehr3, er3⟩ := hp
    rw [ehr3] at X
    replace er3 : r3 = nI (fV A nv (nF (A 6) e0 i0) (nT (A 6) e0 i0)) := er3
    have hfv : fV A nv (nF (A 6) e0 i0) (nT (A 6) e0 i0) ≤ 1 + nv := fnd_le _ _ _
    refine lv_istore_n (lv' := [(1, .int r3), (0, .ref a)]) hx hb d_MenuScreensModel_addCondition_13 rfl hl (by decide) rfl (fun ls hl => ?_)
    refine lv_iload_n hx hb d_MenuScreensModel_addCondition_14 rfl (lv_at hl 0 rfl) ?_
    refine lv_if_eq (tgt := 38) hx hb d_MenuScreensModel_addCondition_15 (by decide) (fun c4 => ?_) (fun c4 => ?_)
    · skip
      refine lv_iconst (v := 0) hx hb d_MenuScreensModel_addCondition_38 (by decide) ?_
      exact mq_iret hQ C X hr rfl hlk (⟨(upd (upd (upd x 7 (nI (nT (A 6) e0 i0))) 9 (nI (nF (A 6) e0 i0))) 10 (nI (nT (A 6) e0 i0))), y, A, B, M, (fun k q7 q9 q10 q39 => by simp [upd, q7, q9, q10, q39]), (fun k q11 => rfl), Or.inr ⟨by unfold okIf; rw [decide_eq_false (p := fV A nv (nF (A 6) e0 i0) (nT (A 6) e0 i0) ≠ 0) (fun z => z (nI_eqI (by omega) (by decide) (by rw [← er3]; exact c4)))]; simp, rfl, rfl, rfl, rfl⟩⟩) (Nat.le_refl _) (Nat.le_refl _) d_MenuScreensModel_addCondition_39
    · skip
      have a2 : fV A nv (nF (A 6) e0 i0) (nT (A 6) e0 i0) ≠ 0 := fun z => c4 (by rw [er3, z]; rfl)
      refine lv_aload_n hx hb d_MenuScreensModel_addCondition_18 rfl (lv_at hl 1 rfl) ?_
      refine mv_bi X (mv_rV (rest := []) (As := []) gt_good C X k_12_145 (cm_MenuScreensModel_next hE M.1 (i0 := (nT (A 6) e0 i0)) (e0 := e0) (F := (nF (A 6) e0 (nT (A 6) e0 i0))) (T := (nT (A 6) e0 (nT (A 6) e0 i0))) rfl hend hT1.2 he rfl rfl) M.1.1 rfl rfl ⟨by decide, by decide⟩ rfl hl.1 rfl (Nat.le_of_ble_eq_true rfl) d_MenuScreensModel_addCondition_19 ⟨Nat.le_refl _, Nat.le_refl _⟩) (fun r5 hN H locs hp X => ?_)
      obtain ⟨x1, M1, rfl, er5⟩ := hp
      replace M := M.trans M1
      replace er5 : r5 = if (nF (A 6) e0 (nT (A 6) e0 i0)) < (nT (A 6) e0 (nT (A 6) e0 i0)) then 1 else 0 := er5
      refine lv_if_eq (tgt := 38) hx hb d_MenuScreensModel_addCondition_22 (by decide) (fun c6 => ?_) (fun c6 => ?_)
      · skip
        refine lv_iconst (v := 0) hx hb d_MenuScreensModel_addCondition_38 (by decide) ?_
        exact mq_iret hQ C X hr rfl hlk (⟨(upd (upd (upd x 7 (nI (nT (A 6) e0 (nT (A 6) e0 i0)))) 9 (nI (nF (A 6) e0 (nT (A 6) e0 i0)))) 10 (nI (nT (A 6) e0 (nT (A 6) e0 i0)))), y, A, B, M, (fun k q7 q9 q10 q39 => by simp [upd, q7, q9, q10, q39]), (fun k q11 => rfl), Or.inr ⟨by unfold okIf; rw [decide_eq_false (p := (nF (A 6) e0 (nT (A 6) e0 i0)) < (nT (A 6) e0 (nT (A 6) e0 i0))) (fun q => absurd ((er5.trans (if_pos q)).symm.trans c6) (by decide))]; simp, rfl, rfl, rfl, rfl⟩⟩) (Nat.le_refl _) (Nat.le_refl _) d_MenuScreensModel_addCondition_39
      · skip
        have a3 : (nF (A 6) e0 (nT (A 6) e0 i0)) < (nT (A 6) e0 (nT (A 6) e0 i0)) := by
          apply Classical.byContradiction
          intro q
          exact c6 (er5.trans (if_neg q))
        have ed : nI (nT (A 6) e0 (nT (A 6) e0 i0)) - nI (nF (A 6) e0 (nT (A 6) e0 i0)) = nI ((nT (A 6) e0 (nT (A 6) e0 i0)) - (nF (A 6) e0 (nT (A 6) e0 i0))) := nI_sub hT2.1
        refine lv_aload_n hx hb d_MenuScreensModel_addCondition_25 rfl (lv_at hl 1 rfl) ?_
        refine mm_get C X M 10 f_12_142_13 (.int (nI (nT (A 6) e0 (nT (A 6) e0 i0)))) rfl d_MenuScreensModel_addCondition_26 ?_
        refine lv_aload_n hx hb d_MenuScreensModel_addCondition_29 rfl (lv_at hl 1 rfl) ?_
        refine mm_get C X M 9 f_12_139_13 (.int (nI (nF (A 6) e0 (nT (A 6) e0 i0)))) rfl d_MenuScreensModel_addCondition_30 ?_
        refine lv_isub hx hb d_MenuScreensModel_addCondition_33 ?_
        refine lv_iconst (v := 1) hx hb d_MenuScreensModel_addCondition_34 (by decide) ?_
        refine lv_icmp_eq (tgt := 40) hx hb d_MenuScreensModel_addCondition_35 (by decide) (fun c7 => ?_) (fun c7 => ?_)
        · skip
          have a4 : (nT (A 6) e0 (nT (A 6) e0 i0)) - (nF (A 6) e0 (nT (A 6) e0 i0)) = 1 := nI_eqI (by omega) (by decide) (by rw [← ed]; exact c7)
          refine lv_aload_n hx hb d_MenuScreensModel_addCondition_40 rfl (lv_at hl 1 rfl) ?_
          refine mm_get C X M 6 f_12_13_13 (.ref (ar 6)) rfl d_MenuScreensModel_addCondition_41 ?_
          refine lv_aload_n hx hb d_MenuScreensModel_addCondition_44 rfl (lv_at hl 1 rfl) ?_
          refine mm_get C X M 9 f_12_139_13 (.int (nI (nF (A 6) e0 (nT (A 6) e0 i0)))) rfl d_MenuScreensModel_addCondition_45 ?_
          refine mm_iald C X M 6 4000 rfl (A 6) rfl (by decide) (nF (A 6) e0 (nT (A 6) e0 i0)) rfl (by omega) d_MenuScreensModel_addCondition_48 ?_
          refine lv_istore_n (lv' := [(2, .int ((A 6) (nF (A 6) e0 (nT (A 6) e0 i0)))), (1, .int r3), (0, .ref a)]) hx hb d_MenuScreensModel_addCondition_49 rfl hl (by decide) rfl (fun ls hl => ?_)
          have j70 : ∀ (ls : Array Slot), (A 6 (nF (A 6) e0 (nT (A 6) e0 i0)) = 61 ∨ A 6 (nF (A 6) e0 (nT (A 6) e0 i0)) = 60 ∨ A 6 (nF (A 6) e0 (nT (A 6) e0 i0)) = 62) → lv_has ls 3 [(0, .ref a), (1, .int r3), (2, .int (A 6 (nF (A 6) e0 (nT (A 6) e0 i0))))] → W p l e (vRm 3 100 0 0) s m args below meth c H locs 0 0 Q (F0 m 70 ls []) := by
            intro  ls a5 hl
            have a5b : (decide (A 6 (nF (A 6) e0 (nT (A 6) e0 i0)) = 61) || (decide (A 6 (nF (A 6) e0 (nT (A 6) e0 i0)) = 60) || decide (A 6 (nF (A 6) e0 (nT (A 6) e0 i0)) = 62))) = true := by
              rcases a5 with z | z | z
              · rw [decide_eq_true z]; rfl
              · rw [decide_eq_true z]; simp
              · rw [decide_eq_true z]; simp
            refine lv_aload_n hx hb d_MenuScreensModel_addCondition_70 rfl (lv_at hl 0 rfl) ?_
            refine lv_ldc2 (v := (-999999)) hx hb C.1.2.2.2.1 (C.1.2.2.2.2 _ (gt_6 16 (by decide +kernel) rfl)) d_MenuScreensModel_addCondition_71 ?_
            refine lv_ldc2 (v := 999999) hx hb C.1.2.2.2.1 (C.1.2.2.2.2 _ (gt_6 17 (by decide +kernel) rfl)) d_MenuScreensModel_addCondition_74 ?_
            refine mv_bi X (mv_rV (rest := []) (As := [.long (-999999), .long 999999]) gt_good C X k_12_199 (cm_MenuScreensModel_number hE M.1 _ _ (i0 := (nT (A 6) e0 (nT (A 6) e0 i0))) (e0 := e0) rfl hend hT2.2 he) M.1.1 rfl rfl ⟨by decide, by decide⟩ rfl hl.1 rfl (Nat.le_of_ble_eq_true rfl) d_MenuScreensModel_addCondition_77 ⟨Nat.le_refl _, Nat.le_refl _⟩) (fun r8 hN H locs hp X => ?_)
            obtain ⟨x1, yn9, M1, rfl, kyn9, vyn9, er8⟩ := hp
            replace M := M.trans M1
            replace er8 : r8 = bI (cNu (A 6) e0 (nT (A 6) e0 (nT (A 6) e0 i0)) (-999999) 999999) := er8
            replace vyn9 : r8 = 1 → yn9 11 = vNu (A 6) e0 (nT (A 6) e0 (nT (A 6) e0 i0)) := vyn9
            refine lv_if_eq (tgt := 90) hx hb d_MenuScreensModel_addCondition_80 (by decide) (fun c10 => ?_) (fun c10 => ?_)
            · skip
              refine lv_iconst (v := 0) hx hb d_MenuScreensModel_addCondition_90 (by decide) ?_
              exact mq_iret hQ C X hr rfl hlk (⟨(upd (upd (upd x 7 (nI (nT (A 6) e0 (nT (A 6) e0 (nT (A 6) e0 i0))))) 9 (nI (nF (A 6) e0 (nT (A 6) e0 (nT (A 6) e0 i0))))) 10 (nI (nT (A 6) e0 (nT (A 6) e0 (nT (A 6) e0 i0))))), yn9, A, B, M, (fun k q7 q9 q10 q39 => by simp [upd, q7, q9, q10, q39]), (fun k q11 => by rw [kyn9 k q11]), Or.inr ⟨by unfold okIf; rw [show cNu (A 6) e0 (nT (A 6) e0 (nT (A 6) e0 i0)) (-999999) 999999 = false from bI_0 (er8.symm.trans c10)]; simp, rfl, rfl, rfl, rfl⟩⟩) (Nat.le_refl _) (Nat.le_refl _) d_MenuScreensModel_addCondition_91
            · skip
              have a6 : cNu (A 6) e0 (nT (A 6) e0 (nT (A 6) e0 i0)) (-999999) 999999 = true := bI_n (fun z => c10 (er8.trans z))
              refine lv_aload_n hx hb d_MenuScreensModel_addCondition_83 rfl (lv_at hl 0 rfl) ?_
              refine mv_bi X (mv_rV (rest := []) (As := []) gt_good C X k_12_202 (cm_MenuScreensModel_through hE M.1 (i0 := (nT (A 6) e0 (nT (A 6) e0 (nT (A 6) e0 i0)))) (e0 := e0) rfl hend hT3.2 he) M.1.1 rfl rfl ⟨by decide, by decide⟩ rfl hl.1 rfl (Nat.le_of_ble_eq_true rfl) d_MenuScreensModel_addCondition_84 ⟨Nat.le_refl _, Nat.le_refl _⟩) (fun r11 hN H locs hp X => ?_)
              obtain ⟨x1, M1, rfl, er11⟩ := hp
              replace M := M.trans M1
              replace er11 : r11 = bI (cEnd (A 6) e0 (nT (A 6) e0 (nT (A 6) e0 (nT (A 6) e0 i0)))) := er11
              refine lv_if_ne (tgt := 92) hx hb d_MenuScreensModel_addCondition_87 (by decide) (fun c12 => ?_) (fun c12 => ?_)
              · skip
                have a7 : cEnd (A 6) e0 (nT (A 6) e0 (nT (A 6) e0 (nT (A 6) e0 i0))) = true := bI_n (fun z => c12 (er11.trans z))
                have ev := vyn9 (by rw [er8, a6]; rfl)
                have enc : x 39 + 1 = nI (nc + 1) := by rw [hnc]; exact nI_1 nc
                refine lv_aload_n hx hb d_MenuScreensModel_addCondition_92 rfl (lv_at hl 0 rfl) ?_
                refine mm_get C X M 40 f_12_90_13 (.ref (ar 40)) rfl d_MenuScreensModel_addCondition_93 ?_
                refine lv_aload_n hx hb d_MenuScreensModel_addCondition_96 rfl (lv_at hl 0 rfl) ?_
                refine mm_get C X M 39 f_12_227_13 (.int (x 39)) rfl d_MenuScreensModel_addCondition_97 ?_
                refine lv_aload_n hx hb d_MenuScreensModel_addCondition_100 rfl (lv_at hl 0 rfl) ?_
                refine mm_get C X M 20 f_12_169_13 (.int (x 20)) rfl d_MenuScreensModel_addCondition_101 ?_
                refine mm_iast C X M 40 512 rfl (A 40) rfl (fun _ => rfl) (by decide) nc hnc (by omega) d_MenuScreensModel_addCondition_104 (fun h H locs X M => ?_)
                refine lv_aload_n hx hb d_MenuScreensModel_addCondition_105 rfl (lv_at hl 0 rfl) ?_
                refine mm_get C X M 41 f_12_93_13 (.ref (ar 41)) rfl d_MenuScreensModel_addCondition_106 ?_
                refine lv_aload_n hx hb d_MenuScreensModel_addCondition_109 rfl (lv_at hl 0 rfl) ?_
                refine mm_get C X M 39 f_12_227_13 (.int (x 39)) rfl d_MenuScreensModel_addCondition_110 ?_
                refine lv_iconst (v := (-1)) hx hb d_MenuScreensModel_addCondition_113 (by decide) ?_
                refine mm_iast C X M 41 512 rfl (A 41) rfl (fun _ => rfl) (by decide) nc hnc (by omega) d_MenuScreensModel_addCondition_114 (fun h H locs X M => ?_)
                refine lv_aload_n hx hb d_MenuScreensModel_addCondition_115 rfl (lv_at hl 0 rfl) ?_
                refine mm_get C X M 42 f_12_96_13 (.ref (ar 42)) rfl d_MenuScreensModel_addCondition_116 ?_
                refine lv_aload_n hx hb d_MenuScreensModel_addCondition_119 rfl (lv_at hl 0 rfl) ?_
                refine mm_get C X M 39 f_12_227_13 (.int (x 39)) rfl d_MenuScreensModel_addCondition_120 ?_
                refine lv_iload_n hx hb d_MenuScreensModel_addCondition_123 rfl (lv_at hl 1 rfl) ?_
                refine mm_iast C X M 42 512 rfl (A 42) rfl (fun _ => rfl) (by decide) nc hnc (by omega) d_MenuScreensModel_addCondition_124 (fun h H locs X M => ?_)
                refine lv_aload_n hx hb d_MenuScreensModel_addCondition_125 rfl (lv_at hl 0 rfl) ?_
                refine mm_get C X M 43 f_12_99_13 (.ref (ar 43)) rfl d_MenuScreensModel_addCondition_126 ?_
                refine lv_aload_n hx hb d_MenuScreensModel_addCondition_129 rfl (lv_at hl 0 rfl) ?_
                refine mm_get C X M 39 f_12_227_13 (.int (x 39)) rfl d_MenuScreensModel_addCondition_130 ?_
                refine lv_iload_n hx hb d_MenuScreensModel_addCondition_133 rfl (lv_at hl 2 rfl) ?_
                refine mm_iast C X M 43 512 rfl (A 43) rfl (fun _ => rfl) (by decide) nc hnc (by omega) d_MenuScreensModel_addCondition_134 (fun h H locs X M => ?_)
                refine lv_aload_n hx hb d_MenuScreensModel_addCondition_135 rfl (lv_at hl 0 rfl) ?_
                refine mm_get C X M 44 f_12_102_13 (.ref (ar 44)) rfl d_MenuScreensModel_addCondition_136 ?_
                refine lv_aload_n hx hb d_MenuScreensModel_addCondition_139 rfl (lv_at hl 0 rfl) ?_
                refine mm_get C X M 39 f_12_227_13 (.int (x 39)) rfl d_MenuScreensModel_addCondition_140 ?_
                refine lv_aload_n hx hb d_MenuScreensModel_addCondition_143 rfl (lv_at hl 0 rfl) ?_
                refine mm_get C X M 11 f_12_152_13 (.long (yn9 11)) rfl d_MenuScreensModel_addCondition_144 ?_
                refine mm_last C X M 44 512 rfl (B 44) rfl (fun _ => rfl) (by decide) nc hnc (by omega) d_MenuScreensModel_addCondition_147 (fun h H locs X M => ?_)
                refine lv_aload_n hx hb d_MenuScreensModel_addCondition_148 rfl (lv_at hl 0 rfl) ?_
                refine lv_dup hx hb d_MenuScreensModel_addCondition_149 rfl ?_
                refine mm_get C X M 39 f_12_227_13 (.int (x 39)) rfl d_MenuScreensModel_addCondition_150 ?_
                refine lv_iconst (v := 1) hx hb d_MenuScreensModel_addCondition_153 (by decide) ?_
                refine lv_iadd hx hb d_MenuScreensModel_addCondition_154 ?_
                refine mm_put C X M 39 p_12_227_13 (upd (upd (upd (upd x 7 (nI (nT (A 6) e0 (nT (A 6) e0 (nT (A 6) e0 (nT (A 6) e0 i0)))))) 9 (nI (nF (A 6) e0 (nT (A 6) e0 (nT (A 6) e0 (nT (A 6) e0 i0)))))) 10 (nI (nT (A 6) e0 (nT (A 6) e0 (nT (A 6) e0 (nT (A 6) e0 i0)))))) 39 ((x 39) + 1)) yn9 rfl rfl rfl (by decide) d_MenuScreensModel_addCondition_155 (fun h H locs X M => ?_)
                refine lv_iconst (v := 1) hx hb d_MenuScreensModel_addCondition_158 (by decide) ?_
                exact mq_iret hQ C X hr rfl hlk (⟨(upd (upd (upd (upd x 7 (nI (nT (A 6) e0 (nT (A 6) e0 (nT (A 6) e0 (nT (A 6) e0 i0)))))) 9 (nI (nF (A 6) e0 (nT (A 6) e0 (nT (A 6) e0 (nT (A 6) e0 i0)))))) 10 (nI (nT (A 6) e0 (nT (A 6) e0 (nT (A 6) e0 (nT (A 6) e0 i0)))))) 39 ((x 39) + 1)), yn9, (va_up (va_up (va_up (va_up A 40 (upd (A 40) nc (x 20))) 41 (upd (A 41) nc (-1))) 42 (upd (A 42) nc r3)) 43 (upd (A 43) nc (A 6 (nF (A 6) e0 (nT (A 6) e0 i0))))), (va_up B 44 (vp_updL (B 44) nc (yn9 11))), M, (fun k q7 q9 q10 q39 => by simp [upd, q7, q9, q10, q39]), (fun k q11 => by rw [kyn9 k q11]), Or.inl ⟨by unfold okIf; rw [a1, decide_eq_true a2, decide_eq_true a3, decide_eq_true a4, a5b, a6, a7]; rfl, rfl, enc, by rw [← er3], by rw [ev]⟩⟩) (Nat.le_refl _) (Nat.le_refl _) d_MenuScreensModel_addCondition_159
              · skip
                refine lv_iconst (v := 0) hx hb d_MenuScreensModel_addCondition_90 (by decide) ?_
                exact mq_iret hQ C X hr rfl hlk (⟨(upd (upd (upd x 7 (nI (nT (A 6) e0 (nT (A 6) e0 (nT (A 6) e0 (nT (A 6) e0 i0)))))) 9 (nI (nF (A 6) e0 (nT (A 6) e0 (nT (A 6) e0 (nT (A 6) e0 i0)))))) 10 (nI (nT (A 6) e0 (nT (A 6) e0 (nT (A 6) e0 (nT (A 6) e0 i0)))))), yn9, A, B, M, (fun k q7 q9 q10 q39 => by simp [upd, q7, q9, q10, q39]), (fun k q11 => by rw [kyn9 k q11]), Or.inr ⟨by unfold okIf; rw [show cEnd (A 6) e0 (nT (A 6) e0 (nT (A 6) e0 (nT (A 6) e0 i0))) = false from bI_0 (er11.symm.trans c12)]; simp, rfl, rfl, rfl, rfl⟩⟩) (Nat.le_refl _) (Nat.le_refl _) d_MenuScreensModel_addCondition_91
          refine lv_iload_n hx hb d_MenuScreensModel_addCondition_50 rfl (lv_at hl 0 rfl) ?_
          refine lv_bipush (v := 61) hx hb d_MenuScreensModel_addCondition_51 (by decide) ?_
          refine lv_icmp_eq (tgt := 70) hx hb d_MenuScreensModel_addCondition_53 (by decide) (fun c13 => ?_) (fun c13 => ?_)
          · skip
            exact j70 ls (Or.inl c13) (lv_sub hl [2, 1, 0] rfl)
          · skip
            refine lv_iload_n hx hb d_MenuScreensModel_addCondition_56 rfl (lv_at hl 0 rfl) ?_
            refine lv_bipush (v := 60) hx hb d_MenuScreensModel_addCondition_57 (by decide) ?_
            refine lv_icmp_eq (tgt := 70) hx hb d_MenuScreensModel_addCondition_59 (by decide) (fun c14 => ?_) (fun c14 => ?_)
            · skip
              exact j70 ls (Or.inr (Or.inl c14)) (lv_sub hl [2, 1, 0] rfl)
            · skip
              refine lv_iload_n hx hb d_MenuScreensModel_addCondition_62 rfl (lv_at hl 0 rfl) ?_
              refine lv_bipush (v := 62) hx hb d_MenuScreensModel_addCondition_63 (by decide) ?_
              refine lv_icmp_eq (tgt := 70) hx hb d_MenuScreensModel_addCondition_65 (by decide) (fun c15 => ?_) (fun c15 => ?_)
              · skip
                exact j70 ls (Or.inr (Or.inr c15)) (lv_sub hl [2, 1, 0] rfl)
              · skip
                refine lv_iconst (v := 0) hx hb d_MenuScreensModel_addCondition_68 (by decide) ?_
                exact mq_iret hQ C X hr rfl hlk (⟨(upd (upd (upd x 7 (nI (nT (A 6) e0 (nT (A 6) e0 i0)))) 9 (nI (nF (A 6) e0 (nT (A 6) e0 i0)))) 10 (nI (nT (A 6) e0 (nT (A 6) e0 i0)))), y, A, B, M, (fun k q7 q9 q10 q39 => by simp [upd, q7, q9, q10, q39]), (fun k q11 => rfl), Or.inr ⟨by unfold okIf; rw [decide_eq_false (p := A 6 (nF (A 6) e0 (nT (A 6) e0 i0)) = 61) c13, decide_eq_false (p := A 6 (nF (A 6) e0 (nT (A 6) e0 i0)) = 60) c14, decide_eq_false (p := A 6 (nF (A 6) e0 (nT (A 6) e0 i0)) = 62) c15]; simp, rfl, rfl, rfl, rfl⟩⟩) (Nat.le_refl _) (Nat.le_refl _) d_MenuScreensModel_addCondition_69
        · skip
          refine lv_iconst (v := 0) hx hb d_MenuScreensModel_addCondition_38 (by decide) ?_
          exact mq_iret hQ C X hr rfl hlk (⟨(upd (upd (upd x 7 (nI (nT (A 6) e0 (nT (A 6) e0 i0)))) 9 (nI (nF (A 6) e0 (nT (A 6) e0 i0)))) 10 (nI (nT (A 6) e0 (nT (A 6) e0 i0)))), y, A, B, M, (fun k q7 q9 q10 q39 => by simp [upd, q7, q9, q10, q39]), (fun k q11 => rfl), Or.inr ⟨by unfold okIf; rw [decide_eq_false (p := (nT (A 6) e0 (nT (A 6) e0 i0)) - (nF (A 6) e0 (nT (A 6) e0 i0)) = 1) (fun z => c7 (by rw [ed, z]; rfl))]; simp, rfl, rfl, rfl, rfl⟩⟩) (Nat.le_refl _) (Nat.le_refl _) d_MenuScreensModel_addCondition_39
  · skip
    refine lv_iconst (v := 0) hx hb d_MenuScreensModel_addCondition_7 (by decide) ?_
    exact mq_iret hQ C X hr rfl hlk (⟨(upd (upd (upd x 7 (nI (nT (A 6) e0 i0))) 9 (nI (nF (A 6) e0 i0))) 10 (nI (nT (A 6) e0 i0))), y, A, B, M, (fun k q7 q9 q10 q39 => by simp [upd, q7, q9, q10, q39]), (fun k q11 => rfl), Or.inr ⟨by unfold okIf; rw [show cNm (A 6) e0 i0 = false from bI_0 (er1.symm.trans c2)]; rfl, rfl, rfl, rfl, rfl⟩⟩) (Nat.le_refl _) (Nat.le_refl _) d_MenuScreensModel_addCondition_8
