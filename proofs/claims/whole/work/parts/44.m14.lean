theorem d_MenuScreensModel_addScreen_0 : decode prog_13_method_16_code 0 = .ok (.aload_n 0, 1) := by decide +kernel
theorem d_MenuScreensModel_addScreen_1 : decode prog_13_method_16_code 1 = .ok (.invokevirtual 205, 3) := by decide +kernel
theorem d_MenuScreensModel_addScreen_4 : decode prog_13_method_16_code 4 = .ok (.ifCond .eq 27, 3) := by decide +kernel
theorem d_MenuScreensModel_addScreen_7 : decode prog_13_method_16_code 7 = .ok (.aload_n 0, 1) := by decide +kernel
theorem d_MenuScreensModel_addScreen_8 : decode prog_13_method_16_code 8 = .ok (.aload_n 0, 1) := by decide +kernel
theorem d_MenuScreensModel_addScreen_9 : decode prog_13_method_16_code 9 = .ok (.getfield 139, 3) := by decide +kernel
theorem d_MenuScreensModel_addScreen_12 : decode prog_13_method_16_code 12 = .ok (.aload_n 0, 1) := by decide +kernel
theorem d_MenuScreensModel_addScreen_13 : decode prog_13_method_16_code 13 = .ok (.getfield 142, 3) := by decide +kernel
theorem d_MenuScreensModel_addScreen_16 : decode prog_13_method_16_code 16 = .ok (.invokevirtual 216, 3) := by decide +kernel
theorem d_MenuScreensModel_addScreen_19 : decode prog_13_method_16_code 19 = .ok (.ifCond .gt 12, 3) := by decide +kernel
theorem d_MenuScreensModel_addScreen_22 : decode prog_13_method_16_code 22 = .ok (.aload_n 0, 1) := by decide +kernel
theorem d_MenuScreensModel_addScreen_23 : decode prog_13_method_16_code 23 = .ok (.getfield 169, 3) := by decide +kernel
theorem d_MenuScreensModel_addScreen_26 : decode prog_13_method_16_code 26 = .ok (.bipush 30, 2) := by decide +kernel
theorem d_MenuScreensModel_addScreen_28 : decode prog_13_method_16_code 28 = .ok (.if_icmp .ne 5, 3) := by decide +kernel
theorem d_MenuScreensModel_addScreen_31 : decode prog_13_method_16_code 31 = .ok (.iconst 0, 1) := by decide +kernel
theorem d_MenuScreensModel_addScreen_32 : decode prog_13_method_16_code 32 = .ok (.ireturn, 1) := by decide +kernel
theorem d_MenuScreensModel_addScreen_33 : decode prog_13_method_16_code 33 = .ok (.aload_n 0, 1) := by decide +kernel
theorem d_MenuScreensModel_addScreen_34 : decode prog_13_method_16_code 34 = .ok (.getfield 139, 3) := by decide +kernel
theorem d_MenuScreensModel_addScreen_37 : decode prog_13_method_16_code 37 = .ok (.istore_n 2, 1) := by decide +kernel
theorem d_MenuScreensModel_addScreen_38 : decode prog_13_method_16_code 38 = .ok (.aload_n 0, 1) := by decide +kernel
theorem d_MenuScreensModel_addScreen_39 : decode prog_13_method_16_code 39 = .ok (.getfield 142, 3) := by decide +kernel
theorem d_MenuScreensModel_addScreen_42 : decode prog_13_method_16_code 42 = .ok (.istore_n 3, 1) := by decide +kernel
theorem d_MenuScreensModel_addScreen_43 : decode prog_13_method_16_code 43 = .ok (.aload_n 0, 1) := by decide +kernel
theorem d_MenuScreensModel_addScreen_44 : decode prog_13_method_16_code 44 = .ok (.invokevirtual 202, 3) := by decide +kernel
theorem d_MenuScreensModel_addScreen_47 : decode prog_13_method_16_code 47 = .ok (.ifCond .ne 5, 3) := by decide +kernel
theorem d_MenuScreensModel_addScreen_50 : decode prog_13_method_16_code 50 = .ok (.iconst 0, 1) := by decide +kernel
theorem d_MenuScreensModel_addScreen_51 : decode prog_13_method_16_code 51 = .ok (.ireturn, 1) := by decide +kernel
theorem d_MenuScreensModel_addScreen_52 : decode prog_13_method_16_code 52 = .ok (.aload_n 0, 1) := by decide +kernel
theorem d_MenuScreensModel_addScreen_53 : decode prog_13_method_16_code 53 = .ok (.dup, 1) := by decide +kernel
theorem d_MenuScreensModel_addScreen_54 : decode prog_13_method_16_code 54 = .ok (.getfield 169, 3) := by decide +kernel
theorem d_MenuScreensModel_addScreen_57 : decode prog_13_method_16_code 57 = .ok (.iconst 1, 1) := by decide +kernel
theorem d_MenuScreensModel_addScreen_58 : decode prog_13_method_16_code 58 = .ok (.iadd, 1) := by decide +kernel
theorem d_MenuScreensModel_addScreen_59 : decode prog_13_method_16_code 59 = .ok (.putfield 169, 3) := by decide +kernel
theorem d_MenuScreensModel_addScreen_62 : decode prog_13_method_16_code 62 = .ok (.aload_n 0, 1) := by decide +kernel
theorem d_MenuScreensModel_addScreen_63 : decode prog_13_method_16_code 63 = .ok (.getfield 39, 3) := by decide +kernel
theorem d_MenuScreensModel_addScreen_66 : decode prog_13_method_16_code 66 = .ok (.aload_n 0, 1) := by decide +kernel
theorem d_MenuScreensModel_addScreen_67 : decode prog_13_method_16_code 67 = .ok (.getfield 169, 3) := by decide +kernel
theorem d_MenuScreensModel_addScreen_70 : decode prog_13_method_16_code 70 = .ok (.iload_n 2, 1) := by decide +kernel
theorem d_MenuScreensModel_addScreen_71 : decode prog_13_method_16_code 71 = .ok (.iastore, 1) := by decide +kernel
theorem d_MenuScreensModel_addScreen_72 : decode prog_13_method_16_code 72 = .ok (.aload_n 0, 1) := by decide +kernel
theorem d_MenuScreensModel_addScreen_73 : decode prog_13_method_16_code 73 = .ok (.getfield 42, 3) := by decide +kernel
theorem d_MenuScreensModel_addScreen_76 : decode prog_13_method_16_code 76 = .ok (.aload_n 0, 1) := by decide +kernel
theorem d_MenuScreensModel_addScreen_77 : decode prog_13_method_16_code 77 = .ok (.getfield 169, 3) := by decide +kernel
theorem d_MenuScreensModel_addScreen_80 : decode prog_13_method_16_code 80 = .ok (.iload_n 3, 1) := by decide +kernel
theorem d_MenuScreensModel_addScreen_81 : decode prog_13_method_16_code 81 = .ok (.iastore, 1) := by decide +kernel
theorem d_MenuScreensModel_addScreen_82 : decode prog_13_method_16_code 82 = .ok (.aload_n 0, 1) := by decide +kernel
theorem d_MenuScreensModel_addScreen_83 : decode prog_13_method_16_code 83 = .ok (.getfield 45, 3) := by decide +kernel
theorem d_MenuScreensModel_addScreen_86 : decode prog_13_method_16_code 86 = .ok (.aload_n 0, 1) := by decide +kernel
theorem d_MenuScreensModel_addScreen_87 : decode prog_13_method_16_code 87 = .ok (.getfield 169, 3) := by decide +kernel
theorem d_MenuScreensModel_addScreen_90 : decode prog_13_method_16_code 90 = .ok (.iload_n 1, 1) := by decide +kernel
theorem d_MenuScreensModel_addScreen_91 : decode prog_13_method_16_code 91 = .ok (.iastore, 1) := by decide +kernel
theorem d_MenuScreensModel_addScreen_92 : decode prog_13_method_16_code 92 = .ok (.aload_n 0, 1) := by decide +kernel
theorem d_MenuScreensModel_addScreen_93 : decode prog_13_method_16_code 93 = .ok (.getfield 48, 3) := by decide +kernel
theorem d_MenuScreensModel_addScreen_96 : decode prog_13_method_16_code 96 = .ok (.aload_n 0, 1) := by decide +kernel
theorem d_MenuScreensModel_addScreen_97 : decode prog_13_method_16_code 97 = .ok (.getfield 169, 3) := by decide +kernel
theorem d_MenuScreensModel_addScreen_100 : decode prog_13_method_16_code 100 = .ok (.ldc2_w 220, 3) := by decide +kernel
theorem d_MenuScreensModel_addScreen_103 : decode prog_13_method_16_code 103 = .ok (.lastore, 1) := by decide +kernel
theorem d_MenuScreensModel_addScreen_104 : decode prog_13_method_16_code 104 = .ok (.iconst 0, 1) := by decide +kernel
theorem d_MenuScreensModel_addScreen_105 : decode prog_13_method_16_code 105 = .ok (.istore 4, 2) := by decide +kernel
theorem d_MenuScreensModel_addScreen_107 : decode prog_13_method_16_code 107 = .ok (.iload 4, 2) := by decide +kernel
theorem d_MenuScreensModel_addScreen_109 : decode prog_13_method_16_code 109 = .ok (.bipush 10, 2) := by decide +kernel
theorem d_MenuScreensModel_addScreen_111 : decode prog_13_method_16_code 111 = .ok (.if_icmp .ge 25, 3) := by decide +kernel
theorem d_MenuScreensModel_addScreen_114 : decode prog_13_method_16_code 114 = .ok (.aload_n 0, 1) := by decide +kernel
theorem d_MenuScreensModel_addScreen_115 : decode prog_13_method_16_code 115 = .ok (.getfield 57, 3) := by decide +kernel
theorem d_MenuScreensModel_addScreen_118 : decode prog_13_method_16_code 118 = .ok (.bipush 10, 2) := by decide +kernel
theorem d_MenuScreensModel_addScreen_120 : decode prog_13_method_16_code 120 = .ok (.aload_n 0, 1) := by decide +kernel
theorem d_MenuScreensModel_addScreen_121 : decode prog_13_method_16_code 121 = .ok (.getfield 169, 3) := by decide +kernel
theorem d_MenuScreensModel_addScreen_124 : decode prog_13_method_16_code 124 = .ok (.imul, 1) := by decide +kernel
theorem d_MenuScreensModel_addScreen_125 : decode prog_13_method_16_code 125 = .ok (.iload 4, 2) := by decide +kernel
theorem d_MenuScreensModel_addScreen_127 : decode prog_13_method_16_code 127 = .ok (.iadd, 1) := by decide +kernel
theorem d_MenuScreensModel_addScreen_128 : decode prog_13_method_16_code 128 = .ok (.iconst 0, 1) := by decide +kernel
theorem d_MenuScreensModel_addScreen_129 : decode prog_13_method_16_code 129 = .ok (.iastore, 1) := by decide +kernel
theorem d_MenuScreensModel_addScreen_130 : decode prog_13_method_16_code 130 = .ok (.iinc 4 1, 3) := by decide +kernel
theorem d_MenuScreensModel_addScreen_133 : decode prog_13_method_16_code 133 = .ok (.goto (-26), 3) := by decide +kernel
theorem d_MenuScreensModel_addScreen_136 : decode prog_13_method_16_code 136 = .ok (.iconst 1, 1) := by decide +kernel
theorem d_MenuScreensModel_addScreen_137 : decode prog_13_method_16_code 137 = .ok (.ireturn, 1) := by decide +kernel
set_option maxRecDepth 100000 in
set_option maxHeartbeats 4000000 in
theorem cm_MenuScreensModel_addScreen {l : Launch} {S0 : State} {b : Nat} {D : va_G} {dT : Nat → ClassId} (hE : vEnv S0 b D dT) {h0 : vH} {a : Nat} {ar : Nat → Nat} {x : Nat → Int32} {y : Nat → Int64} {A : Nat → Nat → Int32} {B : Nat → Nat → Int64} (M : MV S0 dT h0 a ar x y A B) (p1 : Int32) {i0 e0 : Nat} (hat : x 7 = nI i0) (hend : x 8 = nI e0) (hle : i0 ≤ e0) (he : e0 ≤ 4000) {ns : Nat} (hns : x 20 = nI ns) (hns2 : ns ≤ 30) (hR : ∀ v, 1 ≤ v → v ≤ ns → ∃ p q, A 21 v = nI p ∧ A 22 v = nI q ∧ p ≤ q ∧ q ≤ 4000) : vMi l S0 D vcl GT y_MenuScreensModel_addScreen prog_13_method_16_code 5 (some .boolean) 3 100 0 0 [.ref a, .int p1] h0 (fun r h' => ∃ x' A' B', MR S0 dT h0 h' a ar x' y A' B' ∧ (∀ k, k ≠ 7 → k ≠ 9 → k ≠ 10 → k ≠ 20 → x' k = x k) ∧ (okSc A e0 i0 ns = true ∧ r = 1 ∧ x' 20 = nI (ns + 1) ∧ A' = va_up (va_up (va_up (va_up A 21 (upd (A 21) (ns + 1) (nI (nF (A 6) e0 i0)))) 22 (upd (A 22) (ns + 1) (nI (nT (A 6) e0 i0)))) 23 (upd (A 23) (ns + 1) p1)) 27 (kz (A 27) (10 * (ns + 1)) 10) ∧ B' = va_up B 24 (vp_updL (B 24) (ns + 1) 1000) ∨ okSc A e0 i0 ns = false ∧ r = 0 ∧ x' 20 = x 20 ∧ A' = A ∧ B' = B)) := by
  unfold vMi
  refine vM_ofQ hE.1 (by decide) (Nat.le_of_ble_eq_true rfl) (fun p e s m args below meth c ls Q hQ C hr hlk hnm X hl => ?_)
  have C : vC p s m _ c _ _ "MenuScreensModel" GT D vcl (vty dT) := C
  have hx := C.1.1
  have hb := C.1.2.1
  replace M := MR.of M
  obtain ⟨H, eH⟩ : ∃ z, z = s.heap := ⟨_, rfl⟩
  obtain ⟨locs, elocs⟩ : ∃ z : List Loc, z = [] := ⟨_, rfl⟩
  rw [← eH, ← elocs] at X
  rw [← eH, ← elocs]
  clear eH elocs
  have hl : lv_has ls 5 [(0, .ref a), (1, .int p1)] := hl
  refine lv_aload_n hx hb d_MenuScreensModel_addScreen_0 rfl (lv_at hl 0 rfl) ?_
  refine mv_bi X (mv_rV (rest := []) (As := []) gt_good C X k_12_205 (cm_MenuScreensModel_name hE M.1 (i0 := i0) (e0 := e0) hat hend hle he) M.1.1 rfl rfl ⟨by decide, by decide⟩ rfl hl.1 rfl (Nat.le_of_ble_eq_true rfl) d_MenuScreensModel_addScreen_1 ⟨Nat.le_refl _, Nat.le_refl _⟩) (fun r1 hN H locs hp X => ?_)
  obtain ⟨x1, M1, rfl, er1⟩ := hp
  replace M := M.trans M1
  replace er1 : r1 = bI (cNm (A 6) e0 i0) := er1
  have hT1 := (nT_in (A 6) hle)
  refine lv_if_eq (tgt := 31) hx hb d_MenuScreensModel_addScreen_4 (by decide) (fun c2 => ?_) (fun c2 => ?_)
  · skip
    refine lv_iconst (v := 0) hx hb d_MenuScreensModel_addScreen_31 (by decide) ?_
    exact mq_iret hQ C X hr rfl hlk (⟨(upd (upd (upd x 7 (nI (nT (A 6) e0 i0))) 9 (nI (nF (A 6) e0 i0))) 10 (nI (nT (A 6) e0 i0))), A, B, M, (fun k q7 q9 q10 q20 => by simp [upd, q7, q9, q10, q20]), Or.inr ⟨by unfold okSc; rw [show cNm (A 6) e0 i0 = false from bI_0 (er1.symm.trans c2)]; rfl, rfl, rfl, rfl, rfl⟩⟩) (Nat.le_refl _) (Nat.le_refl _) d_MenuScreensModel_addScreen_32
  · skip
    refine lv_aload_n hx hb d_MenuScreensModel_addScreen_7 rfl (lv_at hl 0 rfl) ?_
    refine lv_aload_n hx hb d_MenuScreensModel_addScreen_8 rfl (lv_at hl 0 rfl) ?_
    refine mm_get C X M 9 f_12_139_13 (.int (nI (nF (A 6) e0 i0))) rfl d_MenuScreensModel_addScreen_9 ?_
    refine lv_aload_n hx hb d_MenuScreensModel_addScreen_12 rfl (lv_at hl 0 rfl) ?_
    refine mm_get C X M 10 f_12_142_13 (.int (nI (nT (A 6) e0 i0))) rfl d_MenuScreensModel_addScreen_13 ?_
    have a1 : cNm (A 6) e0 i0 = true := bI_n (fun z => c2 (er1.trans z))
    refine mv_bi X (mv_rV (rest := []) (As := [.int (nI (nF (A 6) e0 i0)), .int (nI (nT (A 6) e0 i0))]) gt_good C X k_12_216 (cm_MenuScreensModel_findScreen hE M.1 _ _ (n := ns) hns hns2 hR (F := (nF (A 6) e0 i0)) (T := (nT (A 6) e0 i0)) rfl rfl hT1.1 (by omega)) M.1.1 rfl rfl ⟨by decide, by decide⟩ rfl hl.1 rfl (Nat.le_of_ble_eq_true rfl) d_MenuScreensModel_addScreen_16 ⟨Nat.le_refl _, Nat.le_refl _⟩) (fun r3 hN H locs hp X => ?_)
    obtain ⟨ehr3, er3⟩ := hp
    rw [ehr3] at X
    replace er3 : r3 = nI (fS A ns (nF (A 6) e0 i0) (nT (A 6) e0 i0)) := er3
    have hfs : fS A ns (nF (A 6) e0 i0) (nT (A 6) e0 i0) ≤ 1 + ns := fnd_le _ _ _
    refine lv_if_gt (tgt := 31) hx hb d_MenuScreensModel_addScreen_19 (by decide) (fun c4 => ?_) (fun c4 => ?_)
    · skip
      refine lv_iconst (v := 0) hx hb d_MenuScreensModel_addScreen_31 (by decide) ?_
      exact mq_iret hQ C X hr rfl hlk (⟨(upd (upd (upd x 7 (nI (nT (A 6) e0 i0))) 9 (nI (nF (A 6) e0 i0))) 10 (nI (nT (A 6) e0 i0))), A, B, M, (fun k q7 q9 q10 q20 => by simp [upd, q7, q9, q10, q20]), Or.inr ⟨by unfold okSc; rw [decide_eq_false (p := fS A ns (nF (A 6) e0 i0) (nT (A 6) e0 i0) = 0) (fun z => by have := c4; rw [er3, z] at this; exact absurd this (by decide))]; simp, rfl, rfl, rfl, rfl⟩⟩) (Nat.le_refl _) (Nat.le_refl _) d_MenuScreensModel_addScreen_32
    · skip
      have a2 : fS A ns (nF (A 6) e0 i0) (nT (A 6) e0 i0) = 0 := by
        rcases Nat.eq_zero_or_pos (fS A ns (nF (A 6) e0 i0) (nT (A 6) e0 i0)) with q | q
        · exact q
        · exact absurd (by rw [er3]; exact nI_lt (a := 0) q (by omega)) c4
      refine lv_aload_n hx hb d_MenuScreensModel_addScreen_22 rfl (lv_at hl 0 rfl) ?_
      refine mm_get C X M 20 f_12_169_13 (.int (x 20)) rfl d_MenuScreensModel_addScreen_23 ?_
      refine lv_bipush (v := 30) hx hb d_MenuScreensModel_addScreen_26 (by decide) ?_
      refine lv_icmp_ne (tgt := 33) hx hb d_MenuScreensModel_addScreen_28 (by decide) (fun c5 => ?_) (fun c5 => ?_)
      · skip
        have a3 : ns ≠ 30 := fun z => c5 (by rw [hns, z]; rfl)
        refine lv_aload_n hx hb d_MenuScreensModel_addScreen_33 rfl (lv_at hl 0 rfl) ?_
        refine mm_get C X M 9 f_12_139_13 (.int (nI (nF (A 6) e0 i0))) rfl d_MenuScreensModel_addScreen_34 ?_
        refine lv_istore_n (lv' := [(2, .int (nI (nF (A 6) e0 i0))), (0, .ref a), (1, .int p1)]) hx hb d_MenuScreensModel_addScreen_37 rfl hl (by decide) rfl (fun ls hl => ?_)
        refine lv_aload_n hx hb d_MenuScreensModel_addScreen_38 rfl (lv_at hl 1 rfl) ?_
        refine mm_get C X M 10 f_12_142_13 (.int (nI (nT (A 6) e0 i0))) rfl d_MenuScreensModel_addScreen_39 ?_
        refine lv_istore_n (lv' := [(3, .int (nI (nT (A 6) e0 i0))), (2, .int (nI (nF (A 6) e0 i0))), (0, .ref a), (1, .int p1)]) hx hb d_MenuScreensModel_addScreen_42 rfl hl (by decide) rfl (fun ls hl => ?_)
        refine lv_aload_n hx hb d_MenuScreensModel_addScreen_43 rfl (lv_at hl 2 rfl) ?_
        refine mv_bi X (mv_rV (rest := []) (As := []) gt_good C X k_12_202 (cm_MenuScreensModel_through hE M.1 (i0 := (nT (A 6) e0 i0)) (e0 := e0) rfl hend hT1.2 he) M.1.1 rfl rfl ⟨by decide, by decide⟩ rfl hl.1 rfl (Nat.le_of_ble_eq_true rfl) d_MenuScreensModel_addScreen_44 ⟨Nat.le_refl _, Nat.le_refl _⟩) (fun r6 hN H locs hp X => ?_)
        obtain ⟨x1, M1, rfl, er6⟩ := hp
        replace M := M.trans M1
        replace er6 : r6 = bI (cEnd (A 6) e0 (nT (A 6) e0 i0)) := er6
        refine lv_if_ne (tgt := 52) hx hb d_MenuScreensModel_addScreen_47 (by decide) (fun c7 => ?_) (fun c7 => ?_)
        · skip
          have a4 : cEnd (A 6) e0 (nT (A 6) e0 i0) = true := bI_n (fun z => c7 (er6.trans z))
          have e20 : x 20 + 1 = nI (ns + 1) := by rw [hns]; exact nI_1 ns
          refine lv_aload_n hx hb d_MenuScreensModel_addScreen_52 rfl (lv_at hl 2 rfl) ?_
          refine lv_dup hx hb d_MenuScreensModel_addScreen_53 rfl ?_
          refine mm_get C X M 20 f_12_169_13 (.int (x 20)) rfl d_MenuScreensModel_addScreen_54 ?_
          refine lv_iconst (v := 1) hx hb d_MenuScreensModel_addScreen_57 (by decide) ?_
          refine lv_iadd hx hb d_MenuScreensModel_addScreen_58 ?_
          refine mm_put C X M 20 p_12_169_13 (upd (upd (upd (upd x 7 (nI (nT (A 6) e0 (nT (A 6) e0 i0)))) 9 (nI (nF (A 6) e0 (nT (A 6) e0 i0)))) 10 (nI (nT (A 6) e0 (nT (A 6) e0 i0)))) 20 ((x 20) + 1)) y rfl rfl rfl (by decide) d_MenuScreensModel_addScreen_59 (fun h H locs X M => ?_)
          refine lv_aload_n hx hb d_MenuScreensModel_addScreen_62 rfl (lv_at hl 2 rfl) ?_
          refine mm_get C X M 21 f_12_39_13 (.ref (ar 21)) rfl d_MenuScreensModel_addScreen_63 ?_
          refine lv_aload_n hx hb d_MenuScreensModel_addScreen_66 rfl (lv_at hl 2 rfl) ?_
          refine mm_get C X M 20 f_12_169_13 (.int ((x 20) + 1)) rfl d_MenuScreensModel_addScreen_67 ?_
          refine lv_iload_n hx hb d_MenuScreensModel_addScreen_70 rfl (lv_at hl 1 rfl) ?_
          refine mm_iast C X M 21 31 rfl (A 21) rfl (fun _ => rfl) (by decide) (ns + 1) e20 (by omega) d_MenuScreensModel_addScreen_71 (fun h H locs X M => ?_)
          refine lv_aload_n hx hb d_MenuScreensModel_addScreen_72 rfl (lv_at hl 2 rfl) ?_
          refine mm_get C X M 22 f_12_42_13 (.ref (ar 22)) rfl d_MenuScreensModel_addScreen_73 ?_
          refine lv_aload_n hx hb d_MenuScreensModel_addScreen_76 rfl (lv_at hl 2 rfl) ?_
          refine mm_get C X M 20 f_12_169_13 (.int ((x 20) + 1)) rfl d_MenuScreensModel_addScreen_77 ?_
          refine lv_iload_n hx hb d_MenuScreensModel_addScreen_80 rfl (lv_at hl 0 rfl) ?_
          refine mm_iast C X M 22 31 rfl (A 22) rfl (fun _ => rfl) (by decide) (ns + 1) e20 (by omega) d_MenuScreensModel_addScreen_81 (fun h H locs X M => ?_)
          refine lv_aload_n hx hb d_MenuScreensModel_addScreen_82 rfl (lv_at hl 2 rfl) ?_
          refine mm_get C X M 23 f_12_45_13 (.ref (ar 23)) rfl d_MenuScreensModel_addScreen_83 ?_
          refine lv_aload_n hx hb d_MenuScreensModel_addScreen_86 rfl (lv_at hl 2 rfl) ?_
          refine mm_get C X M 20 f_12_169_13 (.int ((x 20) + 1)) rfl d_MenuScreensModel_addScreen_87 ?_
          refine lv_iload_n hx hb d_MenuScreensModel_addScreen_90 rfl (lv_at hl 3 rfl) ?_
          refine mm_iast C X M 23 31 rfl (A 23) rfl (fun _ => rfl) (by decide) (ns + 1) e20 (by omega) d_MenuScreensModel_addScreen_91 (fun h H locs X M => ?_)
          refine lv_aload_n hx hb d_MenuScreensModel_addScreen_92 rfl (lv_at hl 2 rfl) ?_
          refine mm_get C X M 24 f_12_48_13 (.ref (ar 24)) rfl d_MenuScreensModel_addScreen_93 ?_
          refine lv_aload_n hx hb d_MenuScreensModel_addScreen_96 rfl (lv_at hl 2 rfl) ?_
          refine mm_get C X M 20 f_12_169_13 (.int ((x 20) + 1)) rfl d_MenuScreensModel_addScreen_97 ?_
          refine lv_ldc2 (v := 1000) hx hb C.1.2.2.2.1 (C.1.2.2.2.2 _ (gt_6 36 (by decide +kernel) rfl)) d_MenuScreensModel_addScreen_100 ?_
          refine mm_last C X M 24 31 rfl (B 24) rfl (fun _ => rfl) (by decide) (ns + 1) e20 (by omega) d_MenuScreensModel_addScreen_103 (fun h H locs X M => ?_)
          refine lv_iconst (v := 0) hx hb d_MenuScreensModel_addScreen_104 (by decide) ?_
          refine lv_istore (lv' := [(4, .int 0), (3, .int (nI (nT (A 6) e0 i0))), (2, .int (nI (nF (A 6) e0 i0))), (0, .ref a), (1, .int p1)]) hx hb d_MenuScreensModel_addScreen_105 hl (by decide) rfl (fun ls hl => ?_)
          rw [← va_up_id (va_up (va_up (va_up A 21 (upd (A 21) (ns + 1) (nI (nF (A 6) e0 i0)))) 22 (upd (A 22) (ns + 1) (nI (nT (A 6) e0 i0)))) 23 (upd (A 23) (ns + 1) p1)) 27] at M
          have lp : ∀ (n_lp : Nat) (k : Nat) (i : Int32) (ls : Array Slot) (h : vH) (H : Heap) (locs : List Loc), (i = nI k) → (k ≤ 10) → (10 - k) < n_lp → vO S0 D vcl h s H locs → MR S0 dT h0 h a ar (upd (upd (upd (upd x 7 (nI (nT (A 6) e0 (nT (A 6) e0 i0)))) 9 (nI (nF (A 6) e0 (nT (A 6) e0 i0)))) 10 (nI (nT (A 6) e0 (nT (A 6) e0 i0)))) 20 ((x 20) + 1)) y (va_up (va_up (va_up (va_up A 21 (upd (A 21) (ns + 1) (nI (nF (A 6) e0 i0)))) 22 (upd (A 22) (ns + 1) (nI (nT (A 6) e0 i0)))) 23 (upd (A 23) (ns + 1) p1)) 27 (kz (A 27) (10 * (ns + 1)) k)) (va_up B 24 (vp_updL (B 24) (ns + 1) 1000)) → lv_has ls 5 [(0, .ref a), (4, .int i)] → W p l e (vRm 3 100 0 0) s m args below meth c H locs 0 0 Q (F0 m 107 ls []) := by
            intro n_lp
            induction n_lp with
            | zero => intros; exact absurd (by assumption) (Nat.not_lt_zero _)
            | succ n_lp ih_lp =>
              intro k i ls h H locs ei hk hmu_lp X M hl
              refine lv_iload hx hb d_MenuScreensModel_addScreen_107 (lv_at hl 1 rfl) ?_
              refine lv_bipush (v := 10) hx hb d_MenuScreensModel_addScreen_109 (by decide) ?_
              refine lv_icmp_ge (tgt := 136) hx hb d_MenuScreensModel_addScreen_111 (by decide) (fun c8 => ?_) (fun c8 => ?_)
              · skip
                refine lv_iconst (v := 1) hx hb d_MenuScreensModel_addScreen_136 (by decide) ?_
                exact mq_iret hQ C X hr rfl hlk (⟨(upd (upd (upd (upd x 7 (nI (nT (A 6) e0 (nT (A 6) e0 i0)))) 9 (nI (nF (A 6) e0 (nT (A 6) e0 i0)))) 10 (nI (nT (A 6) e0 (nT (A 6) e0 i0)))) 20 ((x 20) + 1)), (va_up (va_up (va_up (va_up A 21 (upd (A 21) (ns + 1) (nI (nF (A 6) e0 i0)))) 22 (upd (A 22) (ns + 1) (nI (nT (A 6) e0 i0)))) 23 (upd (A 23) (ns + 1) p1)) 27 (kz (A 27) (10 * (ns + 1)) k)), (va_up B 24 (vp_updL (B 24) (ns + 1) 1000)), M, (fun k q7 q9 q10 q20 => by simp [upd, q7, q9, q10, q20]), Or.inl ⟨by unfold okSc; rw [a1, a4, decide_eq_true a2, decide_eq_true a3]; rfl, rfl, e20, by
                    have : k = 10 := by
                      have := (nI_leI (a := 10) (b := k) (by decide) (by omega)).mp (by rw [← ei]; exact c8)
                      omega
                    rw [this], rfl⟩⟩) (Nat.le_refl _) (Nat.le_refl _) d_MenuScreensModel_addScreen_137
              · skip
                have hlt : k < 10 := by
                  rcases Nat.lt_or_ge k 10 with q | q
                  · exact q
                  · exact absurd (by rw [ei]; exact nI_le (a := 10) q (by omega)) c8
                have eq0 : 10 * (x 20 + 1) + i = nI ((10 * (ns + 1)) + k) := by rw [e20, ei]; exact (congrArg (· + nI k) (pk_mul 10 (ns + 1))).trans (nI_add _ _)
                refine lv_aload_n hx hb d_MenuScreensModel_addScreen_114 rfl (lv_at hl 0 rfl) ?_
                refine mm_get C X M 27 f_12_57_13 (.ref (ar 27)) rfl d_MenuScreensModel_addScreen_115 ?_
                refine lv_bipush (v := 10) hx hb d_MenuScreensModel_addScreen_118 (by decide) ?_
                refine lv_aload_n hx hb d_MenuScreensModel_addScreen_120 rfl (lv_at hl 0 rfl) ?_
                refine mm_get C X M 20 f_12_169_13 (.int ((x 20) + 1)) rfl d_MenuScreensModel_addScreen_121 ?_
                refine lv_imul hx hb d_MenuScreensModel_addScreen_124 ?_
                refine lv_iload hx hb d_MenuScreensModel_addScreen_125 (lv_at hl 1 rfl) ?_
                refine lv_iadd hx hb d_MenuScreensModel_addScreen_127 ?_
                refine lv_iconst (v := 0) hx hb d_MenuScreensModel_addScreen_128 (by decide) ?_
                refine mm_iast C X M 27 310 rfl (kz (A 27) (10 * (ns + 1)) k) rfl (fun _ => rfl) (by decide) ((10 * (ns + 1)) + k) eq0 (by omega) d_MenuScreensModel_addScreen_129 (fun h H locs X M => ?_)
                rw [bx_uu] at M
                refine lv_iinc (v := (i + 1)) (lv' := [(4, .int (i + 1)), (0, .ref a)]) hx hb d_MenuScreensModel_addScreen_130 hl (k := 1) rfl rfl (by decide) rfl (fun ls hl => ?_)
                refine lv_goto (tgt := 107) hx hb d_MenuScreensModel_addScreen_133 (by decide) ?_
                exact ih_lp (k + 1) (i + 1) ls _ _ _ (by rw [ei]; exact nI_1 k) (by omega) (by omega) X M (lv_sub hl [1, 0] rfl)
          exact lp (10 - 0 + 1) 0 0 ls _ _ _ rfl (by omega) (Nat.lt_succ_self _) X M (lv_sub hl [3, 0] rfl)
        · skip
          refine lv_iconst (v := 0) hx hb d_MenuScreensModel_addScreen_50 (by decide) ?_
          exact mq_iret hQ C X hr rfl hlk (⟨(upd (upd (upd x 7 (nI (nT (A 6) e0 (nT (A 6) e0 i0)))) 9 (nI (nF (A 6) e0 (nT (A 6) e0 i0)))) 10 (nI (nT (A 6) e0 (nT (A 6) e0 i0)))), A, B, M, (fun k q7 q9 q10 q20 => by simp [upd, q7, q9, q10, q20]), Or.inr ⟨by unfold okSc; rw [show cEnd (A 6) e0 (nT (A 6) e0 i0) = false from bI_0 (er6.symm.trans c7)]; simp, rfl, rfl, rfl, rfl⟩⟩) (Nat.le_refl _) (Nat.le_refl _) d_MenuScreensModel_addScreen_51
      · skip
        refine lv_iconst (v := 0) hx hb d_MenuScreensModel_addScreen_31 (by decide) ?_
        exact mq_iret hQ C X hr rfl hlk (⟨(upd (upd (upd x 7 (nI (nT (A 6) e0 i0))) 9 (nI (nF (A 6) e0 i0))) 10 (nI (nT (A 6) e0 i0))), A, B, M, (fun k q7 q9 q10 q20 => by simp [upd, q7, q9, q10, q20]), Or.inr ⟨by unfold okSc; rw [decide_eq_false (p := ns ≠ 30) (fun z => z (nI_eqI (by omega) (by decide) (by rw [← hns]; exact c5)))]; simp, rfl, rfl, rfl, rfl⟩⟩) (Nat.le_refl _) (Nat.le_refl _) d_MenuScreensModel_addScreen_32
