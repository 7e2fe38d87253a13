theorem d_MenuScreensModel_wrong_0 : decode prog_13_method_22_code 0 = .ok (.iconst 0, 1) := by decide +kernel
theorem d_MenuScreensModel_wrong_1 : decode prog_13_method_22_code 1 = .ok (.istore_n 1, 1) := by decide +kernel
theorem d_MenuScreensModel_wrong_2 : decode prog_13_method_22_code 2 = .ok (.iconst 0, 1) := by decide +kernel
theorem d_MenuScreensModel_wrong_3 : decode prog_13_method_22_code 3 = .ok (.istore_n 2, 1) := by decide +kernel
theorem d_MenuScreensModel_wrong_4 : decode prog_13_method_22_code 4 = .ok (.iload_n 2, 1) := by decide +kernel
theorem d_MenuScreensModel_wrong_5 : decode prog_13_method_22_code 5 = .ok (.aload_n 0, 1) := by decide +kernel
theorem d_MenuScreensModel_wrong_6 : decode prog_13_method_22_code 6 = .ok (.getfield 236, 3) := by decide +kernel
theorem d_MenuScreensModel_wrong_9 : decode prog_13_method_22_code 9 = .ok (.if_icmp .ge 81, 3) := by decide +kernel
theorem d_MenuScreensModel_wrong_12 : decode prog_13_method_22_code 12 = .ok (.iinc 1 1, 3) := by decide +kernel
theorem d_MenuScreensModel_wrong_15 : decode prog_13_method_22_code 15 = .ok (.aload_n 0, 1) := by decide +kernel
theorem d_MenuScreensModel_wrong_16 : decode prog_13_method_22_code 16 = .ok (.iload_n 2, 1) := by decide +kernel
theorem d_MenuScreensModel_wrong_17 : decode prog_13_method_22_code 17 = .ok (.putfield 136, 3) := by decide +kernel
theorem d_MenuScreensModel_wrong_20 : decode prog_13_method_22_code 20 = .ok (.aload_n 0, 1) := by decide +kernel
theorem d_MenuScreensModel_wrong_21 : decode prog_13_method_22_code 21 = .ok (.getfield 136, 3) := by decide +kernel
theorem d_MenuScreensModel_wrong_24 : decode prog_13_method_22_code 24 = .ok (.aload_n 0, 1) := by decide +kernel
theorem d_MenuScreensModel_wrong_25 : decode prog_13_method_22_code 25 = .ok (.getfield 236, 3) := by decide +kernel
theorem d_MenuScreensModel_wrong_28 : decode prog_13_method_22_code 28 = .ok (.if_icmp .ge 30, 3) := by decide +kernel
theorem d_MenuScreensModel_wrong_31 : decode prog_13_method_22_code 31 = .ok (.aload_n 0, 1) := by decide +kernel
theorem d_MenuScreensModel_wrong_32 : decode prog_13_method_22_code 32 = .ok (.getfield 13, 3) := by decide +kernel
theorem d_MenuScreensModel_wrong_35 : decode prog_13_method_22_code 35 = .ok (.aload_n 0, 1) := by decide +kernel
theorem d_MenuScreensModel_wrong_36 : decode prog_13_method_22_code 36 = .ok (.getfield 136, 3) := by decide +kernel
theorem d_MenuScreensModel_wrong_39 : decode prog_13_method_22_code 39 = .ok (.iaload, 1) := by decide +kernel
theorem d_MenuScreensModel_wrong_40 : decode prog_13_method_22_code 40 = .ok (.bipush 10, 2) := by decide +kernel
theorem d_MenuScreensModel_wrong_42 : decode prog_13_method_22_code 42 = .ok (.if_icmp .eq 16, 3) := by decide +kernel
theorem d_MenuScreensModel_wrong_45 : decode prog_13_method_22_code 45 = .ok (.aload_n 0, 1) := by decide +kernel
theorem d_MenuScreensModel_wrong_46 : decode prog_13_method_22_code 46 = .ok (.dup, 1) := by decide +kernel
theorem d_MenuScreensModel_wrong_47 : decode prog_13_method_22_code 47 = .ok (.getfield 136, 3) := by decide +kernel
theorem d_MenuScreensModel_wrong_50 : decode prog_13_method_22_code 50 = .ok (.iconst 1, 1) := by decide +kernel
theorem d_MenuScreensModel_wrong_51 : decode prog_13_method_22_code 51 = .ok (.iadd, 1) := by decide +kernel
theorem d_MenuScreensModel_wrong_52 : decode prog_13_method_22_code 52 = .ok (.putfield 136, 3) := by decide +kernel
theorem d_MenuScreensModel_wrong_55 : decode prog_13_method_22_code 55 = .ok (.goto (-35), 3) := by decide +kernel
theorem d_MenuScreensModel_wrong_58 : decode prog_13_method_22_code 58 = .ok (.aload_n 0, 1) := by decide +kernel
theorem d_MenuScreensModel_wrong_59 : decode prog_13_method_22_code 59 = .ok (.iload_n 2, 1) := by decide +kernel
theorem d_MenuScreensModel_wrong_60 : decode prog_13_method_22_code 60 = .ok (.putfield 133, 3) := by decide +kernel
theorem d_MenuScreensModel_wrong_63 : decode prog_13_method_22_code 63 = .ok (.aload_n 0, 1) := by decide +kernel
theorem d_MenuScreensModel_wrong_64 : decode prog_13_method_22_code 64 = .ok (.invokevirtual 145, 3) := by decide +kernel
theorem d_MenuScreensModel_wrong_67 : decode prog_13_method_22_code 67 = .ok (.ifCond .eq 13, 3) := by decide +kernel
theorem d_MenuScreensModel_wrong_70 : decode prog_13_method_22_code 70 = .ok (.aload_n 0, 1) := by decide +kernel
theorem d_MenuScreensModel_wrong_71 : decode prog_13_method_22_code 71 = .ok (.iload_n 1, 1) := by decide +kernel
theorem d_MenuScreensModel_wrong_72 : decode prog_13_method_22_code 72 = .ok (.invokevirtual 239, 3) := by decide +kernel
theorem d_MenuScreensModel_wrong_75 : decode prog_13_method_22_code 75 = .ok (.ifCond .ne 5, 3) := by decide +kernel
theorem d_MenuScreensModel_wrong_78 : decode prog_13_method_22_code 78 = .ok (.iload_n 1, 1) := by decide +kernel
theorem d_MenuScreensModel_wrong_79 : decode prog_13_method_22_code 79 = .ok (.ireturn, 1) := by decide +kernel
theorem d_MenuScreensModel_wrong_80 : decode prog_13_method_22_code 80 = .ok (.aload_n 0, 1) := by decide +kernel
theorem d_MenuScreensModel_wrong_81 : decode prog_13_method_22_code 81 = .ok (.getfield 136, 3) := by decide +kernel
theorem d_MenuScreensModel_wrong_84 : decode prog_13_method_22_code 84 = .ok (.iconst 1, 1) := by decide +kernel
theorem d_MenuScreensModel_wrong_85 : decode prog_13_method_22_code 85 = .ok (.iadd, 1) := by decide +kernel
theorem d_MenuScreensModel_wrong_86 : decode prog_13_method_22_code 86 = .ok (.istore_n 2, 1) := by decide +kernel
theorem d_MenuScreensModel_wrong_87 : decode prog_13_method_22_code 87 = .ok (.goto (-83), 3) := by decide +kernel
theorem d_MenuScreensModel_wrong_90 : decode prog_13_method_22_code 90 = .ok (.aload_n 0, 1) := by decide +kernel
theorem d_MenuScreensModel_wrong_91 : decode prog_13_method_22_code 91 = .ok (.invokevirtual 242, 3) := by decide +kernel
theorem d_MenuScreensModel_wrong_94 : decode prog_13_method_22_code 94 = .ok (.ireturn, 1) := by decide +kernel
set_option maxRecDepth 100000 in
set_option maxHeartbeats 4000000 in
theorem cm_MenuScreensModel_wrong {l : Launch} {S0 : State} {b : Nat} {D : va_G} {dT : Nat → ClassId} (hE : vEnv S0 b D dT) {h0 : vH} {a : Nat} {ar : Nat → Nat} {x : Nat → Int32} {y : Nat → Int64} {A : Nat → Nat → Int32} {B : Nat → Nat → Int64} (M : MV S0 dT h0 a ar x y A B) {size : Nat} (hsz : x 5 = nI size) (hsz2 : size ≤ 4000) (z12 : x 12 = nI 0) (z20 : x 20 = nI 0) (z28 : x 28 = nI 0) (z39 : x 39 = nI 0) (hri : x 48 = nI 0) (hkey : keyP A) (hsm : ∀ v, smL (B 18 v)) : vMi l S0 D vcl GT y_MenuScreensModel_wrong prog_13_method_22_code 3 (some .int) 5 200 0 0 [.ref a] h0 (fun r h' => ∃ x' y' A' B', MR S0 dT h0 h' a ar x' y' A' B' ∧ (∀ k, k ≠ 7 → k ≠ 8 → k ≠ 9 → k ≠ 10 → k ≠ 12 → k ≠ 20 → k ≠ 28 → k ≠ 39 → k ≠ 48 → x' k = x k) ∧ (∀ k, k ≠ 11 → y' k = y k) ∧ ((∀ k, k = 4 ∨ k = 51 ∨ k = 53 ∨ k = 58 → A' k = A k) ∧ B' 52 = B 52) ∧ ((∃ n1, pAll (A 6) size (size + 1) 0 0 (0, 0, 0, 0, A, B) = (n1, none) ∧ 0 < n1 ∧ n1 ≤ 4001 ∧ r = nI n1 ∧ x' 48 = x 48 ∧ keyP A' ∧ (∀ v, smL (B' 18 v))) ∨ (∃ nv ns np nc A2 B2, pAll (A 6) size (size + 1) 0 0 (0, 0, 0, 0, A, B) = (0, some (nv, ns, np, nc, A2, B2)) ∧ PI (A 6) (nv, ns, np, nc, A2, B2) 4001 ∧ r = ffS A2 ns (hEnd (fun s k => ldS A2 ns (10 * s + k)) ns) ns ∧ x' 12 = nI nv ∧ x' 20 = nI ns ∧ x' 28 = nI np ∧ x' 39 = nI nc ∧ x' 48 = nI (cnt (fun j => !hEnd (fun s k => ldS A2 ns (10 * s + k)) ns (j + 1)) ns) ∧ B' = B2 ∧ ∃ g, A' = va_up (va_up A2 25 g) 49 (rg (hEnd (fun s k => ldS A2 ns (10 * s + k)) ns) (A2 49) ns)))) := by
  unfold vMi
  refine vM_ofQ hE.1 (by decide) (Nat.le_of_ble_eq_true rfl) (fun p e s m args below meth c ls Q hQ C hr hlk hnm X hl => ?_)
  have C : vC p s m _ c _ _ "MenuScreensModel" GT D vcl (vty dT) := C
  have hx := C.1.1
  have hb := C.1.2.1
  replace M := MR.of M
  obtain ⟨H, eH⟩ : ∃ z, z = s.heap := ⟨_, rfl⟩
  obtain ⟨locs, elocs⟩ : ∃ z : List Loc, z = [] := ⟨_, rfl⟩
  rw [← eH, ← elocs] at X
  rw [← eH, ← elocs]
  clear eH elocs
  have hl : lv_has ls 3 [(0, .ref a)] := hl
  refine lv_iconst (v := 0) hx hb d_MenuScreensModel_wrong_0 (by decide) ?_
  refine lv_istore_n (lv' := [(1, .int 0), (0, .ref a)]) hx hb d_MenuScreensModel_wrong_1 rfl hl (by decide) rfl (fun ls hl => ?_)
  refine lv_iconst (v := 0) hx hb d_MenuScreensModel_wrong_2 (by decide) ?_
  refine lv_istore_n (lv' := [(2, .int 0), (1, .int 0), (0, .ref a)]) hx hb d_MenuScreensModel_wrong_3 rfl hl (by decide) rfl (fun ls hl => ?_)
  obtain ⟨R9, hR9⟩ : ∃ z, z = pAll (A 6) size (size + 1) 0 0 (0, 0, 0, 0, A, B) := ⟨_, rfl⟩
  have lpW : ∀ (n_lpW : Nat) (m0 : Nat) (b0 : Nat) (ln : Nat) (nv : Nat) (ns : Nat) (np : Nat) (nc : Nat) (x2 : Nat → Int32) (y2 : Nat → Int64) (A2 : Nat → Nat → Int32) (B2 : Nat → Nat → Int64) (i1 : Int32) (i2 : Int32) (ls : Array Slot) (h : vH) (H : Heap) (locs : List Loc), (i1 = nI ln) → (i2 = nI b0) → (size < b0 + m0) → (b0 ≤ size + 1) → (ln ≤ b0) → (∀ k, k ≠ 7 → k ≠ 8 → k ≠ 9 → k ≠ 10 → k ≠ 12 → k ≠ 20 → k ≠ 28 → k ≠ 39 → x2 k = x k) → (∀ k, k ≠ 11 → y2 k = y k) → (x2 12 = nI nv) → (x2 20 = nI ns) → (x2 28 = nI np) → (x2 39 = nI nc) → (PI (A 6) (nv, ns, np, nc, A2, B2) b0) → ((∀ k, k = 4 ∨ k = 51 ∨ k = 53 ∨ k = 58 → A2 k = A k) ∧ B2 52 = B 52) → (pAll (A 6) size m0 b0 ln (nv, ns, np, nc, A2, B2) = R9) → (size + 1 - b0) < n_lpW → vO S0 D vcl h s H locs → MR S0 dT h0 h a ar x2 y2 A2 B2 → lv_has ls 3 [(0, .ref a), (1, .int i1), (2, .int i2)] → W p l e (vRm 5 200 0 0) s m args below meth c H locs 0 0 Q (F0 m 4 ls []) := by
    intro n_lpW
    induction n_lpW with
    | zero => intros; exact absurd (by assumption) (Nat.not_lt_zero _)
    | succ n_lpW ih_lpW =>
      intro m0 b0 ln nv ns np nc x2 y2 A2 B2 i1 i2 ls h H locs e1 e2 hm0 hb0 hln kx ky h12 h20 h28 h39 hI hpk hR hmu_lpW X M hl
      refine lv_iload_n hx hb d_MenuScreensModel_wrong_4 rfl (lv_at hl 2 rfl) ?_
      refine lv_aload_n hx hb d_MenuScreensModel_wrong_5 rfl (lv_at hl 0 rfl) ?_
      refine mm_get C X M 5 f_12_236_13 (.int (x2 5)) rfl d_MenuScreensModel_wrong_6 ?_
      refine lv_icmp_ge (tgt := 90) hx hb d_MenuScreensModel_wrong_9 (by decide) (fun c1 => ?_) (fun c1 => ?_)
      · skip
        refine lv_aload_n hx hb d_MenuScreensModel_wrong_90 rfl (lv_at hl 0 rfl) ?_
        have h5 : x2 5 = nI size := (kx 5 (by decide) (by decide) (by decide) (by decide) (by decide) (by decide) (by decide) (by decide)).trans hsz
        have hge : size ≤ b0 := (nI_leI (by omega) (by omega)).mp (by rw [← e2, ← h5]; exact c1)
        have hR2 : (0, some (nv, ns, np, nc, A2, B2)) = R9 := by
          rw [← hR]
          cases m0 with
          | zero => rfl
          | succ q => rw [pAll, if_neg (by omega)]
        have h48 : x2 48 = nI 0 := (kx 48 (by decide) (by decide) (by decide) (by decide) (by decide) (by decide) (by decide) (by decide)).trans hri
        refine mv_bi X (mv_rV (rest := []) (As := []) gt_good C X k_12_242 (cm_MenuScreensModel_endLine hE M.1 (ns := ns) h20 hI.2.1 hI.2.2.2.2.2.1 h48 hI.2.2.2.2.2.2.1) M.1.1 rfl rfl ⟨by decide, by decide⟩ rfl hl.1 rfl (Nat.le_of_ble_eq_true rfl) d_MenuScreensModel_wrong_91 ⟨Nat.le_refl _, Nat.le_refl _⟩) (fun r2 hN H locs hp X => ?_)
        obtain ⟨x3, A3, M1, er, ex3, g, eA3⟩ := hp
        replace M := M.trans M1
        exact mq_iret hQ C X hr rfl hlk (⟨x3, y2, A3, B2, M, fun k q7 q8 q9 q10 q12 q20 q28 q39 q48 => by rw [ex3]; simp [upd, q48]; exact kx k q7 q8 q9 q10 q12 q20 q28 q39, ky, ⟨fun k q => by rw [eA3]; rcases q with rfl | rfl | rfl | rfl <;> exact hpk.1 _ (by simp), hpk.2⟩, Or.inr ⟨nv, ns, np, nc, A2, B2, by rw [← hR9]; exact hR2.symm, PI_mono hI (by omega), er, by rw [ex3]; exact h12, by rw [ex3]; exact h20, by rw [ex3]; exact h28, by rw [ex3]; exact h39, by rw [ex3]; rfl, rfl, g, eA3⟩⟩) (Nat.le_refl _) (Nat.le_refl _) d_MenuScreensModel_wrong_94
      · skip
        have h5 : x2 5 = nI size := (kx 5 (by decide) (by decide) (by decide) (by decide) (by decide) (by decide) (by decide) (by decide)).trans hsz
        have hlt : b0 < size := by
          rcases Nat.lt_or_ge b0 size with q | q
          · exact q
          · exact absurd (by rw [h5, e2]; exact nI_le q (by omega)) c1
        obtain ⟨E, hE9⟩ : ∃ z, z = lnE (A 6) (size - b0) b0 := ⟨_, rfl⟩
        have hEin := lnE_in (A 6) size _ b0 rfl (by omega)
        rw [← hE9] at hEin
        have hf : A2 6 = A 6 := hI.2.2.2.1
        refine lv_iinc (v := (i1 + 1)) (lv' := [(1, .int (i1 + 1)), (0, .ref a), (2, .int i2)]) hx hb d_MenuScreensModel_wrong_12 hl (k := 1) rfl rfl (by decide) rfl (fun ls hl => ?_)
        refine lv_aload_n hx hb d_MenuScreensModel_wrong_15 rfl (lv_at hl 1 rfl) ?_
        refine lv_iload_n hx hb d_MenuScreensModel_wrong_16 rfl (lv_at hl 2 rfl) ?_
        refine mm_put C X M 8 p_12_136_13 (upd x2 8 i2) y2 rfl rfl rfl (by decide) d_MenuScreensModel_wrong_17 (fun h H locs X M => ?_)
        have j58 : ∀ (i8 : Int32) (ls : Array Slot) (h : vH) (H : Heap) (locs : List Loc), (i8 = nI E) → vO S0 D vcl h s H locs → MR S0 dT h0 h a ar (upd x2 8 i8) y2 A2 B2 → lv_has ls 3 [(0, .ref a), (1, .int (i1 + 1)), (2, .int i2)] → W p l e (vRm 5 200 0 0) s m args below meth c H locs 0 0 Q (F0 m 58 ls []) := by
          intro i8 ls h H locs e8 X M hl
          refine lv_aload_n hx hb d_MenuScreensModel_wrong_58 rfl (lv_at hl 0 rfl) ?_
          refine lv_iload_n hx hb d_MenuScreensModel_wrong_59 rfl (lv_at hl 2 rfl) ?_
          refine mm_put C X M 7 p_12_133_13 (upd (upd x2 7 i2) 8 i8) y2 rfl rfl rfl (by decide) d_MenuScreensModel_wrong_60 (fun h H locs X M => ?_)
          refine lv_aload_n hx hb d_MenuScreensModel_wrong_63 rfl (lv_at hl 0 rfl) ?_
          refine mv_bi X (mv_rV (rest := []) (As := []) gt_good C X k_12_145 (cm_MenuScreensModel_next hE M.1 (i0 := b0) (e0 := E) (F := (nF (A 6) E b0)) (T := (nT (A 6) E b0)) e2 e8 hEin.1 (by omega) (by show skp (A2 6) _ _ = _; rw [hf]; rfl) (by show wnd (A2 6) _ _ = _; rw [hf]; rfl)) M.1.1 rfl rfl ⟨by decide, by decide⟩ rfl hl.1 rfl (Nat.le_of_ble_eq_true rfl) d_MenuScreensModel_wrong_64 ⟨Nat.le_refl _, Nat.le_refl _⟩) (fun r3 hN H locs hp X => ?_)
          obtain ⟨x9, M1, rfl, er3⟩ := hp
          replace M := M.trans M1
          have hTw := nT_in (A 6) hEin.1
          have hm1 : m0 = (m0 - 1) + 1 := by omega
          rw [hm1, pAll, if_pos hlt, ← hE9] at hR
          refine lv_if_eq (tgt := 80) hx hb d_MenuScreensModel_wrong_67 (by decide) (fun c4 => ?_) (fun c4 => ?_)
          · skip
            have hnw : ¬ (nF (A 6) E b0) < (nT (A 6) E b0) := fun q => absurd ((er3.trans (if_pos q)).symm.trans c4) (by decide)
            rw [pLn, if_neg hnw] at hR
            dsimp only at hR
            have hRb := hR
            have e2b : i8 + 1 = nI (E + 1) := by rw [e8]; exact nI_1 E
            refine lv_aload_n hx hb d_MenuScreensModel_wrong_80 rfl (lv_at hl 0 rfl) ?_
            refine mm_get C X M 8 f_12_136_13 (.int i8) rfl d_MenuScreensModel_wrong_81 ?_
            refine lv_iconst (v := 1) hx hb d_MenuScreensModel_wrong_84 (by decide) ?_
            refine lv_iadd hx hb d_MenuScreensModel_wrong_85 ?_
            refine lv_istore_n (lv' := [(2, .int (i8 + 1)), (0, .ref a), (1, .int (i1 + 1))]) hx hb d_MenuScreensModel_wrong_86 rfl hl (by decide) rfl (fun ls hl => ?_)
            refine lv_goto (tgt := 4) hx hb d_MenuScreensModel_wrong_87 (by decide) ?_
            exact ih_lpW (m0 - 1) (E + 1) (ln + 1) nv ns np nc (upd (upd (upd (upd x2 7 (nI (nT (A 6) E b0))) 8 i8) 9 (nI (nF (A 6) E b0))) 10 (nI (nT (A 6) E b0))) y2 A2 B2 (i1 + 1) (i8 + 1) ls _ _ _ (by rw [e1]; exact nI_1 ln) e2b (by omega) (by omega) (by omega) (fun k q7 q8 q9 q10 q12 q20 q28 q39 => by simp [upd, q7, q8, q9, q10]; exact kx k q7 q8 q9 q10 q12 q20 q28 q39) ky h12 h20 h28 h39 (PI_mono hI (by omega)) hpk hRb (by omega) X M (lv_sub hl [1, 2, 0] rfl)
          · skip
            refine lv_aload_n hx hb d_MenuScreensModel_wrong_70 rfl (lv_at hl 0 rfl) ?_
            refine lv_iload_n hx hb d_MenuScreensModel_wrong_71 rfl (lv_at hl 1 rfl) ?_
            have hw : (nF (A 6) E b0) < (nT (A 6) E b0) := by
              apply Classical.byContradiction
              intro q
              exact c4 (er3.trans (if_neg q))
            refine mv_bi X (mv_rV (rest := []) (As := [.int (i1 + 1)]) gt_good C X k_12_239 (cm_MenuScreensModel_line hE M.1 _ (F := (nF (A 6) E b0)) (T := (nT (A 6) E b0)) (e0 := E) rfl rfl rfl hw e8 hTw.2 (by omega) (by omega) (nv := nv) (ns := ns) (np := np) (nc := nc) h12 hI.1 h20 hI.2.1 h28 (by have := hI.2.2.1; dsimp only at this; omega) h39 (by have := hI.2.2.1; dsimp only at this; omega) hI.2.2.2.2.1 hI.2.2.2.2.2.1) M.1.1 rfl rfl ⟨by decide, by decide⟩ rfl hl.1 rfl (Nat.le_of_ble_eq_true rfl) d_MenuScreensModel_wrong_72 ⟨Nat.le_refl _, Nat.le_refl _⟩) (fun r5 hN H locs hp X => ?_)
            obtain ⟨x3, y3, A3, B3, M1, kx3, ky3, hc⟩ := hp
            replace M := M.trans M1
            obtain ⟨KD, hKD⟩ : ∃ z, z = lkd (wV (A 6) (nF (A 6) E b0) (nT (A 6) E b0)) := ⟨_, rfl⟩
            have hKD2 : lkd (wV (A2 6) (nF (A 6) E b0) (nT (A 6) E b0)) = KD := by rw [hf, hKD]
            rw [hKD2] at hc
            have kxb : ∀ k, k ≠ 7 → k ≠ 8 → k ≠ 9 → k ≠ 10 → k ≠ 12 → k ≠ 20 → k ≠ 28 → k ≠ 39 → x3 k = x k := fun k q7 q8 q9 q10 q12 q20 q28 q39 => by
              rw [kx3 k q7 q9 q10 q12 q20 q28 q39]; simp [upd, q7, q8, q9, q10]; exact kx k q7 q8 q9 q10 q12 q20 q28 q39
            have kyb : ∀ k, k ≠ 11 → y3 k = y k := fun k q => (ky3 k q).trans (ky k q)
            have h83 : x3 8 = nI E := (kx3 8 (by decide) (by decide) (by decide) (by decide) (by decide) (by decide) (by decide)).trans e8
            rw [pLn, if_pos hw, ← hKD] at hR
            dsimp only at hR
            rcases hc with ⟨ok, er, c12, c20, c28, c39, eA, eB⟩ | ⟨ok, er, lk⟩
            · skip
              rw [if_pos ok] at hR
              dsimp only at hR
              have hIb : PI (A 6) (lnV nv KD, lnSc ns KD, lnP np KD, lnC nc KD, A3, B3) (E + 1) := by
                rw [eA, eB]
                exact PI_kd KD hI hEin.1 (by omega) rfl hw ok
              have hpkb : (∀ k, k = 4 ∨ k = 51 ∨ k = 53 ∨ k = 58 → A3 k = A k) ∧ B3 52 = B 52 := by
                refine ⟨fun k q => ?_, ?_⟩
                · rw [eA, lnA_k _ q]; exact hpk.1 k q
                · rw [eB, lnB_52]; exact hpk.2
              have hRb : pAll (A 6) size (m0 - 1) (E + 1) (ln + 1) (lnV nv KD, lnSc ns KD, lnP np KD, lnC nc KD, A3, B3) = R9 := by
                rw [eA, eB, show i1 + 1 = nI (ln + 1) by rw [e1]; exact nI_1 ln]; exact hR
              have e2b : x3 8 + 1 = nI (E + 1) := by rw [h83]; exact nI_1 E
              refine lv_if_ne (tgt := 80) hx hb d_MenuScreensModel_wrong_75 (by decide) (fun c6 => ?_) (fun z => absurd (er.symm.trans z) (by decide))
              refine lv_aload_n hx hb d_MenuScreensModel_wrong_80 rfl (lv_at hl 0 rfl) ?_
              refine mm_get C X M 8 f_12_136_13 (.int (x3 8)) rfl d_MenuScreensModel_wrong_81 ?_
              refine lv_iconst (v := 1) hx hb d_MenuScreensModel_wrong_84 (by decide) ?_
              refine lv_iadd hx hb d_MenuScreensModel_wrong_85 ?_
              refine lv_istore_n (lv' := [(2, .int ((x3 8) + 1)), (0, .ref a), (1, .int (i1 + 1))]) hx hb d_MenuScreensModel_wrong_86 rfl hl (by decide) rfl (fun ls hl => ?_)
              refine lv_goto (tgt := 4) hx hb d_MenuScreensModel_wrong_87 (by decide) ?_
              exact ih_lpW (m0 - 1) (E + 1) (ln + 1) (lnV nv KD) (lnSc ns KD) (lnP np KD) (lnC nc KD) x3 y3 A3 B3 (i1 + 1) ((x3 8) + 1) ls _ _ _ (by rw [e1]; exact nI_1 ln) e2b (by omega) (by omega) (by omega) kxb kyb c12 c20 c28 c39 hIb hpkb hRb (by omega) X M (lv_sub hl [1, 2, 0] rfl)
            · skip
              rw [if_neg (by rw [ok]; decide)] at hR
              dsimp only at hR
              refine lv_if_ne (tgt := 80) hx hb d_MenuScreensModel_wrong_75 (by decide) (fun z => absurd z (fun z => z er)) (fun c7 => ?_)
              refine lv_iload_n hx hb d_MenuScreensModel_wrong_78 rfl (lv_at hl 1 rfl) ?_
              exact mq_iret hQ C X hr rfl hlk (⟨x3, y3, A3, B3, M, fun k q7 q8 q9 q10 q12 q20 q28 q39 _ => kxb k q7 q8 q9 q10 q12 q20 q28 q39, kyb, ⟨fun k q => (lk.1 k (by omega)).trans (hpk.1 k q), by rw [lk.2]; exact hpk.2⟩, Or.inl ⟨ln + 1, by rw [← hR9]; exact hR.symm, by omega, by omega, by rw [e1]; exact nI_1 ln, kxb 48 (by decide) (by decide) (by decide) (by decide) (by decide) (by decide) (by decide) (by decide), keyP_eq hI.2.2.2.2.2.2.1 (lk.1 26 (by decide)) (lk.1 27 (by decide)), fun v => by rw [lk.2]; exact hI.2.2.2.2.2.2.2.2.2 v⟩⟩) (Nat.le_refl _) (Nat.le_refl _) d_MenuScreensModel_wrong_79
        have lpX : ∀ (n_lpX : Nat) (k : Nat) (i8 : Int32) (ls : Array Slot) (h : vH) (H : Heap) (locs : List Loc), (i8 = nI k) → (b0 ≤ k) → (k ≤ size) → (lnE (A 6) (size - k) k = E) → (size - k) < n_lpX → vO S0 D vcl h s H locs → MR S0 dT h0 h a ar (upd x2 8 i8) y2 A2 B2 → lv_has ls 3 [(0, .ref a), (1, .int (i1 + 1)), (2, .int i2)] → W p l e (vRm 5 200 0 0) s m args below meth c H locs 0 0 Q (F0 m 20 ls []) := by
          intro n_lpX
          induction n_lpX with
          | zero => intros; exact absurd (by assumption) (Nat.not_lt_zero _)
          | succ n_lpX ih_lpX =>
            intro k i8 ls h H locs e8 hk1 hk2 hs hmu_lpX X M hl
            refine lv_aload_n hx hb d_MenuScreensModel_wrong_20 rfl (lv_at hl 0 rfl) ?_
            refine mm_get C X M 8 f_12_136_13 (.int i8) rfl d_MenuScreensModel_wrong_21 ?_
            refine lv_aload_n hx hb d_MenuScreensModel_wrong_24 rfl (lv_at hl 0 rfl) ?_
            refine mm_get C X M 5 f_12_236_13 (.int (x2 5)) rfl d_MenuScreensModel_wrong_25 ?_
            refine lv_icmp_ge (tgt := 58) hx hb d_MenuScreensModel_wrong_28 (by decide) (fun c8 => ?_) (fun c8 => ?_)
            · skip
              exact j58 i8 ls _ _ _ (by rw [e8]; exact congrArg nI ((lnE_e ((nI_leI (by omega) (by omega)).mp (by rw [← e8, ← h5]; exact c8))).symm.trans hs)) X M (lv_sub hl [0, 1, 2] rfl)
            · skip
              have hlt2 : k < size := by
                rcases Nat.lt_or_ge k size with q | q
                · exact q
                · exact absurd (by rw [h5, e8]; exact nI_le q (by omega)) c8
              refine lv_aload_n hx hb d_MenuScreensModel_wrong_31 rfl (lv_at hl 0 rfl) ?_
              refine mm_get C X M 6 f_12_13_13 (.ref (ar 6)) rfl d_MenuScreensModel_wrong_32 ?_
              refine lv_aload_n hx hb d_MenuScreensModel_wrong_35 rfl (lv_at hl 0 rfl) ?_
              refine mm_get C X M 8 f_12_136_13 (.int i8) rfl d_MenuScreensModel_wrong_36 ?_
              refine mm_iald C X M 6 4000 rfl (A2 6) rfl (by decide) k e8 (by omega) d_MenuScreensModel_wrong_39 ?_
              refine lv_bipush (v := 10) hx hb d_MenuScreensModel_wrong_40 (by decide) ?_
              refine lv_icmp_eq (tgt := 58) hx hb d_MenuScreensModel_wrong_42 (by decide) (fun c9 => ?_) (fun c9 => ?_)
              · skip
                exact j58 i8 ls _ _ _ (by rw [e8]; exact congrArg nI ((lnE_n (by rw [← hf]; exact c9)).symm.trans hs)) X M (lv_sub hl [0, 1, 2] rfl)
              · skip
                refine lv_aload_n hx hb d_MenuScreensModel_wrong_45 rfl (lv_at hl 0 rfl) ?_
                refine lv_dup hx hb d_MenuScreensModel_wrong_46 rfl ?_
                refine mm_get C X M 8 f_12_136_13 (.int i8) rfl d_MenuScreensModel_wrong_47 ?_
                refine lv_iconst (v := 1) hx hb d_MenuScreensModel_wrong_50 (by decide) ?_
                refine lv_iadd hx hb d_MenuScreensModel_wrong_51 ?_
                refine mm_put C X M 8 p_12_136_13 (upd x2 8 (i8 + 1)) y2 rfl rfl rfl (by decide) d_MenuScreensModel_wrong_52 (fun h H locs X M => ?_)
                refine lv_goto (tgt := 20) hx hb d_MenuScreensModel_wrong_55 (by decide) ?_
                exact ih_lpX (k + 1) (i8 + 1) ls _ _ _ (by rw [e8]; exact nI_1 k) (by omega) (by omega) ((lnE_s hlt2 (by rw [← hf]; exact c9)).symm.trans hs) (by omega) X M (lv_sub hl [0, 1, 2] rfl)
        exact lpX (size - b0 + 1) b0 i2 ls _ _ _ e2 (Nat.le_refl _) (by omega) hE9.symm (Nat.lt_succ_self _) X M (lv_sub hl [1, 0, 2] rfl)
  exact lpW (size + 1 - 0 + 1) (size + 1) 0 0 0 0 0 0 x y A B 0 0 ls _ _ _ rfl rfl (by omega) (by omega) (by omega) (fun _ _ _ _ _ _ _ _ _ => rfl) (fun _ _ => rfl) z12 z20 z28 z39 (⟨Nat.zero_le _, Nat.zero_le _, Nat.le_refl _, rfl, fun v h1 h2 => by have : v ≤ 0 := h2; omega, fun v h1 h2 => by have : v ≤ 0 := h2; omega, hkey, fun p hp => absurd hp (Nat.not_lt_zero _), fun p hp => absurd hp (Nat.not_lt_zero _), hsm⟩) (⟨fun _ _ => rfl, rfl⟩) hR9.symm (Nat.lt_succ_self _) X M (lv_sub hl [2, 1, 0] rfl)
