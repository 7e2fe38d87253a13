theorem d_MenuScreensModel_read_0 : decode prog_13_method_23_code 0 = .ok (.aload_n 0, 1) := by decide +kernel
theorem d_MenuScreensModel_read_1 : decode prog_13_method_23_code 1 = .ok (.iconst 0, 1) := by decide +kernel
theorem d_MenuScreensModel_read_2 : decode prog_13_method_23_code 2 = .ok (.putfield 127, 3) := by decide +kernel
theorem d_MenuScreensModel_read_5 : decode prog_13_method_23_code 5 = .ok (.aload_n 0, 1) := by decide +kernel
theorem d_MenuScreensModel_read_6 : decode prog_13_method_23_code 6 = .ok (.aload_n 0, 1) := by decide +kernel
theorem d_MenuScreensModel_read_7 : decode prog_13_method_23_code 7 = .ok (.getfield 130, 3) := by decide +kernel
theorem d_MenuScreensModel_read_10 : decode prog_13_method_23_code 10 = .ok (.putfield 236, 3) := by decide +kernel
theorem d_MenuScreensModel_read_13 : decode prog_13_method_23_code 13 = .ok (.aload_n 0, 1) := by decide +kernel
theorem d_MenuScreensModel_read_14 : decode prog_13_method_23_code 14 = .ok (.iconst 0, 1) := by decide +kernel
theorem d_MenuScreensModel_read_15 : decode prog_13_method_23_code 15 = .ok (.putfield 130, 3) := by decide +kernel
theorem d_MenuScreensModel_read_18 : decode prog_13_method_23_code 18 = .ok (.iconst 0, 1) := by decide +kernel
theorem d_MenuScreensModel_read_19 : decode prog_13_method_23_code 19 = .ok (.istore_n 1, 1) := by decide +kernel
theorem d_MenuScreensModel_read_20 : decode prog_13_method_23_code 20 = .ok (.iload_n 1, 1) := by decide +kernel
theorem d_MenuScreensModel_read_21 : decode prog_13_method_23_code 21 = .ok (.aload_n 0, 1) := by decide +kernel
theorem d_MenuScreensModel_read_22 : decode prog_13_method_23_code 22 = .ok (.getfield 236, 3) := by decide +kernel
theorem d_MenuScreensModel_read_25 : decode prog_13_method_23_code 25 = .ok (.if_icmp .ge 21, 3) := by decide +kernel
theorem d_MenuScreensModel_read_28 : decode prog_13_method_23_code 28 = .ok (.aload_n 0, 1) := by decide +kernel
theorem d_MenuScreensModel_read_29 : decode prog_13_method_23_code 29 = .ok (.getfield 13, 3) := by decide +kernel
theorem d_MenuScreensModel_read_32 : decode prog_13_method_23_code 32 = .ok (.iload_n 1, 1) := by decide +kernel
theorem d_MenuScreensModel_read_33 : decode prog_13_method_23_code 33 = .ok (.aload_n 0, 1) := by decide +kernel
theorem d_MenuScreensModel_read_34 : decode prog_13_method_23_code 34 = .ok (.getfield 7, 3) := by decide +kernel
theorem d_MenuScreensModel_read_37 : decode prog_13_method_23_code 37 = .ok (.iload_n 1, 1) := by decide +kernel
theorem d_MenuScreensModel_read_38 : decode prog_13_method_23_code 38 = .ok (.iaload, 1) := by decide +kernel
theorem d_MenuScreensModel_read_39 : decode prog_13_method_23_code 39 = .ok (.iastore, 1) := by decide +kernel
theorem d_MenuScreensModel_read_40 : decode prog_13_method_23_code 40 = .ok (.iinc 1 1, 3) := by decide +kernel
theorem d_MenuScreensModel_read_43 : decode prog_13_method_23_code 43 = .ok (.goto (-23), 3) := by decide +kernel
theorem d_MenuScreensModel_read_46 : decode prog_13_method_23_code 46 = .ok (.aload_n 0, 1) := by decide +kernel
theorem d_MenuScreensModel_read_47 : decode prog_13_method_23_code 47 = .ok (.iconst 0, 1) := by decide +kernel
theorem d_MenuScreensModel_read_48 : decode prog_13_method_23_code 48 = .ok (.putfield 162, 3) := by decide +kernel
theorem d_MenuScreensModel_read_51 : decode prog_13_method_23_code 51 = .ok (.aload_n 0, 1) := by decide +kernel
theorem d_MenuScreensModel_read_52 : decode prog_13_method_23_code 52 = .ok (.iconst 0, 1) := by decide +kernel
theorem d_MenuScreensModel_read_53 : decode prog_13_method_23_code 53 = .ok (.putfield 169, 3) := by decide +kernel
theorem d_MenuScreensModel_read_56 : decode prog_13_method_23_code 56 = .ok (.aload_n 0, 1) := by decide +kernel
theorem d_MenuScreensModel_read_57 : decode prog_13_method_23_code 57 = .ok (.iconst 0, 1) := by decide +kernel
theorem d_MenuScreensModel_read_58 : decode prog_13_method_23_code 58 = .ok (.putfield 222, 3) := by decide +kernel
theorem d_MenuScreensModel_read_61 : decode prog_13_method_23_code 61 = .ok (.aload_n 0, 1) := by decide +kernel
theorem d_MenuScreensModel_read_62 : decode prog_13_method_23_code 62 = .ok (.iconst 0, 1) := by decide +kernel
theorem d_MenuScreensModel_read_63 : decode prog_13_method_23_code 63 = .ok (.putfield 227, 3) := by decide +kernel
theorem d_MenuScreensModel_read_66 : decode prog_13_method_23_code 66 = .ok (.aload_n 0, 1) := by decide +kernel
theorem d_MenuScreensModel_read_67 : decode prog_13_method_23_code 67 = .ok (.iconst 0, 1) := by decide +kernel
theorem d_MenuScreensModel_read_68 : decode prog_13_method_23_code 68 = .ok (.putfield 233, 3) := by decide +kernel
theorem d_MenuScreensModel_read_71 : decode prog_13_method_23_code 71 = .ok (.aload_n 0, 1) := by decide +kernel
theorem d_MenuScreensModel_read_72 : decode prog_13_method_23_code 72 = .ok (.iconst 0, 1) := by decide +kernel
theorem d_MenuScreensModel_read_73 : decode prog_13_method_23_code 73 = .ok (.putfield 245, 3) := by decide +kernel
theorem d_MenuScreensModel_read_76 : decode prog_13_method_23_code 76 = .ok (.aload_n 0, 1) := by decide +kernel
theorem d_MenuScreensModel_read_77 : decode prog_13_method_23_code 77 = .ok (.invokevirtual 248, 3) := by decide +kernel
theorem d_MenuScreensModel_read_80 : decode prog_13_method_23_code 80 = .ok (.istore_n 1, 1) := by decide +kernel
theorem d_MenuScreensModel_read_81 : decode prog_13_method_23_code 81 = .ok (.iload_n 1, 1) := by decide +kernel
theorem d_MenuScreensModel_read_82 : decode prog_13_method_23_code 82 = .ok (.ifCond .le 17, 3) := by decide +kernel
theorem d_MenuScreensModel_read_85 : decode prog_13_method_23_code 85 = .ok (.aload_n 0, 1) := by decide +kernel
theorem d_MenuScreensModel_read_86 : decode prog_13_method_23_code 86 = .ok (.iconst 0, 1) := by decide +kernel
theorem d_MenuScreensModel_read_87 : decode prog_13_method_23_code 87 = .ok (.putfield 162, 3) := by decide +kernel
theorem d_MenuScreensModel_read_90 : decode prog_13_method_23_code 90 = .ok (.aload_n 0, 1) := by decide +kernel
theorem d_MenuScreensModel_read_91 : decode prog_13_method_23_code 91 = .ok (.iconst 0, 1) := by decide +kernel
theorem d_MenuScreensModel_read_92 : decode prog_13_method_23_code 92 = .ok (.putfield 169, 3) := by decide +kernel
theorem d_MenuScreensModel_read_95 : decode prog_13_method_23_code 95 = .ok (.iconst (-1), 1) := by decide +kernel
theorem d_MenuScreensModel_read_96 : decode prog_13_method_23_code 96 = .ok (.iload_n 1, 1) := by decide +kernel
theorem d_MenuScreensModel_read_97 : decode prog_13_method_23_code 97 = .ok (.isub, 1) := by decide +kernel
theorem d_MenuScreensModel_read_98 : decode prog_13_method_23_code 98 = .ok (.ireturn, 1) := by decide +kernel
theorem d_MenuScreensModel_read_99 : decode prog_13_method_23_code 99 = .ok (.aload_n 0, 1) := by decide +kernel
theorem d_MenuScreensModel_read_100 : decode prog_13_method_23_code 100 = .ok (.aload_n 0, 1) := by decide +kernel
theorem d_MenuScreensModel_read_101 : decode prog_13_method_23_code 101 = .ok (.getfield 169, 3) := by decide +kernel
theorem d_MenuScreensModel_read_104 : decode prog_13_method_23_code 104 = .ok (.ifCond .le 7, 3) := by decide +kernel
theorem d_MenuScreensModel_read_107 : decode prog_13_method_23_code 107 = .ok (.iconst 1, 1) := by decide +kernel
theorem d_MenuScreensModel_read_108 : decode prog_13_method_23_code 108 = .ok (.goto 4, 3) := by decide +kernel
theorem d_MenuScreensModel_read_111 : decode prog_13_method_23_code 111 = .ok (.iconst 0, 1) := by decide +kernel
theorem d_MenuScreensModel_read_112 : decode prog_13_method_23_code 112 = .ok (.putfield 245, 3) := by decide +kernel
theorem d_MenuScreensModel_read_115 : decode prog_13_method_23_code 115 = .ok (.aload_n 0, 1) := by decide +kernel
theorem d_MenuScreensModel_read_116 : decode prog_13_method_23_code 116 = .ok (.getfield 169, 3) := by decide +kernel
theorem d_MenuScreensModel_read_119 : decode prog_13_method_23_code 119 = .ok (.ireturn, 1) := by decide +kernel
set_option maxRecDepth 100000 in
set_option maxHeartbeats 4000000 in
theorem cm_MenuScreensModel_read {l : Launch} {S0 : State} {b : Nat} {D : va_G} {dT : Nat → ClassId} (hE : vEnv S0 b D dT) {h0 : vH} {a : Nat} {ar : Nat → Nat} {x : Nat → Int32} {y : Nat → Int64} {A : Nat → Nat → Int32} {B : Nat → Nat → Int64} (M : MV S0 dT h0 a ar x y A B) {n0 : Nat} (hn0 : x 3 = nI n0) (hn1 : n0 ≤ 4000) (hkey : keyP A) (hsm : ∀ v, smL (B 18 v)) : vMi l S0 D vcl GT y_MenuScreensModel_read prog_13_method_23_code 2 (some .int) 6 230 0 0 [.ref a] h0 (fun r h' => ∃ x' y' A' B', MR S0 dT h0 h' a ar x' y' A' B' ∧ (∀ k, k ≠ 0 → k ≠ 3 → k ≠ 5 → k ≠ 7 → k ≠ 8 → k ≠ 9 → k ≠ 10 → k ≠ 12 → k ≠ 20 → k ≠ 28 → k ≠ 39 → k ≠ 45 → k ≠ 48 → x' k = x k) ∧ (∀ k, k ≠ 11 → y' k = y k) ∧ ((∀ k, k = 4 ∨ k = 51 ∨ k = 53 ∨ k = 58 → A' k = A k) ∧ B' 52 = B 52) ∧ x' 0 = 0 ∧ x' 3 = 0 ∧ x' 5 = nI n0 ∧ ((∃ n1, rdR A B n0 = (n1, none) ∧ 0 < n1 ∧ n1 ≤ 4001 ∧ r = -1 - nI n1 ∧ x' 12 = 0 ∧ x' 20 = 0 ∧ x' 45 = 0 ∧ x' 48 = 0 ∧ keyP A' ∧ ∀ v, smL (B' 18 v)) ∨ (∃ nv ns np nc A2 B2, rdR A B n0 = (0, some (nv, ns, np, nc, A2, B2)) ∧ PI (rdA A n0 6) (nv, ns, np, nc, A2, B2) 4001 ∧ x' 48 = nI (cnt (fun j => !hEnd (fun s k => ldS A2 ns (10 * s + k)) ns (j + 1)) ns) ∧ B' = B2 ∧ (∃ g, A' = va_up (va_up A2 25 g) 49 (rg (hEnd (fun s k => ldS A2 ns (10 * s + k)) ns) (A2 49) ns)) ∧ (¬ ffS A2 ns (hEnd (fun s k => ldS A2 ns (10 * s + k)) ns) ns ≤ 0 ∧ r = -1 - ffS A2 ns (hEnd (fun s k => ldS A2 ns (10 * s + k)) ns) ns ∧ x' 12 = 0 ∧ x' 20 = 0 ∧ x' 45 = 0 ∨ ¬ 0 < ffS A2 ns (hEnd (fun s k => ldS A2 ns (10 * s + k)) ns) ns ∧ r = nI ns ∧ x' 12 = nI nv ∧ x' 20 = nI ns ∧ x' 28 = nI np ∧ x' 39 = nI nc ∧ x' 45 = (if 0 < ns then nI 1 else nI 0))))) := by
  unfold vMi
  refine vM_ofQ hE.1 (by decide) (Nat.le_of_ble_eq_true rfl) (fun p e s m args below meth c ls Q hQ C hr hlk hnm X hl => ?_)
  have C : vC p s m _ c _ _ "MenuScreensModel" GT D vcl (vty dT) := C
  have hx := C.1.1
  have hb := C.1.2.1
  replace M := MR.of M
  obtain ⟨H, eH⟩ : ∃ z, z = s.heap := ⟨_, rfl⟩
  obtain ⟨locs, elocs⟩ : ∃ z : List Loc, z = [] := ⟨_, rfl⟩
  rw [← eH, ← elocs] at X
  rw [← eH, ← elocs]
  clear eH elocs
  have hl : lv_has ls 2 [(0, .ref a)] := hl
  refine lv_aload_n hx hb d_MenuScreensModel_read_0 rfl (lv_at hl 0 rfl) ?_
  refine lv_iconst (v := 0) hx hb d_MenuScreensModel_read_1 (by decide) ?_
  refine mm_put C X M 0 p_12_127_13 (upd x 0 0) y rfl rfl rfl (by decide) d_MenuScreensModel_read_2 (fun h H locs X M => ?_)
  refine lv_aload_n hx hb d_MenuScreensModel_read_5 rfl (lv_at hl 0 rfl) ?_
  refine lv_aload_n hx hb d_MenuScreensModel_read_6 rfl (lv_at hl 0 rfl) ?_
  refine mm_get C X M 3 f_12_130_13 (.int (x 3)) rfl d_MenuScreensModel_read_7 ?_
  refine mm_put C X M 5 p_12_236_13 (upd (upd x 0 0) 5 (x 3)) y rfl rfl rfl (by decide) d_MenuScreensModel_read_10 (fun h H locs X M => ?_)
  refine lv_aload_n hx hb d_MenuScreensModel_read_13 rfl (lv_at hl 0 rfl) ?_
  refine lv_iconst (v := 0) hx hb d_MenuScreensModel_read_14 (by decide) ?_
  refine mm_put C X M 3 p_12_130_13 (upd (upd (upd x 0 0) 3 0) 5 (x 3)) y rfl rfl rfl (by decide) d_MenuScreensModel_read_15 (fun h H locs X M => ?_)
  refine lv_iconst (v := 0) hx hb d_MenuScreensModel_read_18 (by decide) ?_
  refine lv_istore_n (lv' := [(1, .int 0), (0, .ref a)]) hx hb d_MenuScreensModel_read_19 rfl hl (by decide) rfl (fun ls hl => ?_)
  rw [← va_up_id A 6] at M
  have lp : ∀ (n_lp : Nat) (k : Nat) (i : Int32) (ls : Array Slot) (h : vH) (H : Heap) (locs : List Loc), (i = nI k) → (k ≤ n0) → (n0 - k) < n_lp → vO S0 D vcl h s H locs → MR S0 dT h0 h a ar (upd (upd (upd x 0 0) 3 0) 5 (x 3)) y (va_up A 6 (cpf (A 4) (A 6) k)) B → lv_has ls 2 [(0, .ref a), (1, .int i)] → W p l e (vRm 6 230 0 0) s m args below meth c H locs 0 0 Q (F0 m 20 ls []) := by
    intro n_lp
    induction n_lp with
    | zero => intros; exact absurd (by assumption) (Nat.not_lt_zero _)
    | succ n_lp ih_lp =>
      intro k i ls h H locs ei hk hmu_lp X M hl
      refine lv_iload_n hx hb d_MenuScreensModel_read_20 rfl (lv_at hl 1 rfl) ?_
      refine lv_aload_n hx hb d_MenuScreensModel_read_21 rfl (lv_at hl 0 rfl) ?_
      refine mm_get C X M 5 f_12_236_13 (.int (x 3)) rfl d_MenuScreensModel_read_22 ?_
      refine lv_icmp_ge (tgt := 46) hx hb d_MenuScreensModel_read_25 (by decide) (fun c1 => ?_) (fun c1 => ?_)
      · skip
        have hkn : k = n0 := by
          have := (nI_leI (a := n0) (b := k) (by omega) (by omega)).mp (by rw [← ei, ← hn0]; exact c1)
          omega
        rw [hkn] at M
        refine lv_aload_n hx hb d_MenuScreensModel_read_46 rfl (lv_at hl 0 rfl) ?_
        refine lv_iconst (v := 0) hx hb d_MenuScreensModel_read_47 (by decide) ?_
        refine mm_put C X M 12 p_12_162_13 (upd (upd (upd (upd x 0 0) 3 0) 5 (x 3)) 12 0) y rfl rfl rfl (by decide) d_MenuScreensModel_read_48 (fun h H locs X M => ?_)
        refine lv_aload_n hx hb d_MenuScreensModel_read_51 rfl (lv_at hl 0 rfl) ?_
        refine lv_iconst (v := 0) hx hb d_MenuScreensModel_read_52 (by decide) ?_
        refine mm_put C X M 20 p_12_169_13 (upd (upd (upd (upd (upd x 0 0) 3 0) 5 (x 3)) 12 0) 20 0) y rfl rfl rfl (by decide) d_MenuScreensModel_read_53 (fun h H locs X M => ?_)
        refine lv_aload_n hx hb d_MenuScreensModel_read_56 rfl (lv_at hl 0 rfl) ?_
        refine lv_iconst (v := 0) hx hb d_MenuScreensModel_read_57 (by decide) ?_
        refine mm_put C X M 28 p_12_222_13 (upd (upd (upd (upd (upd (upd x 0 0) 3 0) 5 (x 3)) 12 0) 20 0) 28 0) y rfl rfl rfl (by decide) d_MenuScreensModel_read_58 (fun h H locs X M => ?_)
        refine lv_aload_n hx hb d_MenuScreensModel_read_61 rfl (lv_at hl 0 rfl) ?_
        refine lv_iconst (v := 0) hx hb d_MenuScreensModel_read_62 (by decide) ?_
        refine mm_put C X M 39 p_12_227_13 (upd (upd (upd (upd (upd (upd (upd x 0 0) 3 0) 5 (x 3)) 12 0) 20 0) 28 0) 39 0) y rfl rfl rfl (by decide) d_MenuScreensModel_read_63 (fun h H locs X M => ?_)
        refine lv_aload_n hx hb d_MenuScreensModel_read_66 rfl (lv_at hl 0 rfl) ?_
        refine lv_iconst (v := 0) hx hb d_MenuScreensModel_read_67 (by decide) ?_
        refine mm_put C X M 48 p_12_233_13 (upd (upd (upd (upd (upd (upd (upd (upd x 0 0) 3 0) 5 (x 3)) 12 0) 20 0) 28 0) 39 0) 48 0) y rfl rfl rfl (by decide) d_MenuScreensModel_read_68 (fun h H locs X M => ?_)
        refine lv_aload_n hx hb d_MenuScreensModel_read_71 rfl (lv_at hl 0 rfl) ?_
        refine lv_iconst (v := 0) hx hb d_MenuScreensModel_read_72 (by decide) ?_
        refine mm_put C X M 45 p_12_245_13 (upd (upd (upd (upd (upd (upd (upd (upd (upd x 0 0) 3 0) 5 (x 3)) 12 0) 20 0) 28 0) 39 0) 45 0) 48 0) y rfl rfl rfl (by decide) d_MenuScreensModel_read_73 (fun h H locs X M => ?_)
        refine lv_aload_n hx hb d_MenuScreensModel_read_76 rfl (lv_at hl 0 rfl) ?_
        refine mv_bi X (mv_rV (rest := []) (As := []) gt_good C X k_12_248 (cm_MenuScreensModel_wrong hE M.1 (size := n0) hn0 hn1 rfl rfl rfl rfl rfl (keyP_eq hkey rfl rfl) hsm) M.1.1 rfl rfl ⟨by decide, by decide⟩ rfl hl.1 rfl (Nat.le_of_ble_eq_true rfl) d_MenuScreensModel_read_77 ⟨Nat.le_refl _, Nat.le_refl _⟩) (fun r2 hN H locs hp X => ?_)
        obtain ⟨x3, y3, A3, B3, M1, kx, ky, pk, hc⟩ := hp
        replace M := M.trans M1
        have kx2 : ∀ k, k ≠ 0 → k ≠ 3 → k ≠ 5 → k ≠ 7 → k ≠ 8 → k ≠ 9 → k ≠ 10 → k ≠ 12 → k ≠ 20 → k ≠ 28 → k ≠ 39 → k ≠ 45 → k ≠ 48 → x3 k = x k := fun k q0 q3 q5 q7 q8 q9 q10 q12 q20 q28 q39 q45 q48 => by
          rw [kx k q7 q8 q9 q10 q12 q20 q28 q39 q48]; simp [upd, q0, q3, q5, q12, q20, q28, q39, q45, q48]
        have x33 : x3 3 = 0 := kx 3 (by decide) (by decide) (by decide) (by decide) (by decide) (by decide) (by decide) (by decide) (by decide)
        have x35 : x3 5 = nI n0 := (kx 5 (by decide) (by decide) (by decide) (by decide) (by decide) (by decide) (by decide) (by decide) (by decide)).trans hn0
        have x345 : x3 45 = 0 := kx 45 (by decide) (by decide) (by decide) (by decide) (by decide) (by decide) (by decide) (by decide) (by decide)
        have x30 : x3 0 = 0 := kx 0 (by decide) (by decide) (by decide) (by decide) (by decide) (by decide) (by decide) (by decide) (by decide)
        replace pk : (∀ k, k = 4 ∨ k = 51 ∨ k = 53 ∨ k = 58 → A3 k = A k) ∧ B3 52 = B 52 := ⟨fun k q => by rw [pk.1 k q]; rcases q with rfl | rfl | rfl | rfl <;> rfl, pk.2⟩
        rcases hc with ⟨n1, hR, hn1p, hn1b, er, x348, hk3, hs3⟩ | ⟨nv, ns, np, nc, A2, B2, hR, hI, er, c12, c20, c28, c39, c48, eB, g, eA⟩
        · skip
          refine lv_istore_n (lv' := [(1, .int r2), (0, .ref a)]) hx hb d_MenuScreensModel_read_80 rfl hl (by decide) rfl (fun ls hl => ?_)
          refine lv_iload_n hx hb d_MenuScreensModel_read_81 rfl (lv_at hl 0 rfl) ?_
          refine lv_if_le (tgt := 99) hx hb d_MenuScreensModel_read_82 (by decide) (fun z => absurd z (by rw [er]; exact nI_nle hn1p (by omega))) (fun c3 => ?_)
          refine lv_aload_n hx hb d_MenuScreensModel_read_85 rfl (lv_at hl 1 rfl) ?_
          refine lv_iconst (v := 0) hx hb d_MenuScreensModel_read_86 (by decide) ?_
          refine mm_put C X M 12 p_12_162_13 (upd x3 12 0) y3 rfl rfl rfl (by decide) d_MenuScreensModel_read_87 (fun h H locs X M => ?_)
          refine lv_aload_n hx hb d_MenuScreensModel_read_90 rfl (lv_at hl 1 rfl) ?_
          refine lv_iconst (v := 0) hx hb d_MenuScreensModel_read_91 (by decide) ?_
          refine mm_put C X M 20 p_12_169_13 (upd (upd x3 12 0) 20 0) y3 rfl rfl rfl (by decide) d_MenuScreensModel_read_92 (fun h H locs X M => ?_)
          refine lv_iconst (v := (-1)) hx hb d_MenuScreensModel_read_95 (by decide) ?_
          refine lv_iload_n hx hb d_MenuScreensModel_read_96 rfl (lv_at hl 0 rfl) ?_
          refine lv_isub hx hb d_MenuScreensModel_read_97 ?_
          exact mq_iret hQ C X hr rfl hlk (⟨(upd (upd x3 12 0) 20 0), y3, A3, B3, M, (fun k q0 q3 q5 q7 q8 q9 q10 q12 q20 q28 q39 q45 q48 => by simp [upd, q12, q20, q45]; exact kx2 k q0 q3 q5 q7 q8 q9 q10 q12 q20 q28 q39 q45 q48), ky, pk, x30, x33, x35, Or.inl ⟨n1, hR, hn1p, hn1b, by rw [er], rfl, rfl, x345, x348, hk3, hs3⟩⟩) (Nat.le_refl _) (Nat.le_refl _) d_MenuScreensModel_read_98
        · skip
          refine lv_istore_n (lv' := [(1, .int r2), (0, .ref a)]) hx hb d_MenuScreensModel_read_80 rfl hl (by decide) rfl (fun ls hl => ?_)
          refine lv_iload_n hx hb d_MenuScreensModel_read_81 rfl (lv_at hl 0 rfl) ?_
          refine lv_if_le (tgt := 99) hx hb d_MenuScreensModel_read_82 (by decide) (fun c4 => ?_) (fun c4 => ?_)
          · skip
            refine lv_aload_n hx hb d_MenuScreensModel_read_99 rfl (lv_at hl 1 rfl) ?_
            refine lv_aload_n hx hb d_MenuScreensModel_read_100 rfl (lv_at hl 1 rfl) ?_
            refine mm_get C X M 20 f_12_169_13 (.int (x3 20)) rfl d_MenuScreensModel_read_101 ?_
            refine lv_if_le (tgt := 111) hx hb d_MenuScreensModel_read_104 (by decide) (fun c5 => ?_) (fun c5 => ?_)
            · skip
              refine lv_iconst (v := 0) hx hb d_MenuScreensModel_read_111 (by decide) ?_
              refine mm_put C X M 45 p_12_245_13 (upd x3 45 0) y3 rfl rfl rfl (by decide) d_MenuScreensModel_read_112 (fun h H locs X M => ?_)
              refine lv_aload_n hx hb d_MenuScreensModel_read_115 rfl (lv_at hl 1 rfl) ?_
              refine mm_get C X M 20 f_12_169_13 (.int (x3 20)) rfl d_MenuScreensModel_read_116 ?_
              exact mq_iret hQ C X hr rfl hlk (⟨(upd x3 45 0), y3, A3, B3, M, (fun k q0 q3 q5 q7 q8 q9 q10 q12 q20 q28 q39 q45 q48 => by simp [upd, q12, q20, q45]; exact kx2 k q0 q3 q5 q7 q8 q9 q10 q12 q20 q28 q39 q45 q48), ky, pk, x30, x33, x35, Or.inr ⟨nv, ns, np, nc, A2, B2, hR, hI, c48, eB, ⟨g, eA⟩, Or.inr ⟨by rw [← er]; exact Int32.not_lt.mpr c4, c20, c12, c20, c28, c39, by
                  have : ¬ 0 < ns := fun q => absurd (by rw [← c20]; exact c5) (nI_nle q (by have := hI.2.1; dsimp only at this; omega))
                  rw [if_neg this]; rfl⟩⟩⟩) (Nat.le_refl _) (Nat.le_refl _) d_MenuScreensModel_read_119
            · skip
              refine lv_iconst (v := 1) hx hb d_MenuScreensModel_read_107 (by decide) ?_
              refine lv_goto (tgt := 112) hx hb d_MenuScreensModel_read_108 (by decide) ?_
              refine mm_put C X M 45 p_12_245_13 (upd x3 45 1) y3 rfl rfl rfl (by decide) d_MenuScreensModel_read_112 (fun h H locs X M => ?_)
              refine lv_aload_n hx hb d_MenuScreensModel_read_115 rfl (lv_at hl 1 rfl) ?_
              refine mm_get C X M 20 f_12_169_13 (.int (x3 20)) rfl d_MenuScreensModel_read_116 ?_
              exact mq_iret hQ C X hr rfl hlk (⟨(upd x3 45 1), y3, A3, B3, M, (fun k q0 q3 q5 q7 q8 q9 q10 q12 q20 q28 q39 q45 q48 => by simp [upd, q12, q20, q45]; exact kx2 k q0 q3 q5 q7 q8 q9 q10 q12 q20 q28 q39 q45 q48), ky, pk, x30, x33, x35, Or.inr ⟨nv, ns, np, nc, A2, B2, hR, hI, c48, eB, ⟨g, eA⟩, Or.inr ⟨by rw [← er]; exact Int32.not_lt.mpr c4, c20, c12, c20, c28, c39, by
                  have : 0 < ns := by
                    rcases Nat.eq_zero_or_pos ns with q | q
                    · exact absurd (by rw [c20, q]; decide) c5
                    · exact q
                  rw [if_pos this]; rfl⟩⟩⟩) (Nat.le_refl _) (Nat.le_refl _) d_MenuScreensModel_read_119
          · skip
            refine lv_aload_n hx hb d_MenuScreensModel_read_85 rfl (lv_at hl 1 rfl) ?_
            refine lv_iconst (v := 0) hx hb d_MenuScreensModel_read_86 (by decide) ?_
            refine mm_put C X M 12 p_12_162_13 (upd x3 12 0) y3 rfl rfl rfl (by decide) d_MenuScreensModel_read_87 (fun h H locs X M => ?_)
            refine lv_aload_n hx hb d_MenuScreensModel_read_90 rfl (lv_at hl 1 rfl) ?_
            refine lv_iconst (v := 0) hx hb d_MenuScreensModel_read_91 (by decide) ?_
            refine mm_put C X M 20 p_12_169_13 (upd (upd x3 12 0) 20 0) y3 rfl rfl rfl (by decide) d_MenuScreensModel_read_92 (fun h H locs X M => ?_)
            refine lv_iconst (v := (-1)) hx hb d_MenuScreensModel_read_95 (by decide) ?_
            refine lv_iload_n hx hb d_MenuScreensModel_read_96 rfl (lv_at hl 0 rfl) ?_
            refine lv_isub hx hb d_MenuScreensModel_read_97 ?_
            exact mq_iret hQ C X hr rfl hlk (⟨(upd (upd x3 12 0) 20 0), y3, A3, B3, M, (fun k q0 q3 q5 q7 q8 q9 q10 q12 q20 q28 q39 q45 q48 => by simp [upd, q12, q20, q45]; exact kx2 k q0 q3 q5 q7 q8 q9 q10 q12 q20 q28 q39 q45 q48), ky, pk, x30, x33, x35, Or.inr ⟨nv, ns, np, nc, A2, B2, hR, hI, c48, eB, ⟨g, eA⟩, Or.inl ⟨by rw [← er]; exact c4, by rw [er], rfl, rfl, x345⟩⟩⟩) (Nat.le_refl _) (Nat.le_refl _) d_MenuScreensModel_read_98
      · skip
        have hlt : k < n0 := by
          rcases Nat.lt_or_ge k n0 with q | q
          · exact q
          · exact absurd (by rw [hn0, ei]; exact nI_le q (by omega)) c1
        refine lv_aload_n hx hb d_MenuScreensModel_read_28 rfl (lv_at hl 0 rfl) ?_
        refine mm_get C X M 6 f_12_13_13 (.ref (ar 6)) rfl d_MenuScreensModel_read_29 ?_
        refine lv_iload_n hx hb d_MenuScreensModel_read_32 rfl (lv_at hl 1 rfl) ?_
        refine lv_aload_n hx hb d_MenuScreensModel_read_33 rfl (lv_at hl 0 rfl) ?_
        refine mm_get C X M 4 f_12_7_13 (.ref (ar 4)) rfl d_MenuScreensModel_read_34 ?_
        refine lv_iload_n hx hb d_MenuScreensModel_read_37 rfl (lv_at hl 1 rfl) ?_
        refine mm_iald C X M 4 4000 rfl (A 4) rfl (by decide) k ei (by omega) d_MenuScreensModel_read_38 ?_
        refine mm_iast C X M 6 4000 rfl (cpf (A 4) (A 6) k) rfl (fun _ => rfl) (by decide) k ei (by omega) d_MenuScreensModel_read_39 (fun h H locs X M => ?_)
        rw [bx_uu] at M
        refine lv_iinc (v := (i + 1)) (lv' := [(1, .int (i + 1)), (0, .ref a)]) hx hb d_MenuScreensModel_read_40 hl (k := 1) rfl rfl (by decide) rfl (fun ls hl => ?_)
        refine lv_goto (tgt := 20) hx hb d_MenuScreensModel_read_43 (by decide) ?_
        exact ih_lp (k + 1) (i + 1) ls _ _ _ (by rw [ei]; exact nI_1 k) (by omega) (by omega) X M (lv_sub hl [1, 0] rfl)
  exact lp (n0 - 0 + 1) 0 0 ls _ _ _ rfl (by omega) (Nat.lt_succ_self _) X M (lv_sub hl [1, 0] rfl)
