theorem d_MenuScreensModel_atHand_0 : decode prog_13_method_37_code 0 = .ok (.iconst (-1), 1) := by decide +kernel
theorem d_MenuScreensModel_atHand_1 : decode prog_13_method_37_code 1 = .ok (.istore_n 1, 1) := by decide +kernel
theorem d_MenuScreensModel_atHand_2 : decode prog_13_method_37_code 2 = .ok (.iconst 0, 1) := by decide +kernel
theorem d_MenuScreensModel_atHand_3 : decode prog_13_method_37_code 3 = .ok (.istore_n 2, 1) := by decide +kernel
theorem d_MenuScreensModel_atHand_4 : decode prog_13_method_37_code 4 = .ok (.iconst 1, 1) := by decide +kernel
theorem d_MenuScreensModel_atHand_5 : decode prog_13_method_37_code 5 = .ok (.istore_n 3, 1) := by decide +kernel
theorem d_MenuScreensModel_atHand_6 : decode prog_13_method_37_code 6 = .ok (.iload_n 3, 1) := by decide +kernel
theorem d_MenuScreensModel_atHand_7 : decode prog_13_method_37_code 7 = .ok (.aload_n 0, 1) := by decide +kernel
theorem d_MenuScreensModel_atHand_8 : decode prog_13_method_37_code 8 = .ok (.getfield 276, 3) := by decide +kernel
theorem d_MenuScreensModel_atHand_11 : decode prog_13_method_37_code 11 = .ok (.if_icmp .gt 56, 3) := by decide +kernel
theorem d_MenuScreensModel_atHand_14 : decode prog_13_method_37_code 14 = .ok (.aload_n 0, 1) := by decide +kernel
theorem d_MenuScreensModel_atHand_15 : decode prog_13_method_37_code 15 = .ok (.getfield 114, 3) := by decide +kernel
theorem d_MenuScreensModel_atHand_18 : decode prog_13_method_37_code 18 = .ok (.iload_n 3, 1) := by decide +kernel
theorem d_MenuScreensModel_atHand_19 : decode prog_13_method_37_code 19 = .ok (.baload, 1) := by decide +kernel
theorem d_MenuScreensModel_atHand_20 : decode prog_13_method_37_code 20 = .ok (.ifCond .ne 41, 3) := by decide +kernel
theorem d_MenuScreensModel_atHand_23 : decode prog_13_method_37_code 23 = .ok (.aload_n 0, 1) := by decide +kernel
theorem d_MenuScreensModel_atHand_24 : decode prog_13_method_37_code 24 = .ok (.getfield 108, 3) := by decide +kernel
theorem d_MenuScreensModel_atHand_27 : decode prog_13_method_37_code 27 = .ok (.iload_n 3, 1) := by decide +kernel
theorem d_MenuScreensModel_atHand_28 : decode prog_13_method_37_code 28 = .ok (.iaload, 1) := by decide +kernel
theorem d_MenuScreensModel_atHand_29 : decode prog_13_method_37_code 29 = .ok (.iload_n 1, 1) := by decide +kernel
theorem d_MenuScreensModel_atHand_30 : decode prog_13_method_37_code 30 = .ok (.if_icmp .ge 6, 3) := by decide +kernel
theorem d_MenuScreensModel_atHand_33 : decode prog_13_method_37_code 33 = .ok (.goto 28, 3) := by decide +kernel
theorem d_MenuScreensModel_atHand_36 : decode prog_13_method_37_code 36 = .ok (.aload_n 0, 1) := by decide +kernel
theorem d_MenuScreensModel_atHand_37 : decode prog_13_method_37_code 37 = .ok (.getfield 108, 3) := by decide +kernel
theorem d_MenuScreensModel_atHand_40 : decode prog_13_method_37_code 40 = .ok (.iload_n 3, 1) := by decide +kernel
theorem d_MenuScreensModel_atHand_41 : decode prog_13_method_37_code 41 = .ok (.iaload, 1) := by decide +kernel
theorem d_MenuScreensModel_atHand_42 : decode prog_13_method_37_code 42 = .ok (.iload_n 1, 1) := by decide +kernel
theorem d_MenuScreensModel_atHand_43 : decode prog_13_method_37_code 43 = .ok (.if_icmp .ne 9, 3) := by decide +kernel
theorem d_MenuScreensModel_atHand_46 : decode prog_13_method_37_code 46 = .ok (.iload_n 2, 1) := by decide +kernel
theorem d_MenuScreensModel_atHand_47 : decode prog_13_method_37_code 47 = .ok (.iconst 1, 1) := by decide +kernel
theorem d_MenuScreensModel_atHand_48 : decode prog_13_method_37_code 48 = .ok (.iadd, 1) := by decide +kernel
theorem d_MenuScreensModel_atHand_49 : decode prog_13_method_37_code 49 = .ok (.goto 4, 3) := by decide +kernel
theorem d_MenuScreensModel_atHand_52 : decode prog_13_method_37_code 52 = .ok (.iconst 1, 1) := by decide +kernel
theorem d_MenuScreensModel_atHand_53 : decode prog_13_method_37_code 53 = .ok (.istore_n 2, 1) := by decide +kernel
theorem d_MenuScreensModel_atHand_54 : decode prog_13_method_37_code 54 = .ok (.aload_n 0, 1) := by decide +kernel
theorem d_MenuScreensModel_atHand_55 : decode prog_13_method_37_code 55 = .ok (.getfield 108, 3) := by decide +kernel
theorem d_MenuScreensModel_atHand_58 : decode prog_13_method_37_code 58 = .ok (.iload_n 3, 1) := by decide +kernel
theorem d_MenuScreensModel_atHand_59 : decode prog_13_method_37_code 59 = .ok (.iaload, 1) := by decide +kernel
theorem d_MenuScreensModel_atHand_60 : decode prog_13_method_37_code 60 = .ok (.istore_n 1, 1) := by decide +kernel
theorem d_MenuScreensModel_atHand_61 : decode prog_13_method_37_code 61 = .ok (.iinc 3 1, 3) := by decide +kernel
theorem d_MenuScreensModel_atHand_64 : decode prog_13_method_37_code 64 = .ok (.goto (-58), 3) := by decide +kernel
theorem d_MenuScreensModel_atHand_67 : decode prog_13_method_37_code 67 = .ok (.iconst 1, 1) := by decide +kernel
theorem d_MenuScreensModel_atHand_68 : decode prog_13_method_37_code 68 = .ok (.istore_n 3, 1) := by decide +kernel
theorem d_MenuScreensModel_atHand_69 : decode prog_13_method_37_code 69 = .ok (.iload_n 3, 1) := by decide +kernel
theorem d_MenuScreensModel_atHand_70 : decode prog_13_method_37_code 70 = .ok (.aload_n 0, 1) := by decide +kernel
theorem d_MenuScreensModel_atHand_71 : decode prog_13_method_37_code 71 = .ok (.getfield 276, 3) := by decide +kernel
theorem d_MenuScreensModel_atHand_74 : decode prog_13_method_37_code 74 = .ok (.if_icmp .gt 52, 3) := by decide +kernel
theorem d_MenuScreensModel_atHand_77 : decode prog_13_method_37_code 77 = .ok (.aload_n 0, 1) := by decide +kernel
theorem d_MenuScreensModel_atHand_78 : decode prog_13_method_37_code 78 = .ok (.getfield 114, 3) := by decide +kernel
theorem d_MenuScreensModel_atHand_81 : decode prog_13_method_37_code 81 = .ok (.iload_n 3, 1) := by decide +kernel
theorem d_MenuScreensModel_atHand_82 : decode prog_13_method_37_code 82 = .ok (.baload, 1) := by decide +kernel
theorem d_MenuScreensModel_atHand_83 : decode prog_13_method_37_code 83 = .ok (.ifCond .ne 37, 3) := by decide +kernel
theorem d_MenuScreensModel_atHand_86 : decode prog_13_method_37_code 86 = .ok (.aload_n 0, 1) := by decide +kernel
theorem d_MenuScreensModel_atHand_87 : decode prog_13_method_37_code 87 = .ok (.getfield 108, 3) := by decide +kernel
theorem d_MenuScreensModel_atHand_90 : decode prog_13_method_37_code 90 = .ok (.iload_n 3, 1) := by decide +kernel
theorem d_MenuScreensModel_atHand_91 : decode prog_13_method_37_code 91 = .ok (.iaload, 1) := by decide +kernel
theorem d_MenuScreensModel_atHand_92 : decode prog_13_method_37_code 92 = .ok (.iload_n 1, 1) := by decide +kernel
theorem d_MenuScreensModel_atHand_93 : decode prog_13_method_37_code 93 = .ok (.if_icmp .ne 27, 3) := by decide +kernel
theorem d_MenuScreensModel_atHand_96 : decode prog_13_method_37_code 96 = .ok (.aload_n 0, 1) := by decide +kernel
theorem d_MenuScreensModel_atHand_97 : decode prog_13_method_37_code 97 = .ok (.iload_n 3, 1) := by decide +kernel
theorem d_MenuScreensModel_atHand_98 : decode prog_13_method_37_code 98 = .ok (.iconst 1, 1) := by decide +kernel
theorem d_MenuScreensModel_atHand_99 : decode prog_13_method_37_code 99 = .ok (.invokevirtual 279, 3) := by decide +kernel
theorem d_MenuScreensModel_atHand_102 : decode prog_13_method_37_code 102 = .ok (.i2l, 1) := by decide +kernel
theorem d_MenuScreensModel_atHand_103 : decode prog_13_method_37_code 103 = .ok (.aload_n 0, 1) := by decide +kernel
theorem d_MenuScreensModel_atHand_104 : decode prog_13_method_37_code 104 = .ok (.getfield 273, 3) := by decide +kernel
theorem d_MenuScreensModel_atHand_107 : decode prog_13_method_37_code 107 = .ok (.ldc2_w 156, 3) := by decide +kernel
theorem d_MenuScreensModel_atHand_110 : decode prog_13_method_37_code 110 = .ok (.ldiv, 1) := by decide +kernel
theorem d_MenuScreensModel_atHand_111 : decode prog_13_method_37_code 111 = .ok (.iload_n 2, 1) := by decide +kernel
theorem d_MenuScreensModel_atHand_112 : decode prog_13_method_37_code 112 = .ok (.i2l, 1) := by decide +kernel
theorem d_MenuScreensModel_atHand_113 : decode prog_13_method_37_code 113 = .ok (.lrem, 1) := by decide +kernel
theorem d_MenuScreensModel_atHand_114 : decode prog_13_method_37_code 114 = .ok (.lcmp, 1) := by decide +kernel
theorem d_MenuScreensModel_atHand_115 : decode prog_13_method_37_code 115 = .ok (.ifCond .ne 5, 3) := by decide +kernel
theorem d_MenuScreensModel_atHand_118 : decode prog_13_method_37_code 118 = .ok (.iload_n 3, 1) := by decide +kernel
theorem d_MenuScreensModel_atHand_119 : decode prog_13_method_37_code 119 = .ok (.ireturn, 1) := by decide +kernel
theorem d_MenuScreensModel_atHand_120 : decode prog_13_method_37_code 120 = .ok (.iinc 3 1, 3) := by decide +kernel
theorem d_MenuScreensModel_atHand_123 : decode prog_13_method_37_code 123 = .ok (.goto (-54), 3) := by decide +kernel
theorem d_MenuScreensModel_atHand_126 : decode prog_13_method_37_code 126 = .ok (.iconst 0, 1) := by decide +kernel
theorem d_MenuScreensModel_atHand_127 : decode prog_13_method_37_code 127 = .ok (.ireturn, 1) := by decide +kernel
set_option maxRecDepth 100000 in
set_option maxHeartbeats 4000000 in
theorem cm_MenuScreensModel_atHand {l : Launch} {S0 : State} {b : Nat} {D : va_G} {dT : Nat → ClassId} (hE : vEnv S0 b D dT) {h0 : vH} {a : Nat} {ar : Nat → Nat} {x : Nat → Int32} {y : Nat → Int64} {A : Nat → Nat → Int32} {B : Nat → Nat → Int64} (M : MV S0 dT h0 a ar x y A B) {n la : Nat} (hn : x 50 = nI n) (hn2 : n ≤ 200) (hla : y 54 = lN la) (hla2 : la < 2 ^ 63) (hmono : ∀ i j, 1 ≤ i → i ≤ j → j ≤ n → B 52 i ≤ B 52 j) (hr0 : ∀ k, 1 ≤ k → k ≤ n → 0 ≤ A 51 k) : vMi l S0 D vcl GT y_MenuScreensModel_atHand prog_13_method_37_code 4 (some .int) 1 30 0 0 [.ref a] h0 (fun r h' => h' = h0 ∧ ∃ W0, r = nI W0 ∧ W0 ≤ n ∧ (W0 = 0 → ∀ k, 1 ≤ k → k ≤ n → ¬ A 53 k = 0) ∧ (0 < W0 → A 53 W0 = 0 ∧ ∀ k, 1 ≤ k → k ≤ n → A 53 k = 0 → A 51 k ≤ A 51 W0)) := by
  unfold vMi
  refine vM_ofQ hE.1 (by decide) (Nat.le_of_ble_eq_true rfl) (fun p e s m args below meth c ls Q hQ C hr hlk hnm X hl => ?_)
  have C : vC p s m _ c _ _ "MenuScreensModel" GT D vcl (vty dT) := C
  have hx := C.1.1
  have hb := C.1.2.1
  replace M := MR.of M
  obtain ⟨H, eH⟩ : ∃ z, z = s.heap := ⟨_, rfl⟩
  obtain ⟨locs, elocs⟩ : ∃ z : List Loc, z = [] := ⟨_, rfl⟩
  rw [← eH, ← elocs] at X
  rw [← eH, ← elocs]
  clear eH elocs
  have hl : lv_has ls 4 [(0, .ref a)] := hl
  refine lv_iconst (v := (-1)) hx hb d_MenuScreensModel_atHand_0 (by decide) ?_
  refine lv_istore_n (lv' := [(1, .int (-1)), (0, .ref a)]) hx hb d_MenuScreensModel_atHand_1 rfl hl (by decide) rfl (fun ls hl => ?_)
  refine lv_iconst (v := 0) hx hb d_MenuScreensModel_atHand_2 (by decide) ?_
  refine lv_istore_n (lv' := [(2, .int 0), (1, .int (-1)), (0, .ref a)]) hx hb d_MenuScreensModel_atHand_3 rfl hl (by decide) rfl (fun ls hl => ?_)
  refine lv_iconst (v := 1) hx hb d_MenuScreensModel_atHand_4 (by decide) ?_
  refine lv_istore_n (lv' := [(3, .int 1), (2, .int 0), (1, .int (-1)), (0, .ref a)]) hx hb d_MenuScreensModel_atHand_5 rfl hl (by decide) rfl (fun ls hl => ?_)
  have lp : ∀ (n_lp : Nat) (k : Nat) (mo : Int32) (v : Int32) (i : Int32) (ls : Array Slot), (i = nI (k + 1)) → (k ≤ n) → (v = nI (cnt (fun j => decide (A 53 (j + 1) = 0) && decide (A 51 (j + 1) = mo)) k)) → (∀ j, 1 ≤ j → j ≤ k → A 53 j = 0 → A 51 j ≤ mo) → ((mo = -1 ∧ ∀ j, 1 ≤ j → j ≤ k → ¬ A 53 j = 0) ∨ (0 ≤ mo ∧ ∃ j, 1 ≤ j ∧ j ≤ k ∧ A 53 j = 0 ∧ A 51 j = mo)) → (n - k) < n_lp → lv_has ls 4 [(0, .ref a), (1, .int mo), (2, .int v), (3, .int i)] → W p l e (vRm 1 30 0 0) s m args below meth c H locs 0 0 Q (F0 m 6 ls []) := by
    intro n_lp
    induction n_lp with
    | zero => intros; exact absurd (by assumption) (Nat.not_lt_zero _)
    | succ n_lp ih_lp =>
      intro k mo v i ls ei hk ev hm hx0 hmu_lp hl
      refine lv_iload_n hx hb d_MenuScreensModel_atHand_6 rfl (lv_at hl 3 rfl) ?_
      refine lv_aload_n hx hb d_MenuScreensModel_atHand_7 rfl (lv_at hl 0 rfl) ?_
      refine mm_get C X M 50 f_12_276_13 (.int (x 50)) rfl d_MenuScreensModel_atHand_8 ?_
      refine lv_icmp_gt (tgt := 67) hx hb d_MenuScreensModel_atHand_11 (by decide) (fun c1 => ?_) (fun c1 => ?_)
      · skip
        have hkn : k = n := by
          have := (nI_ltI (a := n) (b := k + 1) (by omega) (by omega)).mp (by rw [← ei, ← hn]; exact c1)
          omega
        rw [hkn] at ev hm hx0
        obtain ⟨cc0, hcc0⟩ : ∃ z, z = cnt (fun j => decide (A 53 (j + 1) = 0) && decide (A 51 (j + 1) = mo)) n := ⟨_, rfl⟩
        rw [← hcc0] at ev
        have hcn : cc0 ≤ n := by rw [hcc0]; exact cnt_le _ _
        refine lv_iconst (v := 1) hx hb d_MenuScreensModel_atHand_67 (by decide) ?_
        refine lv_istore_n (lv' := [(3, .int 1), (0, .ref a), (1, .int mo), (2, .int v)]) hx hb d_MenuScreensModel_atHand_68 rfl hl (by decide) rfl (fun ls hl => ?_)
        have lp2 : ∀ (n_lp2 : Nat) (k : Nat) (i : Int32) (ls : Array Slot) (H : Heap) (locs : List Loc), (i = nI (k + 1)) → (k ≤ n) → (∀ j, 1 ≤ j → j ≤ k → A 53 j = 0 → A 51 j = mo → befN (A 51) (B 52) (A 53) n j 1 ≠ la / 10 % cc0) → (n - k) < n_lp2 → vO S0 D vcl h0 s H locs → lv_has ls 4 [(0, .ref a), (1, .int mo), (2, .int v), (3, .int i)] → W p l e (vRm 1 30 0 0) s m args below meth c H locs 0 0 Q (F0 m 69 ls []) := by
          intro n_lp2
          induction n_lp2 with
          | zero => intros; exact absurd (by assumption) (Nat.not_lt_zero _)
          | succ n_lp2 ih_lp2 =>
            intro k i ls H locs ei hk hnone hmu_lp2 X hl
            refine lv_iload_n hx hb d_MenuScreensModel_atHand_69 rfl (lv_at hl 3 rfl) ?_
            refine lv_aload_n hx hb d_MenuScreensModel_atHand_70 rfl (lv_at hl 0 rfl) ?_
            refine mm_get C X M 50 f_12_276_13 (.int (x 50)) rfl d_MenuScreensModel_atHand_71 ?_
            refine lv_icmp_gt (tgt := 126) hx hb d_MenuScreensModel_atHand_74 (by decide) (fun c2 => ?_) (fun c2 => ?_)
            · skip
              refine lv_iconst (v := 0) hx hb d_MenuScreensModel_atHand_126 (by decide) ?_
              exact mq_iret hQ C X hr rfl hlk (⟨rfl, 0, rfl, by omega, fun _ => by
                  have hkn2 : k = n := by
                    have := (nI_ltI (a := n) (b := k + 1) (by omega) (by omega)).mp (by rw [← ei, ← hn]; exact c2)
                    omega
                  rcases hx0 with ⟨z1, z2⟩ | ⟨z1, j, z2, z3, z4, z5⟩
                  · exact z2
                  · exfalso
                    have hc0 : 0 < cc0 := by rw [hcc0]; exact cnt_pos n (show j - 1 < n by omega) (by show (decide (A 53 (j - 1 + 1) = 0) && decide (A 51 (j - 1 + 1) = mo)) = true; rw [show j - 1 + 1 = j by omega, decide_eq_true z4, decide_eq_true z5]; rfl)
                    obtain ⟨q, hq1, hq2, hq3⟩ := cnt_hit n (show la / 10 % cc0 < cnt (fun j => decide (A 53 (j + 1) = 0) && decide (A 51 (j + 1) = mo)) n by rw [← hcc0]; exact Nat.mod_lt _ hc0)
                    have hq2' : (decide (A 53 (q + 1) = 0) && decide (A 51 (q + 1) = mo)) = true := hq2
                    rw [Bool.and_eq_true, decide_eq_true_eq, decide_eq_true_eq] at hq2'
                    refine hnone (q + 1) (by omega) (by omega) hq2'.1 hq2'.2 ?_
                    rw [befN_own (by omega) (by omega) hmono, hq2'.2]
                    exact hq3, fun z => absurd z (by omega)⟩) (Nat.le_refl _) (Nat.le_refl _) d_MenuScreensModel_atHand_127
            · skip
              have hkn1 : k + 1 ≤ n := by
                rcases Nat.lt_or_ge n (k + 1) with q | q
                · exact absurd (by rw [hn, ei]; exact nI_lt q (by omega)) c2
                · exact q
              refine lv_aload_n hx hb d_MenuScreensModel_atHand_77 rfl (lv_at hl 0 rfl) ?_
              refine mm_get C X M 53 f_12_114_13 (.ref (ar 53)) rfl d_MenuScreensModel_atHand_78 ?_
              refine lv_iload_n hx hb d_MenuScreensModel_atHand_81 rfl (lv_at hl 3 rfl) ?_
              refine mm_zald C X M 53 201 rfl (A 53) rfl (by decide) (k + 1) ei (by omega) d_MenuScreensModel_atHand_82 ?_
              refine lv_if_ne (tgt := 120) hx hb d_MenuScreensModel_atHand_83 (by decide) (fun c3 => ?_) (fun c3 => ?_)
              · skip
                refine lv_iinc (v := (i + 1)) (lv' := [(3, .int (i + 1)), (0, .ref a), (1, .int mo), (2, .int v)]) hx hb d_MenuScreensModel_atHand_120 hl (k := 3) rfl rfl (by decide) rfl (fun ls hl => ?_)
                refine lv_goto (tgt := 69) hx hb d_MenuScreensModel_atHand_123 (by decide) ?_
                exact ih_lp2 (k + 1) (i + 1) ls _ _ (by rw [ei]; exact nI_1 _) (by omega) (fun j h1 h2 => by
                  rcases Nat.eq_or_lt_of_le h2 with q | q
                  · subst q; intro z; exact absurd z c3
                  · exact hnone j h1 (by omega)) (by omega) X (lv_sub hl [1, 2, 3, 0] rfl)
              · skip
                refine lv_aload_n hx hb d_MenuScreensModel_atHand_86 rfl (lv_at hl 0 rfl) ?_
                refine mm_get C X M 51 f_12_108_13 (.ref (ar 51)) rfl d_MenuScreensModel_atHand_87 ?_
                refine lv_iload_n hx hb d_MenuScreensModel_atHand_90 rfl (lv_at hl 3 rfl) ?_
                refine mm_iald C X M 51 201 rfl (A 51) rfl (by decide) (k + 1) ei (by omega) d_MenuScreensModel_atHand_91 ?_
                refine lv_iload_n hx hb d_MenuScreensModel_atHand_92 rfl (lv_at hl 1 rfl) ?_
                refine lv_icmp_ne (tgt := 120) hx hb d_MenuScreensModel_atHand_93 (by decide) (fun c4 => ?_) (fun c4 => ?_)
                · skip
                  refine lv_iinc (v := (i + 1)) (lv' := [(3, .int (i + 1)), (0, .ref a), (1, .int mo), (2, .int v)]) hx hb d_MenuScreensModel_atHand_120 hl (k := 3) rfl rfl (by decide) rfl (fun ls hl => ?_)
                  refine lv_goto (tgt := 69) hx hb d_MenuScreensModel_atHand_123 (by decide) ?_
                  exact ih_lp2 (k + 1) (i + 1) ls _ _ (by rw [ei]; exact nI_1 _) (by omega) (fun j h1 h2 => by
                    rcases Nat.eq_or_lt_of_le h2 with q | q
                    · subst q; intro _ z; exact absurd z c4
                    · exact hnone j h1 (by omega)) (by omega) X (lv_sub hl [1, 2, 3, 0] rfl)
                · skip
                  refine lv_aload_n hx hb d_MenuScreensModel_atHand_96 rfl (lv_at hl 0 rfl) ?_
                  refine lv_iload_n hx hb d_MenuScreensModel_atHand_97 rfl (lv_at hl 3 rfl) ?_
                  refine lv_iconst (v := 1) hx hb d_MenuScreensModel_atHand_98 (by decide) ?_
                  have hc0 : 0 < cc0 := by rw [hcc0]; exact cnt_pos n (show k < n by omega) (by show (decide (A 53 (k + 1) = 0) && decide (A 51 (k + 1) = mo)) = true; rw [decide_eq_true c3, decide_eq_true c4]; rfl)
                  refine mv_bi X (mv_rV (rest := []) (As := [.int i, .int 1]) gt_good C X k_12_279 (cm_MenuScreensModel_before hE M.1 _ _ (n := n) (w0 := k + 1) hn hn2 ei (by omega)) M.1.1 rfl rfl ⟨by decide, by decide⟩ rfl hl.1 rfl (Nat.le_of_ble_eq_true rfl) d_MenuScreensModel_atHand_99 ⟨Nat.le_refl _, Nat.le_refl _⟩) (fun r5 hN H locs hp X => ?_)
                  obtain ⟨ehr5, er5⟩ := hp
                  rw [ehr5] at X
                  have hbn : befN (A 51) (B 52) (A 53) n (k + 1) 1 ≤ n := cnt_le _ _
                  have eb0 : (r5 : Int32).toInt64 = lN (befN (A 51) (B 52) (A 53) n (k + 1) 1) := by rw [er5]; exact nI_l (by omega)
                  have ed0 : y 54 / 10 = lN (la / 10) := by rw [hla]; exact pk_lDiv (by omega) (by decide) (by decide)
                  have ev0 : (v : Int32).toInt64 = lN cc0 := by rw [ev]; exact nI_l (by omega)
                  have er0 : y 54 / 10 - y 54 / 10 / (v : Int32).toInt64 * (v : Int32).toInt64 = lN (la / 10 % cc0) := by rw [ed0, ev0]; exact pk_lRem (by omega) hc0 (by omega)
                  refine lv_i2l (v := (r5 : Int32).toInt64) hx hb d_MenuScreensModel_atHand_102 rfl ?_
                  refine lv_aload_n hx hb d_MenuScreensModel_atHand_103 rfl (lv_at hl 0 rfl) ?_
                  refine mm_get C X M 54 f_12_273_13 (.long (y 54)) rfl d_MenuScreensModel_atHand_104 ?_
                  refine lv_ldc2 (v := 10) hx hb C.1.2.2.2.1 (C.1.2.2.2.2 _ (gt_6 22 (by decide +kernel) rfl)) d_MenuScreensModel_atHand_107 ?_
                  refine lv_ldiv hx hb d_MenuScreensModel_atHand_110 (by decide) ?_
                  refine lv_iload_n hx hb d_MenuScreensModel_atHand_111 rfl (lv_at hl 2 rfl) ?_
                  refine lv_i2l (v := (v : Int32).toInt64) hx hb d_MenuScreensModel_atHand_112 rfl ?_
                  refine lv_lrem hx hb d_MenuScreensModel_atHand_113 (by rw [ev0, ← lN_0]; intro z; have := (pk_lEQ (by omega) (by decide)).mp z; omega) ?_
                  refine W.lcmp hx hb d_MenuScreensModel_atHand_114 ?_
                  refine lv_if_ne (tgt := 120) hx hb d_MenuScreensModel_atHand_115 (by decide) (fun c6 => ?_) (fun c6 => ?_)
                  · skip
                    refine lv_iinc (v := (i + 1)) (lv' := [(3, .int (i + 1)), (0, .ref a), (1, .int mo), (2, .int v)]) hx hb d_MenuScreensModel_atHand_120 hl (k := 3) rfl rfl (by decide) rfl (fun ls hl => ?_)
                    refine lv_goto (tgt := 69) hx hb d_MenuScreensModel_atHand_123 (by decide) ?_
                    exact ih_lp2 (k + 1) (i + 1) ls _ _ (by rw [ei]; exact nI_1 _) (by omega) (fun j h1 h2 => by
                      rcases Nat.eq_or_lt_of_le h2 with q | q
                      · subst q; intro _ _ z; exact c6 ((lg_cmp_eq _ _).mpr (by rw [eb0, er0, z]))
                      · exact hnone j h1 (by omega)) (by omega) X (lv_sub hl [1, 2, 3, 0] rfl)
                  · skip
                    refine lv_iload_n hx hb d_MenuScreensModel_atHand_118 rfl (lv_at hl 3 rfl) ?_
                    exact mq_iret hQ C X hr rfl hlk (⟨rfl, k + 1, ei, by omega, fun z => by omega, fun _ => ⟨c3, fun j h1 h2 h3 => by rw [c4]; exact hm j h1 h2 h3⟩⟩) (Nat.le_refl _) (Nat.le_refl _) d_MenuScreensModel_atHand_119
        exact lp2 (n - 0 + 1) 0 1 ls _ _ rfl (by omega) (fun j h1 h2 => by omega) (Nat.lt_succ_self _) X (lv_sub hl [1, 2, 3, 0] rfl)
      · skip
        have hkn : k + 1 ≤ n := by
          rcases Nat.lt_or_ge n (k + 1) with q | q
          · exact absurd (by rw [hn, ei]; exact nI_lt q (by omega)) c1
          · exact q
        refine lv_aload_n hx hb d_MenuScreensModel_atHand_14 rfl (lv_at hl 0 rfl) ?_
        refine mm_get C X M 53 f_12_114_13 (.ref (ar 53)) rfl d_MenuScreensModel_atHand_15 ?_
        refine lv_iload_n hx hb d_MenuScreensModel_atHand_18 rfl (lv_at hl 3 rfl) ?_
        refine mm_zald C X M 53 201 rfl (A 53) rfl (by decide) (k + 1) ei (by omega) d_MenuScreensModel_atHand_19 ?_
        refine lv_if_ne (tgt := 61) hx hb d_MenuScreensModel_atHand_20 (by decide) (fun c7 => ?_) (fun c7 => ?_)
        · skip
          have ev1 : v = nI (cnt (fun j => decide (A 53 (j + 1) = 0) && decide (A 51 (j + 1) = mo)) (k + 1)) := by
            rw [cnt_f (by show (decide (A 53 (k + 1) = 0) && decide (A 51 (k + 1) = mo)) = false; rw [decide_eq_false c7]; rfl)]; exact ev
          have hm1 : ∀ j, 1 ≤ j → j ≤ k + 1 → A 53 j = 0 → A 51 j ≤ mo := fun j h1 h2 => by
            rcases Nat.eq_or_lt_of_le h2 with q | q
            · subst q; intro z; exact absurd z c7
            · exact hm j h1 (by omega)
          have hx1 : (mo = -1 ∧ ∀ j, 1 ≤ j → j ≤ k + 1 → ¬ A 53 j = 0) ∨ (0 ≤ mo ∧ ∃ j, 1 ≤ j ∧ j ≤ k + 1 ∧ A 53 j = 0 ∧ A 51 j = mo) := by
            rcases hx0 with ⟨z1, z2⟩ | ⟨z1, j, z2, z3, z4⟩
            · exact Or.inl ⟨z1, fun j h1 h2 => by
                rcases Nat.eq_or_lt_of_le h2 with q | q
                · subst q; exact c7
                · exact z2 j h1 (by omega)⟩
            · exact Or.inr ⟨z1, j, z2, by omega, z4⟩
          refine lv_iinc (v := (i + 1)) (lv' := [(3, .int (i + 1)), (0, .ref a), (1, .int mo), (2, .int v)]) hx hb d_MenuScreensModel_atHand_61 hl (k := 3) rfl rfl (by decide) rfl (fun ls hl => ?_)
          refine lv_goto (tgt := 6) hx hb d_MenuScreensModel_atHand_64 (by decide) ?_
          exact ih_lp (k + 1) mo v (i + 1) ls  (by rw [ei]; exact nI_1 _) (by omega) ev1 hm1 hx1 (by omega) (lv_sub hl [1, 2, 3, 0] rfl)
        · skip
          refine lv_aload_n hx hb d_MenuScreensModel_atHand_23 rfl (lv_at hl 0 rfl) ?_
          refine mm_get C X M 51 f_12_108_13 (.ref (ar 51)) rfl d_MenuScreensModel_atHand_24 ?_
          refine lv_iload_n hx hb d_MenuScreensModel_atHand_27 rfl (lv_at hl 3 rfl) ?_
          refine mm_iald C X M 51 201 rfl (A 51) rfl (by decide) (k + 1) ei (by omega) d_MenuScreensModel_atHand_28 ?_
          refine lv_iload_n hx hb d_MenuScreensModel_atHand_29 rfl (lv_at hl 1 rfl) ?_
          refine lv_icmp_ge (tgt := 36) hx hb d_MenuScreensModel_atHand_30 (by decide) (fun c8 => ?_) (fun c8 => ?_)
          · skip
            refine lv_aload_n hx hb d_MenuScreensModel_atHand_36 rfl (lv_at hl 0 rfl) ?_
            refine mm_get C X M 51 f_12_108_13 (.ref (ar 51)) rfl d_MenuScreensModel_atHand_37 ?_
            refine lv_iload_n hx hb d_MenuScreensModel_atHand_40 rfl (lv_at hl 3 rfl) ?_
            refine mm_iald C X M 51 201 rfl (A 51) rfl (by decide) (k + 1) ei (by omega) d_MenuScreensModel_atHand_41 ?_
            refine lv_iload_n hx hb d_MenuScreensModel_atHand_42 rfl (lv_at hl 1 rfl) ?_
            refine lv_icmp_ne (tgt := 52) hx hb d_MenuScreensModel_atHand_43 (by decide) (fun c9 => ?_) (fun c9 => ?_)
            · skip
              refine lv_iconst (v := 1) hx hb d_MenuScreensModel_atHand_52 (by decide) ?_
              refine lv_istore_n (lv' := [(2, .int 1), (0, .ref a), (1, .int mo), (3, .int i)]) hx hb d_MenuScreensModel_atHand_53 rfl hl (by decide) rfl (fun ls hl => ?_)
              refine lv_aload_n hx hb d_MenuScreensModel_atHand_54 rfl (lv_at hl 1 rfl) ?_
              refine mm_get C X M 51 f_12_108_13 (.ref (ar 51)) rfl d_MenuScreensModel_atHand_55 ?_
              refine lv_iload_n hx hb d_MenuScreensModel_atHand_58 rfl (lv_at hl 3 rfl) ?_
              refine mm_iald C X M 51 201 rfl (A 51) rfl (by decide) (k + 1) ei (by omega) d_MenuScreensModel_atHand_59 ?_
              refine lv_istore_n (lv' := [(1, .int ((A 51) (k + 1))), (2, .int 1), (0, .ref a), (3, .int i)]) hx hb d_MenuScreensModel_atHand_60 rfl hl (by decide) rfl (fun ls hl => ?_)
              have hgt : mo < A 51 (k + 1) := by
                rcases Int32.lt_or_eq_of_le c8 with z | z
                · exact z
                · exact absurd z.symm c9
              have ev1 : 1 = nI (cnt (fun j => decide (A 53 (j + 1) = 0) && decide (A 51 (j + 1) = ((A 51) (k + 1)))) (k + 1)) := by
                rw [cnt_t (by show (decide (A 53 (k + 1) = 0) && decide (A 51 (k + 1) = A 51 (k + 1))) = true; rw [decide_eq_true c7, decide_eq_true rfl]; rfl), cnt_tail (m := 0) k (by omega) (fun j _ hj => by
                  show (decide (A 53 (j + 1) = 0) && decide (A 51 (j + 1) = A 51 (k + 1))) = false
                  by_cases z : A 53 (j + 1) = 0
                  · rw [decide_eq_false (p := A 51 (j + 1) = A 51 (k + 1)) (fun q => by have := hm (j + 1) (by omega) (by omega) z; rw [q] at this; exact absurd hgt (Int32.not_lt.mpr this)), Bool.and_false]
                  · rw [decide_eq_false z]; rfl)]; rfl
              have hm1 : ∀ j, 1 ≤ j → j ≤ k + 1 → A 53 j = 0 → A 51 j ≤ ((A 51) (k + 1)) := fun j h1 h2 => by
                rcases Nat.eq_or_lt_of_le h2 with q | q
                · subst q; intro _; exact Int32.le_refl _
                · intro z; exact Int32.le_of_lt (Int32.lt_of_le_of_lt (hm j h1 (by omega) z) hgt)
              have hx1 : (((A 51) (k + 1)) = -1 ∧ ∀ j, 1 ≤ j → j ≤ k + 1 → ¬ A 53 j = 0) ∨ (0 ≤ ((A 51) (k + 1)) ∧ ∃ j, 1 ≤ j ∧ j ≤ k + 1 ∧ A 53 j = 0 ∧ A 51 j = ((A 51) (k + 1))) := Or.inr ⟨hr0 (k + 1) (by omega) hkn, k + 1, by omega, Nat.le_refl _, c7, rfl⟩
              refine lv_iinc (v := (i + 1)) (lv' := [(3, .int (i + 1)), (1, .int ((A 51) (k + 1))), (2, .int 1), (0, .ref a)]) hx hb d_MenuScreensModel_atHand_61 hl (k := 3) rfl rfl (by decide) rfl (fun ls hl => ?_)
              refine lv_goto (tgt := 6) hx hb d_MenuScreensModel_atHand_64 (by decide) ?_
              exact ih_lp (k + 1) ((A 51) (k + 1)) 1 (i + 1) ls  (by rw [ei]; exact nI_1 _) (by omega) ev1 hm1 hx1 (by omega) (lv_sub hl [3, 1, 2, 0] rfl)
            · skip
              refine lv_iload_n hx hb d_MenuScreensModel_atHand_46 rfl (lv_at hl 2 rfl) ?_
              refine lv_iconst (v := 1) hx hb d_MenuScreensModel_atHand_47 (by decide) ?_
              refine lv_iadd hx hb d_MenuScreensModel_atHand_48 ?_
              refine lv_goto (tgt := 53) hx hb d_MenuScreensModel_atHand_49 (by decide) ?_
              refine lv_istore_n (lv' := [(2, .int (v + 1)), (0, .ref a), (1, .int mo), (3, .int i)]) hx hb d_MenuScreensModel_atHand_53 rfl hl (by decide) rfl (fun ls hl => ?_)
              refine lv_aload_n hx hb d_MenuScreensModel_atHand_54 rfl (lv_at hl 1 rfl) ?_
              refine mm_get C X M 51 f_12_108_13 (.ref (ar 51)) rfl d_MenuScreensModel_atHand_55 ?_
              refine lv_iload_n hx hb d_MenuScreensModel_atHand_58 rfl (lv_at hl 3 rfl) ?_
              refine mm_iald C X M 51 201 rfl (A 51) rfl (by decide) (k + 1) ei (by omega) d_MenuScreensModel_atHand_59 ?_
              refine lv_istore_n (lv' := [(1, .int ((A 51) (k + 1))), (2, .int (v + 1)), (0, .ref a), (3, .int i)]) hx hb d_MenuScreensModel_atHand_60 rfl hl (by decide) rfl (fun ls hl => ?_)
              have heq : A 51 (k + 1) = mo := c9
              have ev1 : (v + 1) = nI (cnt (fun j => decide (A 53 (j + 1) = 0) && decide (A 51 (j + 1) = ((A 51) (k + 1)))) (k + 1)) := by
                rw [cnt_t (by show (decide (A 53 (k + 1) = 0) && decide (A 51 (k + 1) = A 51 (k + 1))) = true; rw [decide_eq_true c7, decide_eq_true rfl]; rfl), ev, heq]; exact nI_1 _
              have hm1 : ∀ j, 1 ≤ j → j ≤ k + 1 → A 53 j = 0 → A 51 j ≤ ((A 51) (k + 1)) := fun j h1 h2 => by
                rcases Nat.eq_or_lt_of_le h2 with q | q
                · subst q; intro _; exact Int32.le_refl _
                · rw [heq]; exact hm j h1 (by omega)
              have hx1 : (((A 51) (k + 1)) = -1 ∧ ∀ j, 1 ≤ j → j ≤ k + 1 → ¬ A 53 j = 0) ∨ (0 ≤ ((A 51) (k + 1)) ∧ ∃ j, 1 ≤ j ∧ j ≤ k + 1 ∧ A 53 j = 0 ∧ A 51 j = ((A 51) (k + 1))) := Or.inr ⟨hr0 (k + 1) (by omega) hkn, k + 1, by omega, Nat.le_refl _, c7, rfl⟩
              refine lv_iinc (v := (i + 1)) (lv' := [(3, .int (i + 1)), (1, .int ((A 51) (k + 1))), (2, .int (v + 1)), (0, .ref a)]) hx hb d_MenuScreensModel_atHand_61 hl (k := 3) rfl rfl (by decide) rfl (fun ls hl => ?_)
              refine lv_goto (tgt := 6) hx hb d_MenuScreensModel_atHand_64 (by decide) ?_
              exact ih_lp (k + 1) ((A 51) (k + 1)) (v + 1) (i + 1) ls  (by rw [ei]; exact nI_1 _) (by omega) ev1 hm1 hx1 (by omega) (lv_sub hl [3, 1, 2, 0] rfl)
          · skip
            refine lv_goto (tgt := 61) hx hb d_MenuScreensModel_atHand_33 (by decide) ?_
            have hlt : A 51 (k + 1) < mo := Int32.not_le.mp c8
            have ev1 : v = nI (cnt (fun j => decide (A 53 (j + 1) = 0) && decide (A 51 (j + 1) = mo)) (k + 1)) := by
              rw [cnt_f (by show (decide (A 53 (k + 1) = 0) && decide (A 51 (k + 1) = mo)) = false; rw [decide_eq_false (p := A 51 (k + 1) = mo) (fun z => by rw [z] at hlt; exact Int32.lt_irrefl hlt), Bool.and_false])]; exact ev
            have hm1 : ∀ j, 1 ≤ j → j ≤ k + 1 → A 53 j = 0 → A 51 j ≤ mo := fun j h1 h2 => by
              rcases Nat.eq_or_lt_of_le h2 with q | q
              · subst q; intro _; exact Int32.le_of_lt hlt
              · exact hm j h1 (by omega)
            have hx1 : (mo = -1 ∧ ∀ j, 1 ≤ j → j ≤ k + 1 → ¬ A 53 j = 0) ∨ (0 ≤ mo ∧ ∃ j, 1 ≤ j ∧ j ≤ k + 1 ∧ A 53 j = 0 ∧ A 51 j = mo) := by
              rcases hx0 with ⟨z1, z2⟩ | ⟨z1, j, z2, z3, z4⟩
              · exact absurd (hr0 (k + 1) (by omega) hkn) (by rw [z1] at hlt; intro z; exact absurd (Int32.lt_of_lt_of_le hlt (show (-1 : Int32) ≤ 0 by decide)) (Int32.not_lt.mpr z))
              · exact Or.inr ⟨z1, j, z2, by omega, z4⟩
            refine lv_iinc (v := (i + 1)) (lv' := [(3, .int (i + 1)), (0, .ref a), (1, .int mo), (2, .int v)]) hx hb d_MenuScreensModel_atHand_61 hl (k := 3) rfl rfl (by decide) rfl (fun ls hl => ?_)
            refine lv_goto (tgt := 6) hx hb d_MenuScreensModel_atHand_64 (by decide) ?_
            exact ih_lp (k + 1) mo v (i + 1) ls  (by rw [ei]; exact nI_1 _) (by omega) ev1 hm1 hx1 (by omega) (lv_sub hl [1, 2, 3, 0] rfl)
  exact lp (n - 0 + 1) 0 (-1) 0 1 ls  rfl (by omega) rfl (fun j h1 h2 => by omega) (Or.inl ⟨rfl, fun j h1 h2 => by omega⟩) (Nat.lt_succ_self _) (lv_sub hl [3, 2, 1, 0] rfl)
