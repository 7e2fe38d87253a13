theorem d_MenuScreensModel_shown_0 : decode prog_13_method_31_code 0 = .ok (.aload_n 0, 1) := by decide +kernel
theorem d_MenuScreensModel_shown_1 : decode prog_13_method_31_code 1 = .ok (.iconst 0, 1) := by decide +kernel
theorem d_MenuScreensModel_shown_2 : decode prog_13_method_31_code 2 = .ok (.putfield 127, 3) := by decide +kernel
theorem d_MenuScreensModel_shown_5 : decode prog_13_method_31_code 5 = .ok (.iload_n 1, 1) := by decide +kernel
theorem d_MenuScreensModel_shown_6 : decode prog_13_method_31_code 6 = .ok (.ifCond .lt 23, 3) := by decide +kernel
theorem d_MenuScreensModel_shown_9 : decode prog_13_method_31_code 9 = .ok (.iload_n 1, 1) := by decide +kernel
theorem d_MenuScreensModel_shown_10 : decode prog_13_method_31_code 10 = .ok (.aload_n 0, 1) := by decide +kernel
theorem d_MenuScreensModel_shown_11 : decode prog_13_method_31_code 11 = .ok (.getfield 120, 3) := by decide +kernel
theorem d_MenuScreensModel_shown_14 : decode prog_13_method_31_code 14 = .ok (.if_icmp .ge 15, 3) := by decide +kernel
theorem d_MenuScreensModel_shown_17 : decode prog_13_method_31_code 17 = .ok (.iload_n 2, 1) := by decide +kernel
theorem d_MenuScreensModel_shown_18 : decode prog_13_method_31_code 18 = .ok (.ifCond .lt 11, 3) := by decide +kernel
theorem d_MenuScreensModel_shown_21 : decode prog_13_method_31_code 21 = .ok (.iload_n 2, 1) := by decide +kernel
theorem d_MenuScreensModel_shown_22 : decode prog_13_method_31_code 22 = .ok (.aload_n 0, 1) := by decide +kernel
theorem d_MenuScreensModel_shown_23 : decode prog_13_method_31_code 23 = .ok (.getfield 124, 3) := by decide +kernel
theorem d_MenuScreensModel_shown_26 : decode prog_13_method_31_code 26 = .ok (.if_icmp .lt 6, 3) := by decide +kernel
theorem d_MenuScreensModel_shown_29 : decode prog_13_method_31_code 29 = .ok (.bipush (-2), 2) := by decide +kernel
theorem d_MenuScreensModel_shown_31 : decode prog_13_method_31_code 31 = .ok (.ireturn, 1) := by decide +kernel
theorem d_MenuScreensModel_shown_32 : decode prog_13_method_31_code 32 = .ok (.aload_n 0, 1) := by decide +kernel
theorem d_MenuScreensModel_shown_33 : decode prog_13_method_31_code 33 = .ok (.invokevirtual 267, 3) := by decide +kernel
theorem d_MenuScreensModel_shown_36 : decode prog_13_method_31_code 36 = .ok (.istore_n 3, 1) := by decide +kernel
theorem d_MenuScreensModel_shown_37 : decode prog_13_method_31_code 37 = .ok (.iload_n 3, 1) := by decide +kernel
theorem d_MenuScreensModel_shown_38 : decode prog_13_method_31_code 38 = .ok (.ifCond .le 60, 3) := by decide +kernel
theorem d_MenuScreensModel_shown_41 : decode prog_13_method_31_code 41 = .ok (.iload_n 1, 1) := by decide +kernel
theorem d_MenuScreensModel_shown_42 : decode prog_13_method_31_code 42 = .ok (.aload_n 0, 1) := by decide +kernel
theorem d_MenuScreensModel_shown_43 : decode prog_13_method_31_code 43 = .ok (.getfield 120, 3) := by decide +kernel
theorem d_MenuScreensModel_shown_46 : decode prog_13_method_31_code 46 = .ok (.iconst 1, 1) := by decide +kernel
theorem d_MenuScreensModel_shown_47 : decode prog_13_method_31_code 47 = .ok (.isub, 1) := by decide +kernel
theorem d_MenuScreensModel_shown_48 : decode prog_13_method_31_code 48 = .ok (.if_icmp .ne 50, 3) := by decide +kernel
theorem d_MenuScreensModel_shown_51 : decode prog_13_method_31_code 51 = .ok (.iload_n 2, 1) := by decide +kernel
theorem d_MenuScreensModel_shown_52 : decode prog_13_method_31_code 52 = .ok (.iconst 3, 1) := by decide +kernel
theorem d_MenuScreensModel_shown_53 : decode prog_13_method_31_code 53 = .ok (.if_icmp .ge 45, 3) := by decide +kernel
theorem d_MenuScreensModel_shown_56 : decode prog_13_method_31_code 56 = .ok (.iload_n 2, 1) := by decide +kernel
theorem d_MenuScreensModel_shown_57 : decode prog_13_method_31_code 57 = .ok (.ifCond .ne 8, 3) := by decide +kernel
theorem d_MenuScreensModel_shown_60 : decode prog_13_method_31_code 60 = .ok (.bipush 33, 2) := by decide +kernel
theorem d_MenuScreensModel_shown_62 : decode prog_13_method_31_code 62 = .ok (.goto 35, 3) := by decide +kernel
theorem d_MenuScreensModel_shown_65 : decode prog_13_method_31_code 65 = .ok (.iload_n 2, 1) := by decide +kernel
theorem d_MenuScreensModel_shown_66 : decode prog_13_method_31_code 66 = .ok (.iconst 1, 1) := by decide +kernel
theorem d_MenuScreensModel_shown_67 : decode prog_13_method_31_code 67 = .ok (.if_icmp .ne 18, 3) := by decide +kernel
theorem d_MenuScreensModel_shown_70 : decode prog_13_method_31_code 70 = .ok (.bipush 48, 2) := by decide +kernel
theorem d_MenuScreensModel_shown_72 : decode prog_13_method_31_code 72 = .ok (.aload_n 0, 1) := by decide +kernel
theorem d_MenuScreensModel_shown_73 : decode prog_13_method_31_code 73 = .ok (.getfield 108, 3) := by decide +kernel
theorem d_MenuScreensModel_shown_76 : decode prog_13_method_31_code 76 = .ok (.iload_n 3, 1) := by decide +kernel
theorem d_MenuScreensModel_shown_77 : decode prog_13_method_31_code 77 = .ok (.iaload, 1) := by decide +kernel
theorem d_MenuScreensModel_shown_78 : decode prog_13_method_31_code 78 = .ok (.bipush 10, 2) := by decide +kernel
theorem d_MenuScreensModel_shown_80 : decode prog_13_method_31_code 80 = .ok (.idiv, 1) := by decide +kernel
theorem d_MenuScreensModel_shown_81 : decode prog_13_method_31_code 81 = .ok (.iadd, 1) := by decide +kernel
theorem d_MenuScreensModel_shown_82 : decode prog_13_method_31_code 82 = .ok (.goto 15, 3) := by decide +kernel
theorem d_MenuScreensModel_shown_85 : decode prog_13_method_31_code 85 = .ok (.bipush 48, 2) := by decide +kernel
theorem d_MenuScreensModel_shown_87 : decode prog_13_method_31_code 87 = .ok (.aload_n 0, 1) := by decide +kernel
theorem d_MenuScreensModel_shown_88 : decode prog_13_method_31_code 88 = .ok (.getfield 108, 3) := by decide +kernel
theorem d_MenuScreensModel_shown_91 : decode prog_13_method_31_code 91 = .ok (.iload_n 3, 1) := by decide +kernel
theorem d_MenuScreensModel_shown_92 : decode prog_13_method_31_code 92 = .ok (.iaload, 1) := by decide +kernel
theorem d_MenuScreensModel_shown_93 : decode prog_13_method_31_code 93 = .ok (.bipush 10, 2) := by decide +kernel
theorem d_MenuScreensModel_shown_95 : decode prog_13_method_31_code 95 = .ok (.irem, 1) := by decide +kernel
theorem d_MenuScreensModel_shown_96 : decode prog_13_method_31_code 96 = .ok (.iadd, 1) := by decide +kernel
theorem d_MenuScreensModel_shown_97 : decode prog_13_method_31_code 97 = .ok (.ireturn, 1) := by decide +kernel
theorem d_MenuScreensModel_shown_98 : decode prog_13_method_31_code 98 = .ok (.aload_n 0, 1) := by decide +kernel
theorem d_MenuScreensModel_shown_99 : decode prog_13_method_31_code 99 = .ok (.getfield 245, 3) := by decide +kernel
theorem d_MenuScreensModel_shown_102 : decode prog_13_method_31_code 102 = .ok (.ifCond .eq 10, 3) := by decide +kernel
theorem d_MenuScreensModel_shown_105 : decode prog_13_method_31_code 105 = .ok (.aload_n 0, 1) := by decide +kernel
theorem d_MenuScreensModel_shown_106 : decode prog_13_method_31_code 106 = .ok (.invokevirtual 254, 3) := by decide +kernel
theorem d_MenuScreensModel_shown_109 : decode prog_13_method_31_code 109 = .ok (.ifCond .eq 6, 3) := by decide +kernel
theorem d_MenuScreensModel_shown_112 : decode prog_13_method_31_code 112 = .ok (.bipush 32, 2) := by decide +kernel
theorem d_MenuScreensModel_shown_114 : decode prog_13_method_31_code 114 = .ok (.ireturn, 1) := by decide +kernel
theorem d_MenuScreensModel_shown_115 : decode prog_13_method_31_code 115 = .ok (.aload_n 0, 1) := by decide +kernel
theorem d_MenuScreensModel_shown_116 : decode prog_13_method_31_code 116 = .ok (.getfield 222, 3) := by decide +kernel
theorem d_MenuScreensModel_shown_119 : decode prog_13_method_31_code 119 = .ok (.iconst 1, 1) := by decide +kernel
theorem d_MenuScreensModel_shown_120 : decode prog_13_method_31_code 120 = .ok (.isub, 1) := by decide +kernel
theorem d_MenuScreensModel_shown_121 : decode prog_13_method_31_code 121 = .ok (.istore 4, 2) := by decide +kernel
theorem d_MenuScreensModel_shown_123 : decode prog_13_method_31_code 123 = .ok (.iload 4, 2) := by decide +kernel
theorem d_MenuScreensModel_shown_125 : decode prog_13_method_31_code 125 = .ok (.ifCond .lt 27, 3) := by decide +kernel
theorem d_MenuScreensModel_shown_128 : decode prog_13_method_31_code 128 = .ok (.aload_n 0, 1) := by decide +kernel
theorem d_MenuScreensModel_shown_129 : decode prog_13_method_31_code 129 = .ok (.iload 4, 2) := by decide +kernel
theorem d_MenuScreensModel_shown_131 : decode prog_13_method_31_code 131 = .ok (.iload_n 1, 1) := by decide +kernel
theorem d_MenuScreensModel_shown_132 : decode prog_13_method_31_code 132 = .ok (.iload_n 2, 1) := by decide +kernel
theorem d_MenuScreensModel_shown_133 : decode prog_13_method_31_code 133 = .ok (.invokevirtual 270, 3) := by decide +kernel
theorem d_MenuScreensModel_shown_136 : decode prog_13_method_31_code 136 = .ok (.istore 5, 2) := by decide +kernel
theorem d_MenuScreensModel_shown_138 : decode prog_13_method_31_code 138 = .ok (.iload 5, 2) := by decide +kernel
theorem d_MenuScreensModel_shown_140 : decode prog_13_method_31_code 140 = .ok (.ifCond .lt 6, 3) := by decide +kernel
theorem d_MenuScreensModel_shown_143 : decode prog_13_method_31_code 143 = .ok (.iload 5, 2) := by decide +kernel
theorem d_MenuScreensModel_shown_145 : decode prog_13_method_31_code 145 = .ok (.ireturn, 1) := by decide +kernel
theorem d_MenuScreensModel_shown_146 : decode prog_13_method_31_code 146 = .ok (.iinc 4 (-1), 3) := by decide +kernel
theorem d_MenuScreensModel_shown_149 : decode prog_13_method_31_code 149 = .ok (.goto (-26), 3) := by decide +kernel
theorem d_MenuScreensModel_shown_152 : decode prog_13_method_31_code 152 = .ok (.bipush 32, 2) := by decide +kernel
theorem d_MenuScreensModel_shown_154 : decode prog_13_method_31_code 154 = .ok (.ireturn, 1) := by decide +kernel
set_option maxRecDepth 100000 in
set_option maxHeartbeats 4000000 in
theorem cm_MenuScreensModel_shown {l : Launch} {S0 : State} {b : Nat} {D : va_G} {dT : Nat → ClassId} (hE : vEnv S0 b D dT) {h0 : vH} {a : Nat} {ar : Nat → Nat} {x : Nat → Int32} {y : Nat → Int64} {A : Nat → Nat → Int32} {B : Nat → Nat → Int64} (M : MV S0 dT h0 a ar x y A B) (p1 : Int32) (p2 : Int32) {n la : Nat} (hn : x 50 = nI n) (hn2 : n ≤ 200) (hla : y 54 = lN la) (hla2 : la < 2 ^ 63) (hmono : ∀ i j, 1 ≤ i → i ≤ j → j ≤ n → B 52 i ≤ B 52 j) (hr0 : ∀ k, 1 ≤ k → k ≤ n → 0 ≤ A 51 k) {hh wd0 pr np nc : Nat} (hhh : x 1 = nI hh) (hhh2 : hh ≤ 40) (hwd : x 2 = nI wd0) (hwd2 : wd0 ≤ 40) (hpr : x 45 = nI pr) (hpr2 : pr ≤ 30) (hnp : 0 < pr → x 28 = nI np) (hnp2 : np ≤ 512) (hP : 0 < pr → ∀ p, p < np → ptOK A B p) (hnc : 0 < pr → x 39 = nI nc) (hnc2 : nc ≤ 512) (hV : 0 < pr → ∀ c, c < nc → ∃ v, A 42 c = nI v ∧ v ≤ 40) : vMi l S0 D vcl GT y_MenuScreensModel_shown prog_13_method_31_code 6 (some .int) 2 100 0 0 [.ref a, .int p1, .int p2] h0 (fun r h' => ∃ x', MR S0 dT h0 h' a ar x' y A B ∧ x' = upd x 0 0 ∧ ((p1 < 0 ∨ x 1 ≤ p1 ∨ p2 < 0 ∨ x 2 ≤ p2) ∧ r = -2 ∨ ∃ ro co, p1 = nI ro ∧ p2 = nI co ∧ ro < hh ∧ co < wd0 ∧ ∃ W0, W0 ≤ n ∧ (W0 = 0 → ∀ k, 1 ≤ k → k ≤ n → ¬ A 53 k = 0) ∧ (0 < W0 → A 53 W0 = 0 ∧ ∀ k, 1 ≤ k → k ≤ n → A 53 k = 0 → A 51 k ≤ A 51 W0) ∧ ((0 < W0 ∧ ro = hh - 1 ∧ co < 3) ∧ r = (if co = 0 then 33 else if co = 1 then 48 + A 51 W0 / 10 else 48 + (A 51 W0 - A 51 W0 / 10 * 10)) ∨ ¬ (0 < W0 ∧ ro = hh - 1 ∧ co < 3) ∧ ((pr = 0 ∨ B 24 pr < y 47) ∧ r = 32 ∨ 0 < pr ∧ ¬ B 24 pr < y 47 ∧ r = scn (fun p => ptV A B (x 45) (x 46) nc p p1 co) np)))) := by
  unfold vMi
  refine vM_ofQ hE.1 (by decide) (Nat.le_of_ble_eq_true rfl) (fun p e s m args below meth c ls Q hQ C hr hlk hnm X hl => ?_)
  have C : vC p s m _ c _ _ "MenuScreensModel" GT D vcl (vty dT) := C
  have hx := C.1.1
  have hb := C.1.2.1
  replace M := MR.of M
  obtain ⟨H, eH⟩ : ∃ z, z = s.heap := ⟨_, rfl⟩
  obtain ⟨locs, elocs⟩ : ∃ z : List Loc, z = [] := ⟨_, rfl⟩
  rw [← eH, ← elocs] at X
  rw [← eH, ← elocs]
  clear eH elocs
  have hl : lv_has ls 6 [(0, .ref a), (1, .int p1), (2, .int p2)] := hl
  refine lv_aload_n hx hb d_MenuScreensModel_shown_0 rfl (lv_at hl 0 rfl) ?_
  refine lv_iconst (v := 0) hx hb d_MenuScreensModel_shown_1 (by decide) ?_
  refine mm_put C X M 0 p_12_127_13 (upd x 0 0) y rfl rfl rfl (by decide) d_MenuScreensModel_shown_2 (fun h H locs X M => ?_)
  refine lv_iload_n hx hb d_MenuScreensModel_shown_5 rfl (lv_at hl 1 rfl) ?_
  refine lv_if_lt (tgt := 29) hx hb d_MenuScreensModel_shown_6 (by decide) (fun c1 => ?_) (fun c1 => ?_)
  · skip
    refine lv_bipush (v := (-2)) hx hb d_MenuScreensModel_shown_29 (by decide) ?_
    exact mq_iret hQ C X hr rfl hlk (⟨(upd x 0 0), M, rfl, Or.inl ⟨by clear X C hl hr; simp_all, rfl⟩⟩) (Nat.le_refl _) (Nat.le_refl _) d_MenuScreensModel_shown_31
  · skip
    refine lv_iload_n hx hb d_MenuScreensModel_shown_9 rfl (lv_at hl 1 rfl) ?_
    refine lv_aload_n hx hb d_MenuScreensModel_shown_10 rfl (lv_at hl 0 rfl) ?_
    refine mm_get C X M 1 f_12_120_13 (.int (x 1)) rfl d_MenuScreensModel_shown_11 ?_
    refine lv_icmp_ge (tgt := 29) hx hb d_MenuScreensModel_shown_14 (by decide) (fun c2 => ?_) (fun c2 => ?_)
    · skip
      refine lv_bipush (v := (-2)) hx hb d_MenuScreensModel_shown_29 (by decide) ?_
      exact mq_iret hQ C X hr rfl hlk (⟨(upd x 0 0), M, rfl, Or.inl ⟨by clear X C hl hr; simp_all, rfl⟩⟩) (Nat.le_refl _) (Nat.le_refl _) d_MenuScreensModel_shown_31
    · skip
      refine lv_iload_n hx hb d_MenuScreensModel_shown_17 rfl (lv_at hl 2 rfl) ?_
      refine lv_if_lt (tgt := 29) hx hb d_MenuScreensModel_shown_18 (by decide) (fun c3 => ?_) (fun c3 => ?_)
      · skip
        refine lv_bipush (v := (-2)) hx hb d_MenuScreensModel_shown_29 (by decide) ?_
        exact mq_iret hQ C X hr rfl hlk (⟨(upd x 0 0), M, rfl, Or.inl ⟨by clear X C hl hr; simp_all, rfl⟩⟩) (Nat.le_refl _) (Nat.le_refl _) d_MenuScreensModel_shown_31
      · skip
        refine lv_iload_n hx hb d_MenuScreensModel_shown_21 rfl (lv_at hl 2 rfl) ?_
        refine lv_aload_n hx hb d_MenuScreensModel_shown_22 rfl (lv_at hl 0 rfl) ?_
        refine mm_get C X M 2 f_12_124_13 (.int (x 2)) rfl d_MenuScreensModel_shown_23 ?_
        refine lv_icmp_lt (tgt := 32) hx hb d_MenuScreensModel_shown_26 (by decide) (fun c4 => ?_) (fun c4 => ?_)
        · skip
          obtain ⟨ro, hro, ero⟩ := ix_lt (n := hh) c1 (by rw [← hhh]; exact Int32.not_le.mp c2) (by omega)
          obtain ⟨co, hco, eco⟩ := ix_lt (n := wd0) c3 (by rw [← hwd]; exact c4) (by omega)
          refine lv_aload_n hx hb d_MenuScreensModel_shown_32 rfl (lv_at hl 0 rfl) ?_
          refine mv_bi X (mv_rV (rest := []) (As := []) gt_good C X k_12_267 (cm_MenuScreensModel_atHand hE M.1 (n := n) (la := la) hn hn2 hla hla2 hmono hr0) M.1.1 rfl rfl ⟨by decide, by decide⟩ rfl hl.1 rfl (Nat.le_of_ble_eq_true rfl) d_MenuScreensModel_shown_33 ⟨Nat.le_refl _, Nat.le_refl _⟩) (fun r5 hN H locs hp X => ?_)
          obtain ⟨ehr5, W0, eW, hW1, hW2, hW3⟩ := hp
          rw [ehr5] at X
          have e1h : x 1 - 1 = nI (hh - 1) := by rw [hhh]; exact nI_sub (b := 1) (by omega)
          have j98 : ∀ (ls : Array Slot) (H : Heap) (locs : List Loc), (¬ (0 < W0 ∧ ro = hh - 1 ∧ co < 3)) → vO S0 D vcl h s H locs → lv_has ls 6 [(0, .ref a), (1, .int p1), (2, .int p2)] → W p l e (vRm 2 100 0 0) s m args below meth c H locs 0 0 Q (F0 m 98 ls []) := by
            intro  ls H locs hnw X hl
            refine lv_aload_n hx hb d_MenuScreensModel_shown_98 rfl (lv_at hl 0 rfl) ?_
            refine mm_get C X M 45 f_12_245_13 (.int (x 45)) rfl d_MenuScreensModel_shown_99 ?_
            refine lv_if_eq (tgt := 112) hx hb d_MenuScreensModel_shown_102 (by decide) (fun c6 => ?_) (fun c6 => ?_)
            · skip
              refine lv_bipush (v := 32) hx hb d_MenuScreensModel_shown_112 (by decide) ?_
              exact mq_iret hQ C X hr rfl hlk (⟨(upd x 0 0), M, rfl, Or.inr ⟨ro, co, ero, eco, hro, hco, W0, hW1, hW2, hW3, Or.inr ⟨hnw, Or.inl ⟨Or.inl (nI_eqI (by omega) (by decide) (by rw [← hpr]; exact c6)), rfl⟩⟩⟩⟩) (Nat.le_refl _) (Nat.le_refl _) d_MenuScreensModel_shown_114
            · skip
              refine lv_aload_n hx hb d_MenuScreensModel_shown_105 rfl (lv_at hl 0 rfl) ?_
              have hp0 : 0 < pr := by
                rcases Nat.eq_zero_or_pos pr with q | q
                · exact absurd (by rw [hpr, q]; rfl) c6
                · exact q
              replace hnp := hnp hp0
              replace hP := hP hp0
              replace hnc := hnc hp0
              replace hV := hV hp0
              refine mv_bi X (mv_rV (rest := []) (As := []) gt_good C X k_12_254 (cm_MenuScreensModel_barred hE M.1 (pr := pr) hpr (by omega)) M.1.1 rfl rfl ⟨by decide, by decide⟩ rfl hl.1 rfl (Nat.le_of_ble_eq_true rfl) d_MenuScreensModel_shown_106 ⟨Nat.le_refl _, Nat.le_refl _⟩) (fun r7 hN H locs hp X => ?_)
              obtain ⟨ehr7, er7⟩ := hp
              rw [ehr7] at X
              refine lv_if_eq (tgt := 115) hx hb d_MenuScreensModel_shown_109 (by decide) (fun c8 => ?_) (fun c8 => ?_)
              · skip
                have hnb : ¬ (0 < pr ∧ B 24 pr < y 47) := fun z => absurd ((er7.trans (if_pos z)).symm.trans c8) (by decide)
                refine lv_aload_n hx hb d_MenuScreensModel_shown_115 rfl (lv_at hl 0 rfl) ?_
                refine mm_get C X M 28 f_12_222_13 (.int (x 28)) rfl d_MenuScreensModel_shown_116 ?_
                refine lv_iconst (v := 1) hx hb d_MenuScreensModel_shown_119 (by decide) ?_
                refine lv_isub hx hb d_MenuScreensModel_shown_120 ?_
                refine lv_istore (lv' := [(4, .int ((x 28) - 1)), (0, .ref a), (1, .int p1), (2, .int p2)]) hx hb d_MenuScreensModel_shown_121 hl (by decide) rfl (fun ls hl => ?_)
                have lp : ∀ (n_lp : Nat) (k : Nat) (i : Int32) (ls : Array Slot) (H : Heap) (locs : List Loc), (i = nI k - 1) → (k ≤ np) → (scn (fun p => ptV A B (x 45) (x 46) nc p p1 co) k = scn (fun p => ptV A B (x 45) (x 46) nc p p1 co) np) → (k) < n_lp → vO S0 D vcl h s H locs → lv_has ls 6 [(0, .ref a), (1, .int p1), (2, .int p2), (4, .int i)] → W p l e (vRm 2 100 0 0) s m args below meth c H locs 0 0 Q (F0 m 123 ls []) := by
                  intro n_lp
                  induction n_lp with
                  | zero => intros; exact absurd (by assumption) (Nat.not_lt_zero _)
                  | succ n_lp ih_lp =>
                    intro k i ls H locs ei hk hs hmu_lp X hl
                    refine lv_iload hx hb d_MenuScreensModel_shown_123 (lv_at hl 3 rfl) ?_
                    refine lv_if_lt (tgt := 152) hx hb d_MenuScreensModel_shown_125 (by decide) (fun c9 => ?_) (fun c9 => ?_)
                    · skip
                      refine lv_bipush (v := 32) hx hb d_MenuScreensModel_shown_152 (by decide) ?_
                      exact mq_iret hQ C X hr rfl hlk (⟨(upd x 0 0), M, rfl, Or.inr ⟨ro, co, ero, eco, hro, hco, W0, hW1, hW2, hW3, Or.inr ⟨hnw, Or.inr ⟨hp0, fun z => hnb ⟨hp0, z⟩, by
                          have : k = 0 := by
                            rcases Nat.eq_zero_or_pos k with q | q
                            · exact q
                            · exact absurd (by rw [← nI_sub (a := k) (b := 1) q]; exact ei ▸ c9) (nI_pos (n := k - 1) (by omega))
                          rw [← hs, this]; rfl⟩⟩⟩⟩) (Nat.le_refl _) (Nat.le_refl _) d_MenuScreensModel_shown_154
                    · skip
                      have hk0 : 0 < k := by
                        rcases Nat.eq_zero_or_pos k with q | q
                        · exact absurd (by rw [ei, q]; decide) c9
                        · exact q
                      have ek : i = nI (k - 1) := by rw [ei]; exact nI_sub (b := 1) (by omega)
                      refine lv_aload_n hx hb d_MenuScreensModel_shown_128 rfl (lv_at hl 0 rfl) ?_
                      refine lv_iload hx hb d_MenuScreensModel_shown_129 (lv_at hl 3 rfl) ?_
                      refine lv_iload_n hx hb d_MenuScreensModel_shown_131 rfl (lv_at hl 1 rfl) ?_
                      refine lv_iload_n hx hb d_MenuScreensModel_shown_132 rfl (lv_at hl 2 rfl) ?_
                      refine mv_bi X (mv_rV (rest := []) (As := [.int i, .int p1, .int p2]) gt_good C X k_12_270 (cm_MenuScreensModel_partAt hE M.1 _ _ _ (p0 := k - 1) (co := co) (nc := nc) ek (by omega) eco (by omega) (hP (k - 1) (by omega)) hnc hnc2 hV) M.1.1 rfl rfl ⟨by decide, by decide⟩ rfl hl.1 rfl (Nat.le_of_ble_eq_true rfl) d_MenuScreensModel_shown_133 ⟨Nat.le_refl _, Nat.le_refl _⟩) (fun r10 hN H locs hp X => ?_)
                      obtain ⟨ehr10, er10⟩ := hp
                      rw [ehr10] at X
                      replace er10 : r10 = ptV A B (x 45) (x 46) nc (k - 1) p1 co := er10
                      refine lv_istore (lv' := [(5, .int r10), (0, .ref a), (1, .int p1), (2, .int p2), (4, .int i)]) hx hb d_MenuScreensModel_shown_136 hl (by decide) rfl (fun ls hl => ?_)
                      refine lv_iload hx hb d_MenuScreensModel_shown_138 (lv_at hl 0 rfl) ?_
                      refine lv_if_lt (tgt := 146) hx hb d_MenuScreensModel_shown_140 (by decide) (fun c11 => ?_) (fun c11 => ?_)
                      · skip
                        refine lv_iinc (v := (i + (-1))) (lv' := [(4, .int (i + (-1))), (5, .int r10), (0, .ref a), (1, .int p1), (2, .int p2)]) hx hb d_MenuScreensModel_shown_146 hl (k := 4) rfl rfl (by decide) rfl (fun ls hl => ?_)
                        refine lv_goto (tgt := 123) hx hb d_MenuScreensModel_shown_149 (by decide) ?_
                        exact ih_lp (k - 1) (i + (-1)) ls _ _ (by rw [ek, Int32.sub_eq_add_neg]) (by omega) (by
                            rw [← hs]
                            conv => rhs; rw [show k = (k - 1) + 1 by omega, scn]
                            rw [if_pos (by rw [← er10]; exact c11)]) (by omega) X (lv_sub hl [2, 3, 4, 0] rfl)
                      · skip
                        refine lv_iload hx hb d_MenuScreensModel_shown_143 (lv_at hl 0 rfl) ?_
                        exact mq_iret hQ C X hr rfl hlk (⟨(upd x 0 0), M, rfl, Or.inr ⟨ro, co, ero, eco, hro, hco, W0, hW1, hW2, hW3, Or.inr ⟨hnw, Or.inr ⟨hp0, fun z => hnb ⟨hp0, z⟩, by
                            rw [← hs, show k = (k - 1) + 1 by omega, scn, ← er10, if_neg c11]⟩⟩⟩⟩) (Nat.le_refl _) (Nat.le_refl _) d_MenuScreensModel_shown_145
                exact lp (np + 1) np (x 28 - 1) ls _ _ (by rw [hnp]) (Nat.le_refl _) rfl (Nat.lt_succ_self _) X (lv_sub hl [1, 2, 3, 0] rfl)
              · skip
                refine lv_bipush (v := 32) hx hb d_MenuScreensModel_shown_112 (by decide) ?_
                exact mq_iret hQ C X hr rfl hlk (⟨(upd x 0 0), M, rfl, Or.inr ⟨ro, co, ero, eco, hro, hco, W0, hW1, hW2, hW3, Or.inr ⟨hnw, Or.inl ⟨Or.inr (by
                  apply Classical.byContradiction
                  intro z
                  exact c8 (er7.trans (if_neg (fun q => z q.2)))), rfl⟩⟩⟩⟩) (Nat.le_refl _) (Nat.le_refl _) d_MenuScreensModel_shown_114
          refine lv_istore_n (lv' := [(3, .int r5), (0, .ref a), (1, .int p1), (2, .int p2)]) hx hb d_MenuScreensModel_shown_36 rfl hl (by decide) rfl (fun ls hl => ?_)
          refine lv_iload_n hx hb d_MenuScreensModel_shown_37 rfl (lv_at hl 0 rfl) ?_
          refine lv_if_le (tgt := 98) hx hb d_MenuScreensModel_shown_38 (by decide) (fun c12 => ?_) (fun c12 => ?_)
          · skip
            exact j98 ls _ _ (fun z => absurd (by rw [← eW]; exact c12) (nI_nle z.1 (by omega))) X (lv_sub hl [1, 2, 3] rfl)
          · skip
            refine lv_iload_n hx hb d_MenuScreensModel_shown_41 rfl (lv_at hl 2 rfl) ?_
            refine lv_aload_n hx hb d_MenuScreensModel_shown_42 rfl (lv_at hl 1 rfl) ?_
            refine mm_get C X M 1 f_12_120_13 (.int (x 1)) rfl d_MenuScreensModel_shown_43 ?_
            refine lv_iconst (v := 1) hx hb d_MenuScreensModel_shown_46 (by decide) ?_
            refine lv_isub hx hb d_MenuScreensModel_shown_47 ?_
            refine lv_icmp_ne (tgt := 98) hx hb d_MenuScreensModel_shown_48 (by decide) (fun c13 => ?_) (fun c13 => ?_)
            · skip
              exact j98 ls _ _ (fun z => c13 (by rw [ero, e1h, z.2.1])) X (lv_sub hl [1, 2, 3] rfl)
            · skip
              refine lv_iload_n hx hb d_MenuScreensModel_shown_51 rfl (lv_at hl 3 rfl) ?_
              refine lv_iconst (v := 3) hx hb d_MenuScreensModel_shown_52 (by decide) ?_
              refine lv_icmp_ge (tgt := 98) hx hb d_MenuScreensModel_shown_53 (by decide) (fun c14 => ?_) (fun c14 => ?_)
              · skip
                exact j98 ls _ _ (fun z => absurd (by rw [eco]; exact nI_lt (b := 3) z.2.2 (by decide)) (Int32.not_lt.mpr c14)) X (lv_sub hl [1, 2, 3] rfl)
              · skip
                refine lv_iload_n hx hb d_MenuScreensModel_shown_56 rfl (lv_at hl 3 rfl) ?_
                refine lv_if_ne (tgt := 65) hx hb d_MenuScreensModel_shown_57 (by decide) (fun c15 => ?_) (fun c15 => ?_)
                · skip
                  refine lv_iload_n hx hb d_MenuScreensModel_shown_65 rfl (lv_at hl 3 rfl) ?_
                  refine lv_iconst (v := 1) hx hb d_MenuScreensModel_shown_66 (by decide) ?_
                  refine lv_icmp_ne (tgt := 85) hx hb d_MenuScreensModel_shown_67 (by decide) (fun c16 => ?_) (fun c16 => ?_)
                  · skip
                    refine lv_bipush (v := 48) hx hb d_MenuScreensModel_shown_85 (by decide) ?_
                    refine lv_aload_n hx hb d_MenuScreensModel_shown_87 rfl (lv_at hl 1 rfl) ?_
                    refine mm_get C X M 51 f_12_108_13 (.ref (ar 51)) rfl d_MenuScreensModel_shown_88 ?_
                    refine lv_iload_n hx hb d_MenuScreensModel_shown_91 rfl (lv_at hl 0 rfl) ?_
                    refine mm_iald C X M 51 201 rfl (A 51) rfl (by decide) W0 eW (by omega) d_MenuScreensModel_shown_92 ?_
                    refine lv_bipush (v := 10) hx hb d_MenuScreensModel_shown_93 (by decide) ?_
                    refine lv_irem hx hb d_MenuScreensModel_shown_95 (by decide) ?_
                    refine lv_iadd hx hb d_MenuScreensModel_shown_96 ?_
                    exact mq_iret hQ C X hr rfl hlk (⟨(upd x 0 0), M, rfl, Or.inr ⟨ro, co, ero, eco, hro, hco, W0, hW1, hW2, hW3, Or.inl (by
                      have c3 : co < 3 := by
                        rcases Nat.lt_or_ge co 3 with q | q
                        · exact q
                        · exact absurd (by rw [eco]; exact nI_le (a := 3) q (by omega)) c14
                      have hw0 : 0 < W0 := by
                        rcases Nat.eq_zero_or_pos W0 with q | q
                        · exact absurd (by rw [eW, q]; decide) c12
                        · exact q
                      have hr1 : ro = hh - 1 := nI_eqI (by omega) (by omega) (by rw [← ero, ← e1h]; exact c13)
                      exact ⟨⟨hw0, hr1, c3⟩, ((if_neg (fun z => c15 (by rw [eco, z]; rfl))).trans (if_neg (fun z => c16 (by rw [eco, z]; rfl)))).symm⟩)⟩⟩) (Nat.le_refl _) (Nat.le_refl _) d_MenuScreensModel_shown_97
                  · skip
                    refine lv_bipush (v := 48) hx hb d_MenuScreensModel_shown_70 (by decide) ?_
                    refine lv_aload_n hx hb d_MenuScreensModel_shown_72 rfl (lv_at hl 1 rfl) ?_
                    refine mm_get C X M 51 f_12_108_13 (.ref (ar 51)) rfl d_MenuScreensModel_shown_73 ?_
                    refine lv_iload_n hx hb d_MenuScreensModel_shown_76 rfl (lv_at hl 0 rfl) ?_
                    refine mm_iald C X M 51 201 rfl (A 51) rfl (by decide) W0 eW (by omega) d_MenuScreensModel_shown_77 ?_
                    refine lv_bipush (v := 10) hx hb d_MenuScreensModel_shown_78 (by decide) ?_
                    refine lv_idiv hx hb d_MenuScreensModel_shown_80 (by decide) ?_
                    refine lv_iadd hx hb d_MenuScreensModel_shown_81 ?_
                    refine lv_goto (tgt := 97) hx hb d_MenuScreensModel_shown_82 (by decide) ?_
                    exact mq_iret hQ C X hr rfl hlk (⟨(upd x 0 0), M, rfl, Or.inr ⟨ro, co, ero, eco, hro, hco, W0, hW1, hW2, hW3, Or.inl (by
                      have c3 : co < 3 := by
                        rcases Nat.lt_or_ge co 3 with q | q
                        · exact q
                        · exact absurd (by rw [eco]; exact nI_le (a := 3) q (by omega)) c14
                      have hw0 : 0 < W0 := by
                        rcases Nat.eq_zero_or_pos W0 with q | q
                        · exact absurd (by rw [eW, q]; decide) c12
                        · exact q
                      have hr1 : ro = hh - 1 := nI_eqI (by omega) (by omega) (by rw [← ero, ← e1h]; exact c13)
                      exact ⟨⟨hw0, hr1, c3⟩, ((if_neg (fun z => c15 (by rw [eco, z]; rfl))).trans (if_pos (nI_eqI (by omega) (by decide) (by rw [← eco]; exact c16)))).symm⟩)⟩⟩) (Nat.le_refl _) (Nat.le_refl _) d_MenuScreensModel_shown_97
                · skip
                  refine lv_bipush (v := 33) hx hb d_MenuScreensModel_shown_60 (by decide) ?_
                  refine lv_goto (tgt := 97) hx hb d_MenuScreensModel_shown_62 (by decide) ?_
                  exact mq_iret hQ C X hr rfl hlk (⟨(upd x 0 0), M, rfl, Or.inr ⟨ro, co, ero, eco, hro, hco, W0, hW1, hW2, hW3, Or.inl (by
                    have c3 : co < 3 := by
                      rcases Nat.lt_or_ge co 3 with q | q
                      · exact q
                      · exact absurd (by rw [eco]; exact nI_le (a := 3) q (by omega)) c14
                    have hw0 : 0 < W0 := by
                      rcases Nat.eq_zero_or_pos W0 with q | q
                      · exact absurd (by rw [eW, q]; decide) c12
                      · exact q
                    have hr1 : ro = hh - 1 := nI_eqI (by omega) (by omega) (by rw [← ero, ← e1h]; exact c13)
                    exact ⟨⟨hw0, hr1, c3⟩, (if_pos (nI_eqI (by omega) (by decide) (by rw [← eco]; exact c15))).symm⟩)⟩⟩) (Nat.le_refl _) (Nat.le_refl _) d_MenuScreensModel_shown_97
        · skip
          refine lv_bipush (v := (-2)) hx hb d_MenuScreensModel_shown_29 (by decide) ?_
          exact mq_iret hQ C X hr rfl hlk (⟨(upd x 0 0), M, rfl, Or.inl ⟨by clear X C hl hr; simp_all, rfl⟩⟩) (Nat.le_refl _) (Nat.le_refl _) d_MenuScreensModel_shown_31
theorem d_MenuScreensModel_word_0 : decode prog_13_method_10_code 0 = .ok (.lconst 0, 1) := by decide +kernel
theorem d_MenuScreensModel_word_1 : decode prog_13_method_10_code 1 = .ok (.lstore_n 1, 1) := by decide +kernel
theorem d_MenuScreensModel_word_2 : decode prog_13_method_10_code 2 = .ok (.aload_n 0, 1) := by decide +kernel
theorem d_MenuScreensModel_word_3 : decode prog_13_method_10_code 3 = .ok (.getfield 139, 3) := by decide +kernel
theorem d_MenuScreensModel_word_6 : decode prog_13_method_10_code 6 = .ok (.istore_n 3, 1) := by decide +kernel
theorem d_MenuScreensModel_word_7 : decode prog_13_method_10_code 7 = .ok (.iload_n 3, 1) := by decide +kernel
theorem d_MenuScreensModel_word_8 : decode prog_13_method_10_code 8 = .ok (.aload_n 0, 1) := by decide +kernel
theorem d_MenuScreensModel_word_9 : decode prog_13_method_10_code 9 = .ok (.getfield 142, 3) := by decide +kernel
theorem d_MenuScreensModel_word_12 : decode prog_13_method_10_code 12 = .ok (.if_icmp .ge 37, 3) := by decide +kernel
theorem d_MenuScreensModel_word_15 : decode prog_13_method_10_code 15 = .ok (.aload_n 0, 1) := by decide +kernel
theorem d_MenuScreensModel_word_16 : decode prog_13_method_10_code 16 = .ok (.getfield 142, 3) := by decide +kernel
theorem d_MenuScreensModel_word_19 : decode prog_13_method_10_code 19 = .ok (.aload_n 0, 1) := by decide +kernel
theorem d_MenuScreensModel_word_20 : decode prog_13_method_10_code 20 = .ok (.getfield 139, 3) := by decide +kernel
theorem d_MenuScreensModel_word_23 : decode prog_13_method_10_code 23 = .ok (.isub, 1) := by decide +kernel
theorem d_MenuScreensModel_word_24 : decode prog_13_method_10_code 24 = .ok (.bipush 9, 2) := by decide +kernel
theorem d_MenuScreensModel_word_26 : decode prog_13_method_10_code 26 = .ok (.if_icmp .ge 23, 3) := by decide +kernel
theorem d_MenuScreensModel_word_29 : decode prog_13_method_10_code 29 = .ok (.lload_n 1, 1) := by decide +kernel
theorem d_MenuScreensModel_word_30 : decode prog_13_method_10_code 30 = .ok (.ldc2_w 160, 3) := by decide +kernel
theorem d_MenuScreensModel_word_33 : decode prog_13_method_10_code 33 = .ok (.lmul, 1) := by decide +kernel
theorem d_MenuScreensModel_word_34 : decode prog_13_method_10_code 34 = .ok (.aload_n 0, 1) := by decide +kernel
theorem d_MenuScreensModel_word_35 : decode prog_13_method_10_code 35 = .ok (.getfield 13, 3) := by decide +kernel
theorem d_MenuScreensModel_word_38 : decode prog_13_method_10_code 38 = .ok (.iload_n 3, 1) := by decide +kernel
theorem d_MenuScreensModel_word_39 : decode prog_13_method_10_code 39 = .ok (.iaload, 1) := by decide +kernel
theorem d_MenuScreensModel_word_40 : decode prog_13_method_10_code 40 = .ok (.i2l, 1) := by decide +kernel
theorem d_MenuScreensModel_word_41 : decode prog_13_method_10_code 41 = .ok (.ladd, 1) := by decide +kernel
theorem d_MenuScreensModel_word_42 : decode prog_13_method_10_code 42 = .ok (.lstore_n 1, 1) := by decide +kernel
theorem d_MenuScreensModel_word_43 : decode prog_13_method_10_code 43 = .ok (.iinc 3 1, 3) := by decide +kernel
theorem d_MenuScreensModel_word_46 : decode prog_13_method_10_code 46 = .ok (.goto (-39), 3) := by decide +kernel
theorem d_MenuScreensModel_word_49 : decode prog_13_method_10_code 49 = .ok (.lload_n 1, 1) := by decide +kernel
theorem d_MenuScreensModel_word_50 : decode prog_13_method_10_code 50 = .ok (.lreturn, 1) := by decide +kernel
set_option maxRecDepth 100000 in
set_option maxHeartbeats 4000000 in
theorem cm_MenuScreensModel_word {l : Launch} {S0 : State} {b : Nat} {D : va_G} {dT : Nat → ClassId} (hE : vEnv S0 b D dT) {h0 : vH} {a : Nat} {ar : Nat → Nat} {x : Nat → Int32} {y : Nat → Int64} {A : Nat → Nat → Int32} {B : Nat → Nat → Int64} (M : MV S0 dT h0 a ar x y A B) {F T : Nat} (hF : x 9 = nI F) (hT : x 10 = nI T) (hFT : F ≤ T) (hT4 : T ≤ 4000) : vMl l S0 D vcl GT y_MenuScreensModel_word prog_13_method_10_code 4 (some .long) 0 0 0 0 [.ref a] h0 (fun r h' => h' = h0 ∧ r = if T - F < 9 then wv (A 6) F (T - F) else 0) := by
  unfold vMl
  refine vM_ofQ hE.1 (by decide) (Nat.le_of_ble_eq_true rfl) (fun p e s m args below meth c ls Q hQ C hr hlk hnm X hl => ?_)
  have C : vC p s m _ c _ _ "MenuScreensModel" GT D vcl (vty dT) := C
  have hx := C.1.1
  have hb := C.1.2.1
  replace M := MR.of M
  obtain ⟨H, eH⟩ : ∃ z, z = s.heap := ⟨_, rfl⟩
  obtain ⟨locs, elocs⟩ : ∃ z : List Loc, z = [] := ⟨_, rfl⟩
  rw [← eH, ← elocs] at X
  rw [← eH, ← elocs]
  clear eH elocs
  have hl : lv_has ls 4 [(0, .ref a)] := hl
  refine lv_lconst (v := 0) hx hb d_MenuScreensModel_word_0 (by decide) ?_
  refine lv_lstore_n (lv' := [(1, .long 0), (0, .ref a)]) hx hb d_MenuScreensModel_word_1 rfl hl (by decide) rfl (fun ls hl => ?_)
  refine lv_aload_n hx hb d_MenuScreensModel_word_2 rfl (lv_at hl 1 rfl) ?_
  refine mm_get C X M 9 f_12_139_13 (.int (x 9)) rfl d_MenuScreensModel_word_3 ?_
  refine lv_istore_n (lv' := [(3, .int (x 9)), (1, .long 0), (0, .ref a)]) hx hb d_MenuScreensModel_word_6 rfl hl (by decide) rfl (fun ls hl => ?_)
  have lp : ∀ (n_lp : Nat) (k : Nat) (v : Int64) (i : Int32) (ls : Array Slot), (i = nI k) → (F ≤ k) → (k ≤ T) → (v = wv (A 6) F (k - F)) → (k = F ∨ T - F < 9) → (T - k) < n_lp → lv_has ls 4 [(0, .ref a), (1, .long v), (3, .int i)] → W p l e (vRm 0 0 0 0) s m args below meth c H locs 0 0 Q (F0 m 7 ls []) := by
    intro n_lp
    induction n_lp with
    | zero => intros; exact absurd (by assumption) (Nat.not_lt_zero _)
    | succ n_lp ih_lp =>
      intro k v i ls ei hk1 hk2 ev h9 hmu_lp hl
      refine lv_iload_n hx hb d_MenuScreensModel_word_7 rfl (lv_at hl 2 rfl) ?_
      refine lv_aload_n hx hb d_MenuScreensModel_word_8 rfl (lv_at hl 0 rfl) ?_
      refine mm_get C X M 10 f_12_142_13 (.int (x 10)) rfl d_MenuScreensModel_word_9 ?_
      refine lv_icmp_ge (tgt := 49) hx hb d_MenuScreensModel_word_12 (by decide) (fun c1 => ?_) (fun c1 => ?_)
      · skip
        refine lv_lload_n hx hb d_MenuScreensModel_word_49 rfl (lv_at hl 1 rfl) ?_
        exact mq_lret hQ C X hr hlk (⟨rfl, by
            have : k = T := by
              have := (nI_leI (a := T) (b := k) (by omega) (by omega)).mp (by rw [← ei, ← hT]; exact c1)
              omega
            rw [ev, this]
            rcases h9 with z | z
            · rw [if_pos (by omega)]
            · rw [if_pos z]⟩) (Nat.le_refl _) (Nat.le_refl _) d_MenuScreensModel_word_50
      · skip
        have hlt : k < T := by
          rcases Nat.lt_or_ge k T with q | q
          · exact q
          · exact absurd (by rw [hT, ei]; exact nI_le q (by omega)) c1
        have eTF : x 10 - x 9 = nI (T - F) := by rw [hT, hF]; exact nI_sub hFT
        refine lv_aload_n hx hb d_MenuScreensModel_word_15 rfl (lv_at hl 0 rfl) ?_
        refine mm_get C X M 10 f_12_142_13 (.int (x 10)) rfl d_MenuScreensModel_word_16 ?_
        refine lv_aload_n hx hb d_MenuScreensModel_word_19 rfl (lv_at hl 0 rfl) ?_
        refine mm_get C X M 9 f_12_139_13 (.int (x 9)) rfl d_MenuScreensModel_word_20 ?_
        refine lv_isub hx hb d_MenuScreensModel_word_23 ?_
        refine lv_bipush (v := 9) hx hb d_MenuScreensModel_word_24 (by decide) ?_
        refine lv_icmp_ge (tgt := 49) hx hb d_MenuScreensModel_word_26 (by decide) (fun c2 => ?_) (fun c2 => ?_)
        · skip
          refine lv_lload_n hx hb d_MenuScreensModel_word_49 rfl (lv_at hl 1 rfl) ?_
          exact mq_lret hQ C X hr hlk (⟨rfl, by
              have h99 : ¬ T - F < 9 := fun q => absurd (by rw [eTF]; exact nI_lt (b := 9) q (by decide)) (Int32.not_lt.mpr c2)
              rw [if_neg h99, ev]
              rcases h9 with z | z
              · rw [z, Nat.sub_self]; rfl
              · exact absurd z h99⟩) (Nat.le_refl _) (Nat.le_refl _) d_MenuScreensModel_word_50
        · skip
          have h99 : T - F < 9 := by
            rcases Nat.lt_or_ge (T - F) 9 with q | q
            · exact q
            · exact absurd (by rw [eTF]; exact nI_le (a := 9) q (by omega)) c2
          refine lv_lload_n hx hb d_MenuScreensModel_word_29 rfl (lv_at hl 1 rfl) ?_
          refine lv_ldc2 (v := 128) hx hb C.1.2.2.2.1 (C.1.2.2.2.2 _ (gt_5 232 (by decide +kernel) rfl)) d_MenuScreensModel_word_30 ?_
          refine lv_lmul hx hb d_MenuScreensModel_word_33 ?_
          refine lv_aload_n hx hb d_MenuScreensModel_word_34 rfl (lv_at hl 0 rfl) ?_
          refine mm_get C X M 6 f_12_13_13 (.ref (ar 6)) rfl d_MenuScreensModel_word_35 ?_
          refine lv_iload_n hx hb d_MenuScreensModel_word_38 rfl (lv_at hl 2 rfl) ?_
          refine mm_iald C X M 6 4000 rfl (A 6) rfl (by decide) k ei (by omega) d_MenuScreensModel_word_39 ?_
          refine lv_i2l (v := (((A 6) k) : Int32).toInt64) hx hb d_MenuScreensModel_word_40 rfl ?_
          refine lv_ladd hx hb d_MenuScreensModel_word_41 ?_
          refine lv_lstore_n (lv' := [(1, .long ((v * 128) + ((((A 6) k) : Int32).toInt64))), (0, .ref a), (3, .int i)]) hx hb d_MenuScreensModel_word_42 rfl hl (by decide) rfl (fun ls hl => ?_)
          refine lv_iinc (v := (i + 1)) (lv' := [(3, .int (i + 1)), (1, .long ((v * 128) + ((((A 6) k) : Int32).toInt64))), (0, .ref a)]) hx hb d_MenuScreensModel_word_43 hl (k := 2) rfl rfl (by decide) rfl (fun ls hl => ?_)
          refine lv_goto (tgt := 7) hx hb d_MenuScreensModel_word_46 (by decide) ?_
          exact ih_lp (k + 1) ((v * 128) + ((((A 6) k) : Int32).toInt64)) (i + 1) ls  (by rw [ei]; exact nI_1 k) (by omega) (by omega) (by rw [wv_s hk1, ev]) (Or.inr h99) (by omega) (lv_sub hl [2, 1, 0] rfl)
  exact lp (T - F + 1) F 0 (x 9) ls  hF (Nat.le_refl _) hFT (by rw [Nat.sub_self]; rfl) (Or.inl rfl) (Nat.lt_succ_self _) (lv_sub hl [2, 1, 0] rfl)
