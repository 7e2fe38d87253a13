theorem d_MenuScreensModel_through_0 : decode prog_13_method_5_code 0 = .ok (.aload_n 0, 1) := by decide +kernel
theorem d_MenuScreensModel_through_1 : decode prog_13_method_5_code 1 = .ok (.invokevirtual 145, 3) := by decide +kernel
theorem d_MenuScreensModel_through_4 : decode prog_13_method_5_code 4 = .ok (.ifCond .ne 7, 3) := by decide +kernel
theorem d_MenuScreensModel_through_7 : decode prog_13_method_5_code 7 = .ok (.iconst 1, 1) := by decide +kernel
theorem d_MenuScreensModel_through_8 : decode prog_13_method_5_code 8 = .ok (.goto 4, 3) := by decide +kernel
theorem d_MenuScreensModel_through_11 : decode prog_13_method_5_code 11 = .ok (.iconst 0, 1) := by decide +kernel
theorem d_MenuScreensModel_through_12 : decode prog_13_method_5_code 12 = .ok (.ireturn, 1) := by decide +kernel
set_option maxRecDepth 100000 in
set_option maxHeartbeats 4000000 in
theorem cm_MenuScreensModel_through {l : Launch} {S0 : State} {b : Nat} {D : va_G} {dT : Nat → ClassId} (hE : vEnv S0 b D dT) {h0 : vH} {a : Nat} {ar : Nat → Nat} {x : Nat → Int32} {y : Nat → Int64} {A : Nat → Nat → Int32} {B : Nat → Nat → Int64} (M : MV S0 dT h0 a ar x y A B) {i0 e0 : Nat} (hat : x 7 = nI i0) (hend : x 8 = nI e0) (hle : i0 ≤ e0) (he : e0 ≤ 4000) : vMi l S0 D vcl GT y_MenuScreensModel_through prog_13_method_5_code 1 (some .boolean) 1 20 0 0 [.ref a] h0 (fun r h' => ∃ x', MR S0 dT h0 h' a ar x' y A B ∧ x' = upd (upd (upd x 7 (nI (nT (A 6) e0 i0))) 9 (nI (nF (A 6) e0 i0))) 10 (nI (nT (A 6) e0 i0)) ∧ r = bI (decide (¬ nF (A 6) e0 i0 < nT (A 6) e0 i0))) := by
  unfold vMi
  refine vM_ofQ hE.1 (by decide) (Nat.le_of_ble_eq_true rfl) (fun p e s m args below meth c ls Q hQ C hr hlk hnm X hl => ?_)
  have C : vC p s m _ c _ _ "MenuScreensModel" GT D vcl (vty dT) := C
  have hx := C.1.1
  have hb := C.1.2.1
  replace M := MR.of M
  obtain ⟨H, eH⟩ : ∃ z, z = s.heap := ⟨_, rfl⟩
  obtain ⟨locs, elocs⟩ : ∃ z : List Loc, z = [] := ⟨_, rfl⟩
  rw [← eH, ← elocs] at X
  rw [← eH, ← elocs]
  clear eH elocs
  have hl : lv_has ls 1 [(0, .ref a)] := hl
  refine lv_aload_n hx hb d_MenuScreensModel_through_0 rfl (lv_at hl 0 rfl) ?_
  refine mv_bi X (mv_rV (rest := []) (As := []) gt_good C X k_12_145 (cm_MenuScreensModel_next hE M.1 (i0 := i0) (e0 := e0) (F := nF (A 6) e0 i0) (T := nT (A 6) e0 i0) hat hend hle he rfl rfl) M.1.1 rfl rfl ⟨by decide, by decide⟩ rfl hl.1 rfl (Nat.le_of_ble_eq_true rfl) d_MenuScreensModel_through_1 ⟨Nat.le_refl _, Nat.le_refl _⟩) (fun r1 hN H locs hp X => ?_)
  obtain ⟨x1, M1, rfl, er1⟩ := hp
  replace M := M.trans M1
  refine lv_if_ne (tgt := 11) hx hb d_MenuScreensModel_through_4 (by decide) (fun c2 => ?_) (fun c2 => ?_)
  · skip
    refine lv_iconst (v := 0) hx hb d_MenuScreensModel_through_11 (by decide) ?_
    exact mq_iret hQ C X hr rfl hlk (⟨_, M, rfl, by
        by_cases q : nF (A 6) e0 i0 < nT (A 6) e0 i0
        · simp [bI, q]
        · exact absurd (er1.trans (if_neg q)) c2⟩) (Nat.le_refl _) (Nat.le_refl _) d_MenuScreensModel_through_12
  · skip
    refine lv_iconst (v := 1) hx hb d_MenuScreensModel_through_7 (by decide) ?_
    refine lv_goto (tgt := 12) hx hb d_MenuScreensModel_through_8 (by decide) ?_
    exact mq_iret hQ C X hr rfl hlk (⟨_, M, rfl, by
        by_cases q : nF (A 6) e0 i0 < nT (A 6) e0 i0
        · exact absurd ((er1.trans (if_pos q)).symm.trans c2) (by decide)
        · simp [bI, q]⟩) (Nat.le_refl _) (Nat.le_refl _) d_MenuScreensModel_through_12
theorem d_MenuScreensModel_isName_0 : decode prog_13_method_6_code 0 = .ok (.aload_n 0, 1) := by decide +kernel
theorem d_MenuScreensModel_isName_1 : decode prog_13_method_6_code 1 = .ok (.getfield 142, 3) := by decide +kernel
theorem d_MenuScreensModel_isName_4 : decode prog_13_method_6_code 4 = .ok (.aload_n 0, 1) := by decide +kernel
theorem d_MenuScreensModel_isName_5 : decode prog_13_method_6_code 5 = .ok (.getfield 139, 3) := by decide +kernel
theorem d_MenuScreensModel_isName_8 : decode prog_13_method_6_code 8 = .ok (.isub, 1) := by decide +kernel
theorem d_MenuScreensModel_isName_9 : decode prog_13_method_6_code 9 = .ok (.ifCond .le 21, 3) := by decide +kernel
theorem d_MenuScreensModel_isName_12 : decode prog_13_method_6_code 12 = .ok (.aload_n 0, 1) := by decide +kernel
theorem d_MenuScreensModel_isName_13 : decode prog_13_method_6_code 13 = .ok (.getfield 142, 3) := by decide +kernel
theorem d_MenuScreensModel_isName_16 : decode prog_13_method_6_code 16 = .ok (.aload_n 0, 1) := by decide +kernel
theorem d_MenuScreensModel_isName_17 : decode prog_13_method_6_code 17 = .ok (.getfield 139, 3) := by decide +kernel
theorem d_MenuScreensModel_isName_20 : decode prog_13_method_6_code 20 = .ok (.isub, 1) := by decide +kernel
theorem d_MenuScreensModel_isName_21 : decode prog_13_method_6_code 21 = .ok (.bipush 8, 2) := by decide +kernel
theorem d_MenuScreensModel_isName_23 : decode prog_13_method_6_code 23 = .ok (.if_icmp .gt 7, 3) := by decide +kernel
theorem d_MenuScreensModel_isName_26 : decode prog_13_method_6_code 26 = .ok (.iconst 1, 1) := by decide +kernel
theorem d_MenuScreensModel_isName_27 : decode prog_13_method_6_code 27 = .ok (.goto 4, 3) := by decide +kernel
theorem d_MenuScreensModel_isName_30 : decode prog_13_method_6_code 30 = .ok (.iconst 0, 1) := by decide +kernel
theorem d_MenuScreensModel_isName_31 : decode prog_13_method_6_code 31 = .ok (.istore_n 1, 1) := by decide +kernel
theorem d_MenuScreensModel_isName_32 : decode prog_13_method_6_code 32 = .ok (.aload_n 0, 1) := by decide +kernel
theorem d_MenuScreensModel_isName_33 : decode prog_13_method_6_code 33 = .ok (.getfield 139, 3) := by decide +kernel
theorem d_MenuScreensModel_isName_36 : decode prog_13_method_6_code 36 = .ok (.istore_n 2, 1) := by decide +kernel
theorem d_MenuScreensModel_isName_37 : decode prog_13_method_6_code 37 = .ok (.iload_n 2, 1) := by decide +kernel
theorem d_MenuScreensModel_isName_38 : decode prog_13_method_6_code 38 = .ok (.aload_n 0, 1) := by decide +kernel
theorem d_MenuScreensModel_isName_39 : decode prog_13_method_6_code 39 = .ok (.getfield 142, 3) := by decide +kernel
theorem d_MenuScreensModel_isName_42 : decode prog_13_method_6_code 42 = .ok (.if_icmp .ge 41, 3) := by decide +kernel
theorem d_MenuScreensModel_isName_45 : decode prog_13_method_6_code 45 = .ok (.iload_n 1, 1) := by decide +kernel
theorem d_MenuScreensModel_isName_46 : decode prog_13_method_6_code 46 = .ok (.ifCond .eq 29, 3) := by decide +kernel
theorem d_MenuScreensModel_isName_49 : decode prog_13_method_6_code 49 = .ok (.aload_n 0, 1) := by decide +kernel
theorem d_MenuScreensModel_isName_50 : decode prog_13_method_6_code 50 = .ok (.getfield 13, 3) := by decide +kernel
theorem d_MenuScreensModel_isName_53 : decode prog_13_method_6_code 53 = .ok (.iload_n 2, 1) := by decide +kernel
theorem d_MenuScreensModel_isName_54 : decode prog_13_method_6_code 54 = .ok (.iaload, 1) := by decide +kernel
theorem d_MenuScreensModel_isName_55 : decode prog_13_method_6_code 55 = .ok (.bipush 97, 2) := by decide +kernel
theorem d_MenuScreensModel_isName_57 : decode prog_13_method_6_code 57 = .ok (.if_icmp .lt 18, 3) := by decide +kernel
theorem d_MenuScreensModel_isName_60 : decode prog_13_method_6_code 60 = .ok (.aload_n 0, 1) := by decide +kernel
theorem d_MenuScreensModel_isName_61 : decode prog_13_method_6_code 61 = .ok (.getfield 13, 3) := by decide +kernel
theorem d_MenuScreensModel_isName_64 : decode prog_13_method_6_code 64 = .ok (.iload_n 2, 1) := by decide +kernel
theorem d_MenuScreensModel_isName_65 : decode prog_13_method_6_code 65 = .ok (.iaload, 1) := by decide +kernel
theorem d_MenuScreensModel_isName_66 : decode prog_13_method_6_code 66 = .ok (.bipush 122, 2) := by decide +kernel
theorem d_MenuScreensModel_isName_68 : decode prog_13_method_6_code 68 = .ok (.if_icmp .gt 7, 3) := by decide +kernel
theorem d_MenuScreensModel_isName_71 : decode prog_13_method_6_code 71 = .ok (.iconst 1, 1) := by decide +kernel
theorem d_MenuScreensModel_isName_72 : decode prog_13_method_6_code 72 = .ok (.goto 4, 3) := by decide +kernel
theorem d_MenuScreensModel_isName_75 : decode prog_13_method_6_code 75 = .ok (.iconst 0, 1) := by decide +kernel
theorem d_MenuScreensModel_isName_76 : decode prog_13_method_6_code 76 = .ok (.istore_n 1, 1) := by decide +kernel
theorem d_MenuScreensModel_isName_77 : decode prog_13_method_6_code 77 = .ok (.iinc 2 1, 3) := by decide +kernel
theorem d_MenuScreensModel_isName_80 : decode prog_13_method_6_code 80 = .ok (.goto (-43), 3) := by decide +kernel
theorem d_MenuScreensModel_isName_83 : decode prog_13_method_6_code 83 = .ok (.iload_n 1, 1) := by decide +kernel
theorem d_MenuScreensModel_isName_84 : decode prog_13_method_6_code 84 = .ok (.ireturn, 1) := by decide +kernel
set_option maxRecDepth 100000 in
set_option maxHeartbeats 4000000 in
theorem cm_MenuScreensModel_isName {l : Launch} {S0 : State} {b : Nat} {D : va_G} {dT : Nat → ClassId} (hE : vEnv S0 b D dT) {h0 : vH} {a : Nat} {ar : Nat → Nat} {x : Nat → Int32} {y : Nat → Int64} {A : Nat → Nat → Int32} {B : Nat → Nat → Int64} (M : MV S0 dT h0 a ar x y A B) {F T : Nat} (hF : x 9 = nI F) (hT : x 10 = nI T) (hFT : F ≤ T) (hT4 : T ≤ 4000) : vMi l S0 D vcl GT y_MenuScreensModel_isName prog_13_method_6_code 3 (some .boolean) 0 0 0 0 [.ref a] h0 (fun r h' => h' = h0 ∧ r = bI (isNm (A 6) F T)) := by
  unfold vMi
  refine vM_ofQ hE.1 (by decide) (Nat.le_of_ble_eq_true rfl) (fun p e s m args below meth c ls Q hQ C hr hlk hnm X hl => ?_)
  have C : vC p s m _ c _ _ "MenuScreensModel" GT D vcl (vty dT) := C
  have hx := C.1.1
  have hb := C.1.2.1
  replace M := MR.of M
  obtain ⟨H, eH⟩ : ∃ z, z = s.heap := ⟨_, rfl⟩
  obtain ⟨locs, elocs⟩ : ∃ z : List Loc, z = [] := ⟨_, rfl⟩
  rw [← eH, ← elocs] at X
  rw [← eH, ← elocs]
  clear eH elocs
  have hl : lv_has ls 3 [(0, .ref a)] := hl
  obtain ⟨b0, hb0⟩ : ∃ z, z = (decide (0 < T - F) && decide (T - F ≤ 8)) := ⟨_, rfl⟩
  have hTF : x 10 - x 9 = nI (T - F) := by rw [hT, hF]; exact nI_sub hFT
  have j31 : ∀ (ls : Array Slot), lv_has ls 3 [(0, .ref a)] → W p l e (vRm 0 0 0 0) s m args below meth c H locs 0 0 Q (F0 m 31 ls [.int (bI b0)]) := by
    intro  ls  hl
    refine lv_istore_n (lv' := [(1, .int (bI b0)), (0, .ref a)]) hx hb d_MenuScreensModel_isName_31 rfl hl (by decide) rfl (fun ls hl => ?_)
    refine lv_aload_n hx hb d_MenuScreensModel_isName_32 rfl (lv_at hl 1 rfl) ?_
    refine mm_get C X M 9 f_12_139_13 (.int (x 9)) rfl d_MenuScreensModel_isName_33 ?_
    refine lv_istore_n (lv' := [(2, .int (x 9)), (1, .int (bI b0)), (0, .ref a)]) hx hb d_MenuScreensModel_isName_36 rfl hl (by decide) rfl (fun ls hl => ?_)
    have lp : ∀ (n_lp : Nat) (k : Nat) (g : Int32) (i : Int32) (ls : Array Slot), (i = nI k) → (F ≤ k) → (k ≤ T) → (g = bI (b0 && nmB (A 6) F (k - F))) → (T - k) < n_lp → lv_has ls 3 [(0, .ref a), (1, .int g), (2, .int i)] → W p l e (vRm 0 0 0 0) s m args below meth c H locs 0 0 Q (F0 m 37 ls []) := by
      intro n_lp
      induction n_lp with
      | zero => intros; exact absurd (by assumption) (Nat.not_lt_zero _)
      | succ n_lp ih_lp =>
        intro k g i ls ei hk1 hk2 eg hmu_lp hl
        refine lv_iload_n hx hb d_MenuScreensModel_isName_37 rfl (lv_at hl 2 rfl) ?_
        refine lv_aload_n hx hb d_MenuScreensModel_isName_38 rfl (lv_at hl 0 rfl) ?_
        refine mm_get C X M 10 f_12_142_13 (.int (x 10)) rfl d_MenuScreensModel_isName_39 ?_
        refine lv_icmp_ge (tgt := 83) hx hb d_MenuScreensModel_isName_42 (by decide) (fun c1 => ?_) (fun c1 => ?_)
        · skip
          refine lv_iload_n hx hb d_MenuScreensModel_isName_83 rfl (lv_at hl 1 rfl) ?_
          exact mq_iret hQ C X hr (by rw [eg]; exact bI_nar _) hlk (⟨rfl, by
              have hkT : k = T := by
                have := (nI_leI (a := T) (b := k) (by omega) (by omega)).mp (by rw [← ei, ← hT]; exact c1)
                omega
              rw [eg, hkT, hb0]; rfl⟩) (Nat.le_refl _) (Nat.le_refl _) d_MenuScreensModel_isName_84
        · skip
          have hlt : k < T := by
            rcases Nat.lt_or_ge k T with q | q
            · exact q
            · exact absurd (by rw [hT, ei]; exact nI_le q (by omega)) c1
          refine lv_iload_n hx hb d_MenuScreensModel_isName_45 rfl (lv_at hl 1 rfl) ?_
          refine lv_if_eq (tgt := 75) hx hb d_MenuScreensModel_isName_46 (by decide) (fun c2 => ?_) (fun c2 => ?_)
          · skip
            refine lv_iconst (v := 0) hx hb d_MenuScreensModel_isName_75 (by decide) ?_
            have eg1 : (0 : Int32) = bI (b0 && nmB (A 6) F (k + 1 - F)) := by
              have q0 : (b0 && nmB (A 6) F (k - F)) = false := bI_0 (eg.symm.trans c2)
              rw [nmB_s hk1, ← Bool.and_assoc, q0, Bool.false_and]; rfl
            refine lv_istore_n (lv' := [(1, .int 0), (0, .ref a), (2, .int i)]) hx hb d_MenuScreensModel_isName_76 rfl hl (by decide) rfl (fun ls hl => ?_)
            refine lv_iinc (v := (i + 1)) (lv' := [(2, .int (i + 1)), (1, .int 0), (0, .ref a)]) hx hb d_MenuScreensModel_isName_77 hl (k := 2) rfl rfl (by decide) rfl (fun ls hl => ?_)
            refine lv_goto (tgt := 37) hx hb d_MenuScreensModel_isName_80 (by decide) ?_
            exact ih_lp (k + 1) 0 (i + 1) ls  (by rw [ei]; exact nI_1 k) (by omega) (by omega) eg1 (by omega) (lv_sub hl [2, 1, 0] rfl)
          · skip
            refine lv_aload_n hx hb d_MenuScreensModel_isName_49 rfl (lv_at hl 0 rfl) ?_
            refine mm_get C X M 6 f_12_13_13 (.ref (ar 6)) rfl d_MenuScreensModel_isName_50 ?_
            refine lv_iload_n hx hb d_MenuScreensModel_isName_53 rfl (lv_at hl 2 rfl) ?_
            refine mm_iald C X M 6 4000 rfl (A 6) rfl (by decide) k ei (by omega) d_MenuScreensModel_isName_54 ?_
            refine lv_bipush (v := 97) hx hb d_MenuScreensModel_isName_55 (by decide) ?_
            refine lv_icmp_lt (tgt := 75) hx hb d_MenuScreensModel_isName_57 (by decide) (fun c3 => ?_) (fun c3 => ?_)
            · skip
              refine lv_iconst (v := 0) hx hb d_MenuScreensModel_isName_75 (by decide) ?_
              have eg1 : (0 : Int32) = bI (b0 && nmB (A 6) F (k + 1 - F)) := by
                rw [nmB_s hk1, decide_eq_false (Int32.not_le.mpr c3), Bool.false_and, Bool.and_false, Bool.and_false]; rfl
              refine lv_istore_n (lv' := [(1, .int 0), (0, .ref a), (2, .int i)]) hx hb d_MenuScreensModel_isName_76 rfl hl (by decide) rfl (fun ls hl => ?_)
              refine lv_iinc (v := (i + 1)) (lv' := [(2, .int (i + 1)), (1, .int 0), (0, .ref a)]) hx hb d_MenuScreensModel_isName_77 hl (k := 2) rfl rfl (by decide) rfl (fun ls hl => ?_)
              refine lv_goto (tgt := 37) hx hb d_MenuScreensModel_isName_80 (by decide) ?_
              exact ih_lp (k + 1) 0 (i + 1) ls  (by rw [ei]; exact nI_1 k) (by omega) (by omega) eg1 (by omega) (lv_sub hl [2, 1, 0] rfl)
            · skip
              refine lv_aload_n hx hb d_MenuScreensModel_isName_60 rfl (lv_at hl 0 rfl) ?_
              refine mm_get C X M 6 f_12_13_13 (.ref (ar 6)) rfl d_MenuScreensModel_isName_61 ?_
              refine lv_iload_n hx hb d_MenuScreensModel_isName_64 rfl (lv_at hl 2 rfl) ?_
              refine mm_iald C X M 6 4000 rfl (A 6) rfl (by decide) k ei (by omega) d_MenuScreensModel_isName_65 ?_
              refine lv_bipush (v := 122) hx hb d_MenuScreensModel_isName_66 (by decide) ?_
              refine lv_icmp_gt (tgt := 75) hx hb d_MenuScreensModel_isName_68 (by decide) (fun c4 => ?_) (fun c4 => ?_)
              · skip
                refine lv_iconst (v := 0) hx hb d_MenuScreensModel_isName_75 (by decide) ?_
                have eg1 : (0 : Int32) = bI (b0 && nmB (A 6) F (k + 1 - F)) := by
                  rw [nmB_s hk1, decide_eq_false (Int32.not_le.mpr c4), Bool.and_false, Bool.and_false, Bool.and_false]; rfl
                refine lv_istore_n (lv' := [(1, .int 0), (0, .ref a), (2, .int i)]) hx hb d_MenuScreensModel_isName_76 rfl hl (by decide) rfl (fun ls hl => ?_)
                refine lv_iinc (v := (i + 1)) (lv' := [(2, .int (i + 1)), (1, .int 0), (0, .ref a)]) hx hb d_MenuScreensModel_isName_77 hl (k := 2) rfl rfl (by decide) rfl (fun ls hl => ?_)
                refine lv_goto (tgt := 37) hx hb d_MenuScreensModel_isName_80 (by decide) ?_
                exact ih_lp (k + 1) 0 (i + 1) ls  (by rw [ei]; exact nI_1 k) (by omega) (by omega) eg1 (by omega) (lv_sub hl [2, 1, 0] rfl)
              · skip
                refine lv_iconst (v := 1) hx hb d_MenuScreensModel_isName_71 (by decide) ?_
                refine lv_goto (tgt := 76) hx hb d_MenuScreensModel_isName_72 (by decide) ?_
                have eg1 : (1 : Int32) = bI (b0 && nmB (A 6) F (k + 1 - F)) := by
                  have q0 : (b0 && nmB (A 6) F (k - F)) = true := bI_n (fun q => c2 (eg.trans q))
                  rw [nmB_s hk1, ← Bool.and_assoc, q0, decide_eq_true (Int32.not_lt.mp c3), decide_eq_true (Int32.not_lt.mp c4)]; rfl
                refine lv_istore_n (lv' := [(1, .int 1), (0, .ref a), (2, .int i)]) hx hb d_MenuScreensModel_isName_76 rfl hl (by decide) rfl (fun ls hl => ?_)
                refine lv_iinc (v := (i + 1)) (lv' := [(2, .int (i + 1)), (1, .int 1), (0, .ref a)]) hx hb d_MenuScreensModel_isName_77 hl (k := 2) rfl rfl (by decide) rfl (fun ls hl => ?_)
                refine lv_goto (tgt := 37) hx hb d_MenuScreensModel_isName_80 (by decide) ?_
                exact ih_lp (k + 1) 1 (i + 1) ls  (by rw [ei]; exact nI_1 k) (by omega) (by omega) eg1 (by omega) (lv_sub hl [2, 1, 0] rfl)
    exact lp (T - F + 1) F (bI b0) (x 9) ls  hF (Nat.le_refl _) hFT (by rw [Nat.sub_self]; simp [nmB]) (Nat.lt_succ_self _) (lv_sub hl [2, 1, 0] rfl)
  refine lv_aload_n hx hb d_MenuScreensModel_isName_0 rfl (lv_at hl 0 rfl) ?_
  refine mm_get C X M 10 f_12_142_13 (.int (x 10)) rfl d_MenuScreensModel_isName_1 ?_
  refine lv_aload_n hx hb d_MenuScreensModel_isName_4 rfl (lv_at hl 0 rfl) ?_
  refine mm_get C X M 9 f_12_139_13 (.int (x 9)) rfl d_MenuScreensModel_isName_5 ?_
  refine lv_isub hx hb d_MenuScreensModel_isName_8 ?_
  refine lv_if_le (tgt := 30) hx hb d_MenuScreensModel_isName_9 (by decide) (fun c5 => ?_) (fun c5 => ?_)
  · skip
    refine lv_iconst (v := 0) hx hb d_MenuScreensModel_isName_30 (by decide) ?_
    have eb : b0 = false := by
      rw [hb0]
      have : ¬ 0 < T - F := fun q => absurd (by rw [← hTF]; exact c5) (nI_nle q (by omega))
      simp [this]
    rw [show (0 : Int32) = bI b0 by rw [eb]; rfl]
    exact j31 ls (lv_sub hl [0] rfl)
  · skip
    refine lv_aload_n hx hb d_MenuScreensModel_isName_12 rfl (lv_at hl 0 rfl) ?_
    refine mm_get C X M 10 f_12_142_13 (.int (x 10)) rfl d_MenuScreensModel_isName_13 ?_
    refine lv_aload_n hx hb d_MenuScreensModel_isName_16 rfl (lv_at hl 0 rfl) ?_
    refine mm_get C X M 9 f_12_139_13 (.int (x 9)) rfl d_MenuScreensModel_isName_17 ?_
    refine lv_isub hx hb d_MenuScreensModel_isName_20 ?_
    refine lv_bipush (v := 8) hx hb d_MenuScreensModel_isName_21 (by decide) ?_
    refine lv_icmp_gt (tgt := 30) hx hb d_MenuScreensModel_isName_23 (by decide) (fun c6 => ?_) (fun c6 => ?_)
    · skip
      refine lv_iconst (v := 0) hx hb d_MenuScreensModel_isName_30 (by decide) ?_
      have eb : b0 = false := by
        rw [hb0]
        have : ¬ T - F ≤ 8 := fun q => absurd (by rw [hTF]; exact nI_le q (by decide)) (Int32.not_le.mpr c6)
        simp [this]
      rw [show (0 : Int32) = bI b0 by rw [eb]; rfl]
      exact j31 ls (lv_sub hl [0] rfl)
    · skip
      refine lv_iconst (v := 1) hx hb d_MenuScreensModel_isName_26 (by decide) ?_
      refine lv_goto (tgt := 31) hx hb d_MenuScreensModel_isName_27 (by decide) ?_
      have eb : b0 = true := by
        rw [hb0, Bool.and_eq_true, decide_eq_true_eq, decide_eq_true_eq]
        refine ⟨?_, ?_⟩
        · rcases Nat.eq_zero_or_pos (T - F) with q | q
          · exact absurd (by rw [hTF, q]; decide) c5
          · exact q
        · exact (nI_leI (a := T - F) (b := 8) (by omega) (by decide)).mp (by rw [← hTF]; exact Int32.not_lt.mp c6)
      rw [show (1 : Int32) = bI b0 by rw [eb]; rfl]
      exact j31 ls (lv_sub hl [0] rfl)
