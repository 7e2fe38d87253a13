theorem d_MenuScreensModel_next_0 : decode prog_13_method_4_code 0 = .ok (.aload_n 0, 1) := by decide +kernel
theorem d_MenuScreensModel_next_1 : decode prog_13_method_4_code 1 = .ok (.getfield 133, 3) := by decide +kernel
theorem d_MenuScreensModel_next_4 : decode prog_13_method_4_code 4 = .ok (.aload_n 0, 1) := by decide +kernel
theorem d_MenuScreensModel_next_5 : decode prog_13_method_4_code 5 = .ok (.getfield 136, 3) := by decide +kernel
theorem d_MenuScreensModel_next_8 : decode prog_13_method_4_code 8 = .ok (.if_icmp .ge 30, 3) := by decide +kernel
theorem d_MenuScreensModel_next_11 : decode prog_13_method_4_code 11 = .ok (.aload_n 0, 1) := by decide +kernel
theorem d_MenuScreensModel_next_12 : decode prog_13_method_4_code 12 = .ok (.getfield 13, 3) := by decide +kernel
theorem d_MenuScreensModel_next_15 : decode prog_13_method_4_code 15 = .ok (.aload_n 0, 1) := by decide +kernel
theorem d_MenuScreensModel_next_16 : decode prog_13_method_4_code 16 = .ok (.getfield 133, 3) := by decide +kernel
theorem d_MenuScreensModel_next_19 : decode prog_13_method_4_code 19 = .ok (.iaload, 1) := by decide +kernel
theorem d_MenuScreensModel_next_20 : decode prog_13_method_4_code 20 = .ok (.bipush 32, 2) := by decide +kernel
theorem d_MenuScreensModel_next_22 : decode prog_13_method_4_code 22 = .ok (.if_icmp .ne 16, 3) := by decide +kernel
theorem d_MenuScreensModel_next_25 : decode prog_13_method_4_code 25 = .ok (.aload_n 0, 1) := by decide +kernel
theorem d_MenuScreensModel_next_26 : decode prog_13_method_4_code 26 = .ok (.dup, 1) := by decide +kernel
theorem d_MenuScreensModel_next_27 : decode prog_13_method_4_code 27 = .ok (.getfield 133, 3) := by decide +kernel
theorem d_MenuScreensModel_next_30 : decode prog_13_method_4_code 30 = .ok (.iconst 1, 1) := by decide +kernel
theorem d_MenuScreensModel_next_31 : decode prog_13_method_4_code 31 = .ok (.iadd, 1) := by decide +kernel
theorem d_MenuScreensModel_next_32 : decode prog_13_method_4_code 32 = .ok (.putfield 133, 3) := by decide +kernel
theorem d_MenuScreensModel_next_35 : decode prog_13_method_4_code 35 = .ok (.goto (-35), 3) := by decide +kernel
theorem d_MenuScreensModel_next_38 : decode prog_13_method_4_code 38 = .ok (.aload_n 0, 1) := by decide +kernel
theorem d_MenuScreensModel_next_39 : decode prog_13_method_4_code 39 = .ok (.aload_n 0, 1) := by decide +kernel
theorem d_MenuScreensModel_next_40 : decode prog_13_method_4_code 40 = .ok (.getfield 133, 3) := by decide +kernel
theorem d_MenuScreensModel_next_43 : decode prog_13_method_4_code 43 = .ok (.putfield 139, 3) := by decide +kernel
theorem d_MenuScreensModel_next_46 : decode prog_13_method_4_code 46 = .ok (.aload_n 0, 1) := by decide +kernel
theorem d_MenuScreensModel_next_47 : decode prog_13_method_4_code 47 = .ok (.getfield 133, 3) := by decide +kernel
theorem d_MenuScreensModel_next_50 : decode prog_13_method_4_code 50 = .ok (.aload_n 0, 1) := by decide +kernel
theorem d_MenuScreensModel_next_51 : decode prog_13_method_4_code 51 = .ok (.getfield 136, 3) := by decide +kernel
theorem d_MenuScreensModel_next_54 : decode prog_13_method_4_code 54 = .ok (.if_icmp .ge 30, 3) := by decide +kernel
theorem d_MenuScreensModel_next_57 : decode prog_13_method_4_code 57 = .ok (.aload_n 0, 1) := by decide +kernel
theorem d_MenuScreensModel_next_58 : decode prog_13_method_4_code 58 = .ok (.getfield 13, 3) := by decide +kernel
theorem d_MenuScreensModel_next_61 : decode prog_13_method_4_code 61 = .ok (.aload_n 0, 1) := by decide +kernel
theorem d_MenuScreensModel_next_62 : decode prog_13_method_4_code 62 = .ok (.getfield 133, 3) := by decide +kernel
theorem d_MenuScreensModel_next_65 : decode prog_13_method_4_code 65 = .ok (.iaload, 1) := by decide +kernel
theorem d_MenuScreensModel_next_66 : decode prog_13_method_4_code 66 = .ok (.bipush 32, 2) := by decide +kernel
theorem d_MenuScreensModel_next_68 : decode prog_13_method_4_code 68 = .ok (.if_icmp .eq 16, 3) := by decide +kernel
theorem d_MenuScreensModel_next_71 : decode prog_13_method_4_code 71 = .ok (.aload_n 0, 1) := by decide +kernel
theorem d_MenuScreensModel_next_72 : decode prog_13_method_4_code 72 = .ok (.dup, 1) := by decide +kernel
theorem d_MenuScreensModel_next_73 : decode prog_13_method_4_code 73 = .ok (.getfield 133, 3) := by decide +kernel
theorem d_MenuScreensModel_next_76 : decode prog_13_method_4_code 76 = .ok (.iconst 1, 1) := by decide +kernel
theorem d_MenuScreensModel_next_77 : decode prog_13_method_4_code 77 = .ok (.iadd, 1) := by decide +kernel
theorem d_MenuScreensModel_next_78 : decode prog_13_method_4_code 78 = .ok (.putfield 133, 3) := by decide +kernel
theorem d_MenuScreensModel_next_81 : decode prog_13_method_4_code 81 = .ok (.goto (-35), 3) := by decide +kernel
theorem d_MenuScreensModel_next_84 : decode prog_13_method_4_code 84 = .ok (.aload_n 0, 1) := by decide +kernel
theorem d_MenuScreensModel_next_85 : decode prog_13_method_4_code 85 = .ok (.aload_n 0, 1) := by decide +kernel
theorem d_MenuScreensModel_next_86 : decode prog_13_method_4_code 86 = .ok (.getfield 133, 3) := by decide +kernel
theorem d_MenuScreensModel_next_89 : decode prog_13_method_4_code 89 = .ok (.putfield 142, 3) := by decide +kernel
theorem d_MenuScreensModel_next_92 : decode prog_13_method_4_code 92 = .ok (.aload_n 0, 1) := by decide +kernel
theorem d_MenuScreensModel_next_93 : decode prog_13_method_4_code 93 = .ok (.getfield 142, 3) := by decide +kernel
theorem d_MenuScreensModel_next_96 : decode prog_13_method_4_code 96 = .ok (.aload_n 0, 1) := by decide +kernel
theorem d_MenuScreensModel_next_97 : decode prog_13_method_4_code 97 = .ok (.getfield 139, 3) := by decide +kernel
theorem d_MenuScreensModel_next_100 : decode prog_13_method_4_code 100 = .ok (.if_icmp .le 7, 3) := by decide +kernel
theorem d_MenuScreensModel_next_103 : decode prog_13_method_4_code 103 = .ok (.iconst 1, 1) := by decide +kernel
theorem d_MenuScreensModel_next_104 : decode prog_13_method_4_code 104 = .ok (.goto 4, 3) := by decide +kernel
theorem d_MenuScreensModel_next_107 : decode prog_13_method_4_code 107 = .ok (.iconst 0, 1) := by decide +kernel
theorem d_MenuScreensModel_next_108 : decode prog_13_method_4_code 108 = .ok (.ireturn, 1) := by decide +kernel
set_option maxRecDepth 100000 in
set_option maxHeartbeats 4000000 in
theorem cm_MenuScreensModel_next {l : Launch} {S0 : State} {b : Nat} {D : va_G} {dT : Nat → ClassId} (hE : vEnv S0 b D dT) {h0 : vH} {a : Nat} {ar : Nat → Nat} {x : Nat → Int32} {y : Nat → Int64} {A : Nat → Nat → Int32} {B : Nat → Nat → Int64} (M : MV S0 dT h0 a ar x y A B) {i0 e0 F T : Nat} (hat : x 7 = nI i0) (hend : x 8 = nI e0) (hle : i0 ≤ e0) (he : e0 ≤ 4000) (hF : skp (A 6) (e0 - i0) i0 = F) (hT : wnd (A 6) (e0 - F) F = T) : vMi l S0 D vcl GT y_MenuScreensModel_next prog_13_method_4_code 1 (some .boolean) 0 0 0 0 [.ref a] h0 (fun r h' => ∃ x', MR S0 dT h0 h' a ar x' y A B ∧ x' = upd (upd (upd x 7 (nI T)) 9 (nI F)) 10 (nI T) ∧ r = if F < T then 1 else 0) := by
  unfold vMi
  refine vM_ofQ hE.1 (by decide) (Nat.le_of_ble_eq_true rfl) (fun p e s m args below meth c ls Q hQ C hr hlk hnm X hl => ?_)
  have C : vC p s m _ c _ _ "MenuScreensModel" GT D vcl (vty dT) := C
  have hx := C.1.1
  have hb := C.1.2.1
  replace M := MR.of M
  obtain ⟨H, eH⟩ : ∃ z, z = s.heap := ⟨_, rfl⟩
  obtain ⟨locs, elocs⟩ : ∃ z : List Loc, z = [] := ⟨_, rfl⟩
  rw [← eH, ← elocs] at X
  rw [← eH, ← elocs]
  clear eH elocs
  have hl : lv_has ls 1 [(0, .ref a)] := hl
  have hFe : F ≤ e0 := by rw [← hF]; exact (skp_in (A 6) e0 _ i0 rfl hle).2.1
  have hTe : T ≤ e0 := by rw [← hT]; exact (wnd_in (A 6) e0 _ F rfl hFe).2.1
  have jn : ∀ (i1 : Int32) (ls : Array Slot) (h : vH) (H : Heap) (locs : List Loc), (i1 = nI F) → vO S0 D vcl h s H locs → MR S0 dT h0 h a ar (upd x 7 i1) y A B → lv_has ls 1 [(0, .ref a)] → W p l e (vRm 0 0 0 0) s m args below meth c H locs 0 0 Q (F0 m 38 ls []) := by
    intro i1 ls h H locs e1 X M hl
    refine lv_aload_n hx hb d_MenuScreensModel_next_38 rfl (lv_at hl 0 rfl) ?_
    refine lv_aload_n hx hb d_MenuScreensModel_next_39 rfl (lv_at hl 0 rfl) ?_
    refine mm_get C X M 7 f_12_133_13 (.int i1) rfl d_MenuScreensModel_next_40 ?_
    refine mm_put C X M 9 p_12_139_13 (upd (upd x 7 i1) 9 i1) y rfl rfl rfl (by decide) d_MenuScreensModel_next_43 (fun h H locs X M => ?_)
    have j84 : ∀ (i2 : Int32) (ls : Array Slot) (h : vH) (H : Heap) (locs : List Loc), (i2 = nI T) → vO S0 D vcl h s H locs → MR S0 dT h0 h a ar (upd (upd x 7 i2) 9 i1) y A B → lv_has ls 1 [(0, .ref a)] → W p l e (vRm 0 0 0 0) s m args below meth c H locs 0 0 Q (F0 m 84 ls []) := by
      intro i2 ls h H locs e2 X M hl
      refine lv_aload_n hx hb d_MenuScreensModel_next_84 rfl (lv_at hl 0 rfl) ?_
      refine lv_aload_n hx hb d_MenuScreensModel_next_85 rfl (lv_at hl 0 rfl) ?_
      refine mm_get C X M 7 f_12_133_13 (.int i2) rfl d_MenuScreensModel_next_86 ?_
      refine mm_put C X M 10 p_12_142_13 (upd (upd (upd x 7 i2) 9 i1) 10 i2) y rfl rfl rfl (by decide) d_MenuScreensModel_next_89 (fun h H locs X M => ?_)
      refine lv_aload_n hx hb d_MenuScreensModel_next_92 rfl (lv_at hl 0 rfl) ?_
      refine mm_get C X M 10 f_12_142_13 (.int i2) rfl d_MenuScreensModel_next_93 ?_
      refine lv_aload_n hx hb d_MenuScreensModel_next_96 rfl (lv_at hl 0 rfl) ?_
      refine mm_get C X M 9 f_12_139_13 (.int i1) rfl d_MenuScreensModel_next_97 ?_
      refine lv_icmp_le (tgt := 107) hx hb d_MenuScreensModel_next_100 (by decide) (fun c1 => ?_) (fun c1 => ?_)
      · skip
        refine lv_iconst (v := 0) hx hb d_MenuScreensModel_next_107 (by decide) ?_
        exact mq_iret hQ C X hr rfl hlk (⟨(upd (upd (upd x 7 i2) 9 i1) 10 i2), M, by rw [e1, e2], (if_neg (fun q => absurd (by rw [e1, e2]; exact nI_lt q (by omega)) (Int32.not_lt.mpr c1))).symm⟩) (Nat.le_refl _) (Nat.le_refl _) d_MenuScreensModel_next_108
      · skip
        refine lv_iconst (v := 1) hx hb d_MenuScreensModel_next_103 (by decide) ?_
        refine lv_goto (tgt := 108) hx hb d_MenuScreensModel_next_104 (by decide) ?_
        exact mq_iret hQ C X hr rfl hlk (⟨(upd (upd (upd x 7 i2) 9 i1) 10 i2), M, by rw [e1, e2], (if_pos (by
            rcases Nat.lt_or_ge F T with q | q
            · exact q
            · exact absurd (by rw [e1, e2]; exact nI_le q (by omega)) c1)).symm⟩) (Nat.le_refl _) (Nat.le_refl _) d_MenuScreensModel_next_108
    have lp2 : ∀ (n_lp2 : Nat) (k : Nat) (i : Int32) (ls : Array Slot) (h : vH) (H : Heap) (locs : List Loc), (i = nI k) → (k ≤ e0) → (wnd (A 6) (e0 - k) k = T) → (e0 - k) < n_lp2 → vO S0 D vcl h s H locs → MR S0 dT h0 h a ar (upd (upd x 7 i) 9 i1) y A B → lv_has ls 1 [(0, .ref a)] → W p l e (vRm 0 0 0 0) s m args below meth c H locs 0 0 Q (F0 m 46 ls []) := by
      intro n_lp2
      induction n_lp2 with
      | zero => intros; exact absurd (by assumption) (Nat.not_lt_zero _)
      | succ n_lp2 ih_lp2 =>
        intro k i ls h H locs ei hk hs hmu_lp2 X M hl
        refine lv_aload_n hx hb d_MenuScreensModel_next_46 rfl (lv_at hl 0 rfl) ?_
        refine mm_get C X M 7 f_12_133_13 (.int i) rfl d_MenuScreensModel_next_47 ?_
        refine lv_aload_n hx hb d_MenuScreensModel_next_50 rfl (lv_at hl 0 rfl) ?_
        refine mm_get C X M 8 f_12_136_13 (.int (x 8)) rfl d_MenuScreensModel_next_51 ?_
        refine lv_icmp_ge (tgt := 84) hx hb d_MenuScreensModel_next_54 (by decide) (fun c2 => ?_) (fun c2 => ?_)
        · skip
          have hke : e0 ≤ k := (nI_leI (by omega) (by omega)).mp (by rw [← ei, ← hend]; exact c2)
          exact j84 i ls _ _ _ (by rw [ei]; exact congrArg nI ((wnd_e hke).symm.trans hs)) X M (lv_sub hl [0] rfl)
        · skip
          have hlt : k < e0 := by
            rcases Nat.lt_or_ge k e0 with q | q
            · exact q
            · exact absurd (by rw [hend, ei]; exact nI_le q (by omega)) c2
          refine lv_aload_n hx hb d_MenuScreensModel_next_57 rfl (lv_at hl 0 rfl) ?_
          refine mm_get C X M 6 f_12_13_13 (.ref (ar 6)) rfl d_MenuScreensModel_next_58 ?_
          refine lv_aload_n hx hb d_MenuScreensModel_next_61 rfl (lv_at hl 0 rfl) ?_
          refine mm_get C X M 7 f_12_133_13 (.int i) rfl d_MenuScreensModel_next_62 ?_
          refine mm_iald C X M 6 4000 rfl (A 6) rfl (by decide) k ei (by omega) d_MenuScreensModel_next_65 ?_
          refine lv_bipush (v := 32) hx hb d_MenuScreensModel_next_66 (by decide) ?_
          refine lv_icmp_eq (tgt := 84) hx hb d_MenuScreensModel_next_68 (by decide) (fun c3 => ?_) (fun c3 => ?_)
          · skip
            exact j84 i ls _ _ _ (by rw [ei]; exact congrArg nI ((wnd_n c3).symm.trans hs)) X M (lv_sub hl [0] rfl)
          · skip
            refine lv_aload_n hx hb d_MenuScreensModel_next_71 rfl (lv_at hl 0 rfl) ?_
            refine lv_dup hx hb d_MenuScreensModel_next_72 rfl ?_
            refine mm_get C X M 7 f_12_133_13 (.int i) rfl d_MenuScreensModel_next_73 ?_
            refine lv_iconst (v := 1) hx hb d_MenuScreensModel_next_76 (by decide) ?_
            refine lv_iadd hx hb d_MenuScreensModel_next_77 ?_
            refine mm_put C X M 7 p_12_133_13 (upd (upd x 7 (i + 1)) 9 i1) y rfl rfl rfl (by decide) d_MenuScreensModel_next_78 (fun h H locs X M => ?_)
            refine lv_goto (tgt := 46) hx hb d_MenuScreensModel_next_81 (by decide) ?_
            exact ih_lp2 (k + 1) (i + 1) ls _ _ _ (by rw [ei]; exact nI_1 k) (by omega) ((wnd_s hlt c3).symm.trans hs) (by omega) X M (lv_sub hl [0] rfl)
    exact lp2 (e0 - F + 1) F i1 ls _ _ _ e1 hFe hT (Nat.lt_succ_self _) X M (lv_sub hl [0] rfl)
  have lp1 : ∀ (n_lp1 : Nat) (k : Nat) (i : Int32) (ls : Array Slot) (h : vH) (H : Heap) (locs : List Loc), (i = nI k) → (k ≤ e0) → (skp (A 6) (e0 - k) k = F) → (e0 - k) < n_lp1 → vO S0 D vcl h s H locs → MR S0 dT h0 h a ar (upd x 7 i) y A B → lv_has ls 1 [(0, .ref a)] → W p l e (vRm 0 0 0 0) s m args below meth c H locs 0 0 Q (F0 m 0 ls []) := by
    intro n_lp1
    induction n_lp1 with
    | zero => intros; exact absurd (by assumption) (Nat.not_lt_zero _)
    | succ n_lp1 ih_lp1 =>
      intro k i ls h H locs ei hk hs hmu_lp1 X M hl
      refine lv_aload_n hx hb d_MenuScreensModel_next_0 rfl (lv_at hl 0 rfl) ?_
      refine mm_get C X M 7 f_12_133_13 (.int i) rfl d_MenuScreensModel_next_1 ?_
      refine lv_aload_n hx hb d_MenuScreensModel_next_4 rfl (lv_at hl 0 rfl) ?_
      refine mm_get C X M 8 f_12_136_13 (.int (x 8)) rfl d_MenuScreensModel_next_5 ?_
      refine lv_icmp_ge (tgt := 38) hx hb d_MenuScreensModel_next_8 (by decide) (fun c4 => ?_) (fun c4 => ?_)
      · skip
        have hke : e0 ≤ k := (nI_leI (by omega) (by omega)).mp (by rw [← ei, ← hend]; exact c4)
        exact jn i ls _ _ _ (by rw [ei]; exact congrArg nI ((skp_e hke).symm.trans hs)) X M (lv_sub hl [0] rfl)
      · skip
        have hlt : k < e0 := by
          rcases Nat.lt_or_ge k e0 with q | q
          · exact q
          · exact absurd (by rw [hend, ei]; exact nI_le q (by omega)) c4
        refine lv_aload_n hx hb d_MenuScreensModel_next_11 rfl (lv_at hl 0 rfl) ?_
        refine mm_get C X M 6 f_12_13_13 (.ref (ar 6)) rfl d_MenuScreensModel_next_12 ?_
        refine lv_aload_n hx hb d_MenuScreensModel_next_15 rfl (lv_at hl 0 rfl) ?_
        refine mm_get C X M 7 f_12_133_13 (.int i) rfl d_MenuScreensModel_next_16 ?_
        refine mm_iald C X M 6 4000 rfl (A 6) rfl (by decide) k ei (by omega) d_MenuScreensModel_next_19 ?_
        refine lv_bipush (v := 32) hx hb d_MenuScreensModel_next_20 (by decide) ?_
        refine lv_icmp_ne (tgt := 38) hx hb d_MenuScreensModel_next_22 (by decide) (fun c5 => ?_) (fun c5 => ?_)
        · skip
          exact jn i ls _ _ _ (by rw [ei]; exact congrArg nI ((skp_n c5).symm.trans hs)) X M (lv_sub hl [0] rfl)
        · skip
          refine lv_aload_n hx hb d_MenuScreensModel_next_25 rfl (lv_at hl 0 rfl) ?_
          refine lv_dup hx hb d_MenuScreensModel_next_26 rfl ?_
          refine mm_get C X M 7 f_12_133_13 (.int i) rfl d_MenuScreensModel_next_27 ?_
          refine lv_iconst (v := 1) hx hb d_MenuScreensModel_next_30 (by decide) ?_
          refine lv_iadd hx hb d_MenuScreensModel_next_31 ?_
          refine mm_put C X M 7 p_12_133_13 (upd x 7 (i + 1)) y rfl rfl rfl (by decide) d_MenuScreensModel_next_32 (fun h H locs X M => ?_)
          refine lv_goto (tgt := 0) hx hb d_MenuScreensModel_next_35 (by decide) ?_
          exact ih_lp1 (k + 1) (i + 1) ls _ _ _ (by rw [ei]; exact nI_1 k) (by omega) ((skp_s hlt c5).symm.trans hs) (by omega) X M (lv_sub hl [0] rfl)
  exact lp1 (e0 - i0 + 1) i0 (x 7) ls _ _ _ hat hle hF (Nat.lt_succ_self _) X M (lv_sub hl [0] rfl)
