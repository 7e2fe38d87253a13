theorem d_Plan_clearScreensAndValues_0 : decode prog_5_method_3_code 0 = .ok (.aload_n 0, 1) := by decide +kernel
theorem d_Plan_clearScreensAndValues_1 : decode prog_5_method_3_code 1 = .ok (.getfield 12, 3) := by decide +kernel
theorem d_Plan_clearScreensAndValues_4 : decode prog_5_method_3_code 4 = .ok (.invokevirtual 32, 3) := by decide +kernel
theorem d_Plan_clearScreensAndValues_7 : decode prog_5_method_3_code 7 = .ok (.aload_n 0, 1) := by decide +kernel
theorem d_Plan_clearScreensAndValues_8 : decode prog_5_method_3_code 8 = .ok (.getfield 18, 3) := by decide +kernel
theorem d_Plan_clearScreensAndValues_11 : decode prog_5_method_3_code 11 = .ok (.invokevirtual 32, 3) := by decide +kernel
theorem d_Plan_clearScreensAndValues_14 : decode prog_5_method_3_code 14 = .ok (.return_, 1) := by decide +kernel
set_option maxRecDepth 100000 in
set_option maxHeartbeats 4000000 in
theorem cm_Plan_clearScreensAndValues {l : Launch} {S0 : State} {b : Nat} {D : va_G} {dT : Nat → ClassId} (hE : vEnv S0 b D dT) {dE mO : Nat} (hJ : vJ S0 dE mO) {h0 : vH} {hcv : vH} {ad : Nat → Nat → Nat} {L : vL} {rc : Int32} {nv ns : Nat} {gv gs : Nat → Nat} (x : LH S0.heap.size hcv h0 ad L) (hcE : ∃ fE, hcv dE = some (aR dT 0 fE)) (hV : rLst dT dE ad L 3 30 0 nv gv) (hS : rLst dT dE ad L 4 31 0 ns gs) (h20 : L 2 0 = some (.inr (4, [.ref (ad 3 0), .ref (ad 4 0), .ref (ad 5 0), .int rc]))) : vMv l S0 D vcl GT y_Plan_clearScreensAndValues prog_5_method_3_code 1 none 1 23 0 0 [.ref (ad 2 0)] h0 (fun h' => ∃ L2, LR S0.heap.size hcv h0 ad L h' ad L2 ∧ rLst dT dE ad L2 3 30 0 0 (ad 10) ∧ rLst dT dE ad L2 4 31 0 0 (ad 11) ∧ ∀ i, i ≠ 3 → i ≠ 30 → i ≠ 4 → i ≠ 31 → L2 i = L i) := by
  unfold vMv
  refine vM_ofQ hE.1 (by decide) (Nat.le_of_ble_eq_true rfl) (fun p e s m args below meth c ls Q hQ C hr hlk hnm X hl => ?_)
  have C : vC p s m _ c _ _ "MenuScreens$Plan" GT D vcl (vty dT) := C
  have hx := C.1.1
  have hb := C.1.2.1
  obtain ⟨H, eH⟩ : ∃ z, z = s.heap := ⟨_, rfl⟩
  obtain ⟨locs, elocs⟩ : ∃ z : List Loc, z = [] := ⟨_, rfl⟩
  rw [← eH, ← elocs] at X
  rw [← eH, ← elocs]
  clear eH elocs
  have hl : lv_has ls 1 [(0, .ref (ad 2 0))] := hl
  obtain ⟨fE, hcE2⟩ := hcE
  refine lv_aload_n hx hb d_Plan_clearScreensAndValues_0 rfl (lv_at hl 0 rfl) ?_
  refine mv_get C X (x.get (i := 2) (j := 0) h20) 0 f_4_12_4 (v := .ref (ad 3 0)) rfl d_Plan_clearScreensAndValues_1 ?_
  obtain ⟨ea, cap, fl, md, hL1, hl1, he1⟩ := hV.hp2 x hcE2
  refine mv_bv X (mv_rV (rest := []) (As := []) gt_good C X k_4_32 (cm_AL_clear hE hJ hL1) hL1.1 rfl rfl ⟨Nat.le_of_ble_eq_true rfl, Nat.le_of_ble_eq_true rfl⟩ rfl hl.1 rfl (Nat.le_of_ble_eq_true rfl) d_Plan_clearScreensAndValues_4 ⟨Nat.zero_le _, Nat.zero_le _⟩) (fun hN H locs hp X => ?_)
  obtain ⟨k1, ek1⟩ : ∃ z, z = hN := ⟨_, rfl⟩
  rw [← ek1] at X hp
  clear ek1
  obtain ⟨L1, x1, hV1, kp1⟩ := lst_clr (g' := ad 10) (LR.of x) (by decide) hl1 he1 (x.1 _ _ hcE2).1 hp
  have hS1 : rLst dT dE ad L1 4 31 0 ns gs := hS.kept (kp1 4 0 (by omega) (by omega)) (kp1 31 0 (by omega) (by omega)) rfl (fun _ _ => rfl)
  have h21 := (kp1 2 0 (by omega) (by omega)).trans h20
  refine lv_aload_n hx hb d_Plan_clearScreensAndValues_7 rfl (lv_at hl 0 rfl) ?_
  refine mv_get C X (x1.1.get (i := 2) (j := 0) h21) 1 f_4_18_4 (v := .ref (ad 4 0)) rfl d_Plan_clearScreensAndValues_8 ?_
  obtain ⟨ea2, cap2, fl2, md2, hL2, hl2, he2⟩ := hS1.hp2 x1.1 hcE2
  refine mv_bv X (mv_rV (rest := []) (As := []) gt_good C X k_4_32 (cm_AL_clear hE hJ hL2) hL2.1 rfl rfl ⟨Nat.le_of_ble_eq_true rfl, Nat.le_of_ble_eq_true rfl⟩ rfl hl.1 rfl (Nat.le_of_ble_eq_true rfl) d_Plan_clearScreensAndValues_11 ⟨Nat.zero_le _, Nat.zero_le _⟩) (fun hN H locs hp X => ?_)
  obtain ⟨L2, x2, hS2, kp2⟩ := lst_clr (g' := ad 11) x1 (by decide) hl2 he2 (x.1 _ _ hcE2).1 hp
  have hV2 : rLst dT dE ad L2 3 30 0 0 (ad 10) := hV1.kept (kp2 3 0 (by omega) (by omega)) (kp2 30 0 (by omega) (by omega)) rfl (fun _ _ => rfl)
  have kp3 : ∀ i, i ≠ 3 → i ≠ 30 → i ≠ 4 → i ≠ 31 → L2 i = L i := fun i a1 a2 a3 a4 => funext (fun j => (kp2 i j (by omega) (by omega)).trans (kp1 i j (by omega) (by omega)))
  exact mq_vret hQ C X hr hlk (⟨L2, x2, hV2, hS2, kp3⟩) (by omega) (by omega) d_Plan_clearScreensAndValues_14
theorem d_Plan_clear_0 : decode prog_5_method_2_code 0 = .ok (.aload_n 0, 1) := by decide +kernel
theorem d_Plan_clear_1 : decode prog_5_method_2_code 1 = .ok (.invokevirtual 25, 3) := by decide +kernel
theorem d_Plan_clear_4 : decode prog_5_method_2_code 4 = .ok (.aload_n 0, 1) := by decide +kernel
theorem d_Plan_clear_5 : decode prog_5_method_2_code 5 = .ok (.iconst 0, 1) := by decide +kernel
theorem d_Plan_clear_6 : decode prog_5_method_2_code 6 = .ok (.putfield 28, 3) := by decide +kernel
theorem d_Plan_clear_9 : decode prog_5_method_2_code 9 = .ok (.return_, 1) := by decide +kernel
set_option maxRecDepth 100000 in
set_option maxHeartbeats 4000000 in
theorem cm_Plan_clear {l : Launch} {S0 : State} {b : Nat} {D : va_G} {dT : Nat → ClassId} (hE : vEnv S0 b D dT) {dE mO : Nat} (hJ : vJ S0 dE mO) {h0 : vH} {hcv : vH} {ad : Nat → Nat → Nat} {L : vL} {rc : Int32} {nv ns : Nat} {gv gs : Nat → Nat} (x : LH S0.heap.size hcv h0 ad L) (hcE : ∃ fE, hcv dE = some (aR dT 0 fE)) (hV : rLst dT dE ad L 3 30 0 nv gv) (hS : rLst dT dE ad L 4 31 0 ns gs) (h20 : L 2 0 = some (.inr (4, [.ref (ad 3 0), .ref (ad 4 0), .ref (ad 5 0), .int rc]))) : vMv l S0 D vcl GT y_Plan_clear prog_5_method_2_code 1 none 2 43 0 0 [.ref (ad 2 0)] h0 (fun h' => ∃ L2, LR S0.heap.size hcv h0 ad L h' ad L2 ∧ rLst dT dE ad L2 3 30 0 0 (ad 10) ∧ rLst dT dE ad L2 4 31 0 0 (ad 11) ∧ L2 2 0 = some (.inr (4, [.ref (ad 3 0), .ref (ad 4 0), .ref (ad 5 0), .int 0])) ∧ ∀ i, i ≠ 2 → i ≠ 3 → i ≠ 30 → i ≠ 4 → i ≠ 31 → L2 i = L i) := by
  unfold vMv
  refine vM_ofQ hE.1 (by decide) (Nat.le_of_ble_eq_true rfl) (fun p e s m args below meth c ls Q hQ C hr hlk hnm X hl => ?_)
  have C : vC p s m _ c _ _ "MenuScreens$Plan" GT D vcl (vty dT) := C
  have hx := C.1.1
  have hb := C.1.2.1
  obtain ⟨H, eH⟩ : ∃ z, z = s.heap := ⟨_, rfl⟩
  obtain ⟨locs, elocs⟩ : ∃ z : List Loc, z = [] := ⟨_, rfl⟩
  rw [← eH, ← elocs] at X
  rw [← eH, ← elocs]
  clear eH elocs
  have hl : lv_has ls 1 [(0, .ref (ad 2 0))] := hl
  refine lv_aload_n hx hb d_Plan_clear_0 rfl (lv_at hl 0 rfl) ?_
  refine mv_bv X (mv_rV (rest := []) (As := []) gt_good C X k_4_25 (cm_Plan_clearScreensAndValues hE hJ x hcE hV hS h20) (x.get (i := 2) (j := 0) h20) rfl rfl ⟨Nat.le_of_ble_eq_true rfl, Nat.le_of_ble_eq_true rfl⟩ rfl hl.1 rfl (Nat.le_of_ble_eq_true rfl) d_Plan_clear_1 ⟨Nat.zero_le _, Nat.zero_le _⟩) (fun hN H locs hp X => ?_)
  obtain ⟨L2, x2, hV2, hS2, kp⟩ := hp
  have h22 : L2 2 0 = some (.inr (4, [.ref (ad 3 0), .ref (ad 4 0), .ref (ad 5 0), .int rc])) := by rw [kp 2 (by decide) (by decide) (by decide) (by decide)]; exact h20
  refine lv_aload_n hx hb d_Plan_clear_4 rfl (lv_at hl 0 rfl) ?_
  refine lv_iconst (v := 0) hx hb d_Plan_clear_5 (by decide) ?_
  refine mv_put C X (x2.1.get (i := 2) (j := 0) h22) (x2.1.wr (i := 2) (j := 0) h22) 3 p_4_28_4 rfl rfl (Nat.le_of_ble_eq_true rfl) d_Plan_clear_6 (fun H locs X => ?_)
  have X : vO S0 D vcl (vup hN (ad 2 0) (.inr (4, [.ref (ad 3 0), .ref (ad 4 0), .ref (ad 5 0), .int 0]))) s H locs := X
  exact mq_vret hQ C X hr hlk (⟨lput L2 2 0 _, x2.put (i := 2) (j := 0) h22, hV2, hS2, lput_s _ _ _ _, fun i a0 a1 a2 a3 a4 => (lput_k _ _ a0).trans (kp i a1 a2 a3 a4)⟩) (by omega) (by omega) d_Plan_clear_9
theorem d_Plan_hasKeyTowardsHome_0 : decode prog_5_method_12_code 0 = .ok (.iconst 1, 1) := by decide +kernel
theorem d_Plan_hasKeyTowardsHome_1 : decode prog_5_method_12_code 1 = .ok (.istore_n 2, 1) := by decide +kernel
theorem d_Plan_hasKeyTowardsHome_2 : decode prog_5_method_12_code 2 = .ok (.iload_n 2, 1) := by decide +kernel
theorem d_Plan_hasKeyTowardsHome_3 : decode prog_5_method_12_code 3 = .ok (.bipush 9, 2) := by decide +kernel
theorem d_Plan_hasKeyTowardsHome_5 : decode prog_5_method_12_code 5 = .ok (.if_icmp .gt 32, 3) := by decide +kernel
theorem d_Plan_hasKeyTowardsHome_8 : decode prog_5_method_12_code 8 = .ok (.aload_n 0, 1) := by decide +kernel
theorem d_Plan_hasKeyTowardsHome_9 : decode prog_5_method_12_code 9 = .ok (.aload_n 1, 1) := by decide +kernel
theorem d_Plan_hasKeyTowardsHome_10 : decode prog_5_method_12_code 10 = .ok (.iload_n 2, 1) := by decide +kernel
theorem d_Plan_hasKeyTowardsHome_11 : decode prog_5_method_12_code 11 = .ok (.invokevirtual 74, 3) := by decide +kernel
theorem d_Plan_hasKeyTowardsHome_14 : decode prog_5_method_12_code 14 = .ok (.invokevirtual 78, 3) := by decide +kernel
theorem d_Plan_hasKeyTowardsHome_17 : decode prog_5_method_12_code 17 = .ok (.astore_n 3, 1) := by decide +kernel
theorem d_Plan_hasKeyTowardsHome_18 : decode prog_5_method_12_code 18 = .ok (.aload_n 3, 1) := by decide +kernel
theorem d_Plan_hasKeyTowardsHome_19 : decode prog_5_method_12_code 19 = .ok (.ifnull 12, 3) := by decide +kernel
theorem d_Plan_hasKeyTowardsHome_22 : decode prog_5_method_12_code 22 = .ok (.aload_n 3, 1) := by decide +kernel
theorem d_Plan_hasKeyTowardsHome_23 : decode prog_5_method_12_code 23 = .ok (.getfield 66, 3) := by decide +kernel
theorem d_Plan_hasKeyTowardsHome_26 : decode prog_5_method_12_code 26 = .ok (.ifCond .eq 5, 3) := by decide +kernel
theorem d_Plan_hasKeyTowardsHome_29 : decode prog_5_method_12_code 29 = .ok (.iconst 1, 1) := by decide +kernel
theorem d_Plan_hasKeyTowardsHome_30 : decode prog_5_method_12_code 30 = .ok (.ireturn, 1) := by decide +kernel
theorem d_Plan_hasKeyTowardsHome_31 : decode prog_5_method_12_code 31 = .ok (.iinc 2 1, 3) := by decide +kernel
theorem d_Plan_hasKeyTowardsHome_34 : decode prog_5_method_12_code 34 = .ok (.goto (-32), 3) := by decide +kernel
theorem d_Plan_hasKeyTowardsHome_37 : decode prog_5_method_12_code 37 = .ok (.iconst 0, 1) := by decide +kernel
theorem d_Plan_hasKeyTowardsHome_38 : decode prog_5_method_12_code 38 = .ok (.ireturn, 1) := by decide +kernel
set_option maxRecDepth 100000 in
set_option maxHeartbeats 4000000 in
theorem cm_Plan_hasKeyTowardsHome {l : Launch} {S0 : State} {b : Nat} {D : va_G} {dT : Nat → ClassId} (hE : vEnv S0 b D dT) {dE mO : Nat} (hJ : vJ S0 dE mO) {h0 : vH} {hcv : vH} {ad : Nat → Nat → Nat} {L : vL} {rc : Int32} {A : Nat → Nat → Int32} {B : Nat → Nat → Int64} {nv ns np nc : Nat} {pf cb ce cs : Nat → Nat} {c0 : Nat} {lh : Nat → Bool} {kf : Nat → Nat → Nat} (x : LH S0.heap.size hcv h0 ad L) (hcE : ∃ fE, hcv dE = some (aR dT 0 fE)) (hRP : RP dT dE h0 ad L A B nv ns np nc pf cb ce cs c0 lh (fun s k => nI (kf s k))) (h20 : L 2 0 = some (.inr (4, [.ref (ad 3 0), .ref (ad 4 0), .ref (ad 5 0), .int rc]))) (hns : ns ≤ 30) (hkf : ∀ s k, kf s k ≤ ns) {s0 : Nat} (hs0 : s0 < ns) : vMi l S0 D vcl GT y_Plan_hasKeyTowardsHome prog_5_method_12_code 4 (some .boolean) 4 85 0 0 [.ref (ad 2 0), .ref (ad 11 s0)] h0 (fun r h' => h' = h0 ∧ r = bI (anyK (kyB kf lh (s0 + 1)) 9)) := by
  unfold vMi
  refine vM_ofQ hE.1 (by decide) (Nat.le_of_ble_eq_true rfl) (fun p e s m args below meth c ls Q hQ C hr hlk hnm X hl => ?_)
  have C : vC p s m _ c _ _ "MenuScreens$Plan" GT D vcl (vty dT) := C
  have hx := C.1.1
  have hb := C.1.2.1
  obtain ⟨H, eH⟩ : ∃ z, z = s.heap := ⟨_, rfl⟩
  obtain ⟨locs, elocs⟩ : ∃ z : List Loc, z = [] := ⟨_, rfl⟩
  rw [← eH, ← elocs] at X
  rw [← eH, ← elocs]
  clear eH elocs
  have hl : lv_has ls 4 [(0, .ref (ad 2 0)), (1, .ref (ad 11 s0))] := hl
  obtain ⟨fE, hcE2⟩ := hcE
  obtain ⟨ea, cap, fl, md, hL, hfl, hLL, hea⟩ := hRP.2.1.1.hp x hcE2
  obtain ⟨kl, wl, ke, ⟨hncap, hcap⟩, hd⟩ := hL
  obtain ⟨gk, hgk1, hgk2⟩ := (hRP.2.1.2 s0 hs0).2.2.2.1
  refine lv_iconst (v := 1) hx hb d_Plan_hasKeyTowardsHome_0 (by decide) ?_
  refine lv_istore_n (lv' := [(2, .int 1), (0, .ref (ad 2 0)), (1, .ref (ad 11 s0))]) hx hb d_Plan_hasKeyTowardsHome_1 rfl hl (by decide) rfl (fun ls hl => ?_)
  have lp : ∀ (n_lp : Nat) (k : Nat) (i : Int32) (ls : Array Slot) (H : Heap) (locs : List Loc), (i = nI k) → (1 ≤ k) → (k ≤ 10) → (anyK (kyB kf lh (s0 + 1)) (k - 1) = false) → (10 - k) < n_lp → vO S0 D vcl h0 s H locs → lv_has ls 4 [(0, .ref (ad 2 0)), (1, .ref (ad 11 s0)), (2, .int i)] → W p l e (vRm 4 85 0 0) s m args below meth c H locs 0 0 Q (F0 m 2 ls []) := by
    intro n_lp
    induction n_lp with
    | zero => intros; exact absurd (by assumption) (Nat.not_lt_zero _)
    | succ n_lp ih_lp =>
      intro k i ls H locs ei hk1 hk2 ha hmu_lp X hl
      refine lv_iload_n hx hb d_Plan_hasKeyTowardsHome_2 rfl (lv_at hl 2 rfl) ?_
      refine lv_bipush (v := 9) hx hb d_Plan_hasKeyTowardsHome_3 (by decide) ?_
      refine lv_icmp_gt (tgt := 37) hx hb d_Plan_hasKeyTowardsHome_5 (by decide) (fun c1 => ?_) (fun c1 => ?_)
      · skip
        refine lv_iconst (v := 0) hx hb d_Plan_hasKeyTowardsHome_37 (by decide) ?_
        exact mq_iret hQ C X hr rfl hlk (⟨rfl, by
            have : k = 10 := by
              have := (nI_ltI (a := 9) (b := k) (by decide) (by omega)).mp (by rw [← ei]; exact c1)
              omega
            rw [this] at ha; rw [ha]; rfl⟩) (by omega) (by omega) d_Plan_hasKeyTowardsHome_38
      · skip
        have hk9 : k ≤ 9 := by
          rcases Nat.lt_or_ge 9 k with q | q
          · exact absurd (by rw [ei]; exact nI_lt (a := 9) q (by omega)) c1
          · exact q
        refine lv_aload_n hx hb d_Plan_hasKeyTowardsHome_8 rfl (lv_at hl 0 rfl) ?_
        refine lv_aload_n hx hb d_Plan_hasKeyTowardsHome_9 rfl (lv_at hl 1 rfl) ?_
        refine lv_iload_n hx hb d_Plan_hasKeyTowardsHome_10 rfl (lv_at hl 2 rfl) ?_
        refine mv_bi X (mv_rV (rest := [.ref (ad 2 0)]) (As := [.int i]) gt_good C X k_4_74 (cm_Screen_screenBehindKey hE (x.get (i := 11) (j := s0) (hRP.2.1.2 s0 hs0).1) (x.get (i := 15) (j := s0) hgk1)) (x.get (i := 11) (j := s0) (hRP.2.1.2 s0 hs0).1) rfl rfl ⟨Nat.le_of_ble_eq_true rfl, Nat.le_of_ble_eq_true rfl⟩ rfl hl.1 rfl (Nat.le_of_ble_eq_true rfl) d_Plan_hasKeyTowardsHome_11 ⟨Nat.zero_le _, Nat.zero_le _⟩) (fun r2 hN H locs hp X => ?_)
        obtain ⟨eh, hq⟩ := hp
        replace eh := eh.symm
        subst eh
        have hr : r2 = nI (kf (s0 + 1) k) := by
          rcases hq with ⟨hq, -⟩ | ⟨k2, a1, a2, a3, a4⟩
          · exfalso
            rcases hq with hq | hq
            · exact absurd hq (by rw [ei]; exact nI_nlt (b := 1) hk1 (by omega))
            · exact absurd hq (by rw [ei]; exact nI_nlt (a := 9) hk9 (by decide))
          · have : k2 = k := nI_eqI (by omega) (by omega) (by rw [← a3]; exact ei)
            rw [a4, this]; exact hgk2 k hk1 hk9
        subst hr
        have hkk := hkf (s0 + 1) k
        refine mv_bq X (mv_rV (rest := []) (As := [.int (nI (kf (s0 + 1) k))]) gt_good C X k_4_78 (cm_Plan_screenNumbered hE (g := ad 11) (fs := fun k => _) hncap (by omega) hfl (fun k hk => x.get (i := 11) (j := k) (hRP.2.1.2 k hk).1) (x.get (i := 2) (j := 0) h20) kl ke) (x.get (i := 2) (j := 0) h20) rfl rfl ⟨Nat.le_of_ble_eq_true rfl, Nat.le_of_ble_eq_true rfl⟩ rfl hl.1 rfl (Nat.le_of_ble_eq_true rfl) d_Plan_hasKeyTowardsHome_14 ⟨Nat.zero_le _, Nat.zero_le _⟩) (fun r3 hN H locs hp X => ?_)
        obtain ⟨eh, hq⟩ := hp
        replace eh := eh.symm
        subst eh
        rcases hq with ⟨hq, er⟩ | ⟨k2, hk2a, hk2b, er⟩
        · subst er
          have hz : kf (s0 + 1) k = 0 := by
            rcases hq with hq | hq
            · have := (nI_ltI (b := 1) (by omega) (by decide)).mp hq
              omega
            · have := (nI_ltI (by omega) (by omega)).mp hq
              omega
          change W _ _ _ _ _ _ _ _ _ _ _ _ _ _ _ (F0 _ _ _ (.null :: _))
          refine lv_astore_nN (lv' := [(3, .null), (0, .ref (ad 2 0)), (1, .ref (ad 11 s0)), (2, .int i)]) hx hb d_Plan_hasKeyTowardsHome_17 rfl hl (by decide) rfl (fun ls hl => ?_)
          refine lv_aload_nN hx hb d_Plan_hasKeyTowardsHome_18 rfl (lv_at hl 0 rfl) ?_
          refine lv_ifnullN (tgt := 31) hx hb d_Plan_hasKeyTowardsHome_19 (by decide) ?_
          refine lv_iinc (v := (i + 1)) (lv' := [(2, .int (i + 1)), (3, .null), (0, .ref (ad 2 0)), (1, .ref (ad 11 s0))]) hx hb d_Plan_hasKeyTowardsHome_31 hl (k := 3) rfl rfl (by decide) rfl (fun ls hl => ?_)
          refine lv_goto (tgt := 2) hx hb d_Plan_hasKeyTowardsHome_34 (by decide) ?_
          exact ih_lp (k + 1) (i + 1) ls _ _ (by rw [ei]; exact nI_1 k) (by omega) (by omega) (by
              rw [show k + 1 - 1 = (k - 1) + 1 by omega, anyK, ha, show k - 1 + 1 = k by omega, (show (kyB kf lh (s0 + 1)) k = false from by rw [kyB, hz]; rfl)]; rfl) (by omega) X (lv_sub hl [2, 3, 0] rfl)
        · subst er
          have hz : kf (s0 + 1) k = k2 + 1 := nI_eqI (by omega) (by omega) hk2b
          change W _ _ _ _ _ _ _ _ _ _ _ _ _ _ _ (F0 _ _ _ (.ref (ad 11 k2) :: _))
          refine lv_astore_n (lv' := [(3, .ref (ad 11 k2)), (0, .ref (ad 2 0)), (1, .ref (ad 11 s0)), (2, .int i)]) hx hb d_Plan_hasKeyTowardsHome_17 rfl hl (by decide) rfl (fun ls hl => ?_)
          refine lv_aload_n hx hb d_Plan_hasKeyTowardsHome_18 rfl (lv_at hl 0 rfl) ?_
          refine lv_ifnull hx hb d_Plan_hasKeyTowardsHome_19 ?_
          refine lv_aload_n hx hb d_Plan_hasKeyTowardsHome_22 rfl (lv_at hl 0 rfl) ?_
          refine mv_get C X (x.get (i := 11) (j := k2) (hRP.2.1.2 k2 hk2a).1) 6 f_4_66_9 (v := .int (bI (lh (k2 + 1)))) rfl d_Plan_hasKeyTowardsHome_23 ?_
          refine lv_if_eq (tgt := 31) hx hb d_Plan_hasKeyTowardsHome_26 (by decide) (fun c4 => ?_) (fun c4 => ?_)
          · skip
            refine lv_iinc (v := (i + 1)) (lv' := [(2, .int (i + 1)), (3, .ref (ad 11 k2)), (0, .ref (ad 2 0)), (1, .ref (ad 11 s0))]) hx hb d_Plan_hasKeyTowardsHome_31 hl (k := 3) rfl rfl (by decide) rfl (fun ls hl => ?_)
            refine lv_goto (tgt := 2) hx hb d_Plan_hasKeyTowardsHome_34 (by decide) ?_
            exact ih_lp (k + 1) (i + 1) ls _ _ (by rw [ei]; exact nI_1 k) (by omega) (by omega) (by
                rw [show k + 1 - 1 = (k - 1) + 1 by omega, anyK, ha, show k - 1 + 1 = k by omega, (show (kyB kf lh (s0 + 1)) k = false from by rw [kyB, hz, bI_0 c4, Bool.and_false])]; rfl) (by omega) X (lv_sub hl [2, 3, 0] rfl)
          · skip
            refine lv_iconst (v := 1) hx hb d_Plan_hasKeyTowardsHome_29 (by decide) ?_
            exact mq_iret hQ C X hr rfl hlk (⟨rfl, by rw [anyK_t (k := k) hk1 hk9 (show (kyB kf lh (s0 + 1)) k = true from by rw [kyB, hz, bI_n c4, decide_eq_true (Nat.succ_pos k2)]; rfl)]; rfl⟩) (by omega) (by omega) d_Plan_hasKeyTowardsHome_30
  exact lp (10 - 1 + 1) 1 1 ls _ _ rfl (Nat.le_refl _) (by decide) rfl (Nat.lt_succ_self _) X (lv_sub hl [1, 2, 0] rfl)
