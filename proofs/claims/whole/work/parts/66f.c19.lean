theorem d_Plan_markScreensThatLeadHome_0 : decode prog_5_method_11_code 0 = .ok (.iconst 0, 1) := by decide +kernel
theorem d_Plan_markScreensThatLeadHome_1 : decode prog_5_method_11_code 1 = .ok (.istore_n 1, 1) := by decide +kernel
theorem d_Plan_markScreensThatLeadHome_2 : decode prog_5_method_11_code 2 = .ok (.iload_n 1, 1) := by decide +kernel
theorem d_Plan_markScreensThatLeadHome_3 : decode prog_5_method_11_code 3 = .ok (.aload_n 0, 1) := by decide +kernel
theorem d_Plan_markScreensThatLeadHome_4 : decode prog_5_method_11_code 4 = .ok (.getfield 18, 3) := by decide +kernel
theorem d_Plan_markScreensThatLeadHome_7 : decode prog_5_method_11_code 7 = .ok (.invokevirtual 35, 3) := by decide +kernel
theorem d_Plan_markScreensThatLeadHome_10 : decode prog_5_method_11_code 10 = .ok (.if_icmp .ge 49, 3) := by decide +kernel
theorem d_Plan_markScreensThatLeadHome_13 : decode prog_5_method_11_code 13 = .ok (.aload_n 0, 1) := by decide +kernel
theorem d_Plan_markScreensThatLeadHome_14 : decode prog_5_method_11_code 14 = .ok (.getfield 18, 3) := by decide +kernel
theorem d_Plan_markScreensThatLeadHome_17 : decode prog_5_method_11_code 17 = .ok (.iload_n 1, 1) := by decide +kernel
theorem d_Plan_markScreensThatLeadHome_18 : decode prog_5_method_11_code 18 = .ok (.invokevirtual 39, 3) := by decide +kernel
theorem d_Plan_markScreensThatLeadHome_21 : decode prog_5_method_11_code 21 = .ok (.checkcast 49, 3) := by decide +kernel
theorem d_Plan_markScreensThatLeadHome_24 : decode prog_5_method_11_code 24 = .ok (.astore_n 2, 1) := by decide +kernel
theorem d_Plan_markScreensThatLeadHome_25 : decode prog_5_method_11_code 25 = .ok (.aload_n 2, 1) := by decide +kernel
theorem d_Plan_markScreensThatLeadHome_26 : decode prog_5_method_11_code 26 = .ok (.iload_n 1, 1) := by decide +kernel
theorem d_Plan_markScreensThatLeadHome_27 : decode prog_5_method_11_code 27 = .ok (.ifCond .eq 18, 3) := by decide +kernel
theorem d_Plan_markScreensThatLeadHome_30 : decode prog_5_method_11_code 30 = .ok (.aload_n 2, 1) := by decide +kernel
theorem d_Plan_markScreensThatLeadHome_31 : decode prog_5_method_11_code 31 = .ok (.getfield 66, 3) := by decide +kernel
theorem d_Plan_markScreensThatLeadHome_34 : decode prog_5_method_11_code 34 = .ok (.ifCond .ne 11, 3) := by decide +kernel
theorem d_Plan_markScreensThatLeadHome_37 : decode prog_5_method_11_code 37 = .ok (.aload_n 0, 1) := by decide +kernel
theorem d_Plan_markScreensThatLeadHome_38 : decode prog_5_method_11_code 38 = .ok (.aload_n 2, 1) := by decide +kernel
theorem d_Plan_markScreensThatLeadHome_39 : decode prog_5_method_11_code 39 = .ok (.invokevirtual 70, 3) := by decide +kernel
theorem d_Plan_markScreensThatLeadHome_42 : decode prog_5_method_11_code 42 = .ok (.ifCond .eq 7, 3) := by decide +kernel
theorem d_Plan_markScreensThatLeadHome_45 : decode prog_5_method_11_code 45 = .ok (.iconst 1, 1) := by decide +kernel
theorem d_Plan_markScreensThatLeadHome_46 : decode prog_5_method_11_code 46 = .ok (.goto 4, 3) := by decide +kernel
theorem d_Plan_markScreensThatLeadHome_49 : decode prog_5_method_11_code 49 = .ok (.iconst 0, 1) := by decide +kernel
theorem d_Plan_markScreensThatLeadHome_50 : decode prog_5_method_11_code 50 = .ok (.putfield 66, 3) := by decide +kernel
theorem d_Plan_markScreensThatLeadHome_53 : decode prog_5_method_11_code 53 = .ok (.iinc 1 1, 3) := by decide +kernel
theorem d_Plan_markScreensThatLeadHome_56 : decode prog_5_method_11_code 56 = .ok (.goto (-54), 3) := by decide +kernel
theorem d_Plan_markScreensThatLeadHome_59 : decode prog_5_method_11_code 59 = .ok (.return_, 1) := by decide +kernel
set_option maxRecDepth 100000 in
set_option maxHeartbeats 4000000 in
theorem cm_Plan_markScreensThatLeadHome {l : Launch} {S0 : State} {b : Nat} {D : va_G} {dT : Nat → ClassId} (hE : vEnv S0 b D dT) {dE mO : Nat} (hJ : vJ S0 dE mO) {h0 : vH} {hcv : vH} {ad : Nat → Nat → Nat} {L0 : vL} {rc : Int32} {A : Nat → Nat → Int32} {B : Nat → Nat → Int64} {nv ns np nc : Nat} {pf cb ce cs : Nat → Nat} {c0 : Nat} {lh0 : Nat → Bool} {kf : Nat → Nat → Nat} (x0 : LH S0.heap.size hcv h0 ad L0) (hcE : ∃ fE, hcv dE = some (aR dT 0 fE)) (hRP0 : RP dT dE h0 ad L0 A B nv ns np nc pf cb ce cs c0 lh0 (fun s k => nI (kf s k))) (h200 : L0 2 0 = some (.inr (4, [.ref (ad 3 0), .ref (ad 4 0), .ref (ad 5 0), .int rc]))) (hns : ns ≤ 30) (hkf : ∀ s k, kf s k ≤ ns) : vMv l S0 D vcl GT y_Plan_markScreensThatLeadHome prog_5_method_11_code 3 none 5 108 0 0 [.ref (ad 2 0)] h0 (fun h' => ∃ L, LR S0.heap.size hcv h0 ad L0 h' ad L ∧ RP dT dE h' ad L A B nv ns np nc pf cb ce cs c0 (cS kf ns 1 lh0) (fun s k => nI (kf s k)) ∧ ∀ i, i ≠ 11 → L i = L0 i) := by
  unfold vMv
  refine vM_ofQ hE.1 (by decide) (Nat.le_of_ble_eq_true rfl) (fun p e s m args below meth c ls Q hQ C hr hlk hnm X hl => ?_)
  have C : vC p s m _ c _ _ "MenuScreens$Plan" GT D vcl (vty dT) := C
  have hx := C.1.1
  have hb := C.1.2.1
  obtain ⟨H, eH⟩ : ∃ z, z = s.heap := ⟨_, rfl⟩
  obtain ⟨locs, elocs⟩ : ∃ z : List Loc, z = [] := ⟨_, rfl⟩
  rw [← eH, ← elocs] at X
  rw [← eH, ← elocs]
  clear eH elocs
  have hl : lv_has ls 3 [(0, .ref (ad 2 0))] := hl
  refine lv_iconst (v := 0) hx hb d_Plan_markScreensThatLeadHome_0 (by decide) ?_
  refine lv_istore_n (lv' := [(1, .int 0), (0, .ref (ad 2 0))]) hx hb d_Plan_markScreensThatLeadHome_1 rfl hl (by decide) rfl (fun ls hl => ?_)
  have lp : ∀ (n_lp : Nat) (i0 : Nat) (lh : Nat → Bool) (L : vL) (i : Int32) (ls : Array Slot) (h : vH) (H : Heap) (locs : List Loc), (i = nI i0) → (i0 ≤ ns) → (LR S0.heap.size hcv h0 ad L0 h ad L) → (RP dT dE h ad L A B nv ns np nc pf cb ce cs c0 lh (fun s k => nI (kf s k))) → (∀ i, i ≠ 11 → L i = L0 i) → (cS kf ns 1 lh0 = cS kf (ns - i0) (i0 + 1) lh) → (ns - i0) < n_lp → vO S0 D vcl h s H locs → lv_has ls 3 [(0, .ref (ad 2 0)), (1, .int i)] → W p l e (vRm 5 108 0 0) s m args below meth c H locs 0 0 Q (F0 m 2 ls []) := by
    intro n_lp
    induction n_lp with
    | zero => intros; exact absurd (by assumption) (Nat.not_lt_zero _)
    | succ n_lp ih_lp =>
      intro i0 lh L i ls h H locs ei hi0 xl hRP hkp hcs hmu_lp X hl
      refine lv_iload_n hx hb d_Plan_markScreensThatLeadHome_2 rfl (lv_at hl 1 rfl) ?_
      have h20 := (congrFun (hkp 2 (by decide)) 0).trans h200
      obtain ⟨fE, hcE2⟩ := id hcE
      obtain ⟨ea, cap, fl, md, hL, hfl, hLL, hea⟩ := hRP.2.1.1.hp xl.1 hcE2
      obtain ⟨kl, wl, ke, ⟨hncap, hcap⟩, hd⟩ := hL
      refine lv_aload_n hx hb d_Plan_markScreensThatLeadHome_3 rfl (lv_at hl 0 rfl) ?_
      refine mv_get C X (xl.1.get (i := 2) (j := 0) h20) 1 f_4_18_4 (v := .ref (ad 4 0)) rfl d_Plan_markScreensThatLeadHome_4 ?_
      refine mv_bi X (mv_rV (rest := [.int i]) (As := []) gt_good C X k_4_35 (cm_ArrayList_size hE kl) kl rfl rfl ⟨Nat.le_of_ble_eq_true rfl, Nat.le_of_ble_eq_true rfl⟩ rfl hl.1 rfl (Nat.le_of_ble_eq_true rfl) d_Plan_markScreensThatLeadHome_7 ⟨Nat.zero_le _, Nat.zero_le _⟩) (fun r1 hN H locs hp X => ?_)
      obtain ⟨eh, er⟩ := hp
      replace eh := eh.symm
      replace er := er.symm
      subst eh er
      refine lv_icmp_ge (tgt := 59) hx hb d_Plan_markScreensThatLeadHome_10 (by decide) (fun c2 => ?_) (fun c2 => ?_)
      · skip
        exact mq_vret hQ C X hr hlk (⟨L, xl, hRP.ks (fun _ _ _ _ _ _ => rfl) (fun s _ _ => by rw [hcs, show ns - i0 = 0 from by have := (nI_leI (a := ns) (b := i0) (by omega) (by omega)).mp (by rw [← ei]; exact c2); omega]; rfl), hkp⟩) (by omega) (by omega) d_Plan_markScreensThatLeadHome_59
      · skip
        have hin : i0 < ns := by
          rcases Nat.lt_or_ge i0 ns with q | q
          · exact q
          · exact absurd (by rw [ei]; exact nI_le q (by omega)) c2
        refine lv_aload_n hx hb d_Plan_markScreensThatLeadHome_13 rfl (lv_at hl 0 rfl) ?_
        refine mv_get C X (xl.1.get (i := 2) (j := 0) h20) 1 f_4_18_4 (v := .ref (ad 4 0)) rfl d_Plan_markScreensThatLeadHome_14 ?_
        refine lv_iload_n hx hb d_Plan_markScreensThatLeadHome_17 rfl (lv_at hl 1 rfl) ?_
        rw [ei]
        refine mv_bq X (mv_rV (rest := []) (As := [.int (nI i0)]) gt_good C X k_4_39 (cm_ArrayList_get hE hin hncap (by omega) kl ke) kl rfl rfl ⟨Nat.le_of_ble_eq_true rfl, Nat.le_of_ble_eq_true rfl⟩ rfl hl.1 rfl (Nat.le_of_ble_eq_true rfl) d_Plan_markScreensThatLeadHome_18 ⟨Nat.zero_le _, Nat.zero_le _⟩) (fun r3 hN H locs hp X => ?_)
        obtain ⟨eh, er⟩ := hp
        replace eh := eh.symm
        subst eh
        rw [hfl i0 hin] at er
        subst er
        change W _ _ _ _ _ _ _ _ _ _ _ _ _ _ _ (F0 _ _ _ (.ref (ad 11 i0) :: _))
        refine mv_castE C X (xl.1.get (i := 11) (j := i0) (hRP.2.1.2 i0 hin).1) rfl rfl (gt_3 168 (by decide +kernel) rfl) d_Plan_markScreensThatLeadHome_21 ?_
        refine lv_astore_n (lv' := [(2, .ref (ad 11 i0)), (0, .ref (ad 2 0)), (1, .int i)]) hx hb d_Plan_markScreensThatLeadHome_24 rfl hl (by decide) rfl (fun ls hl => ?_)
        refine lv_aload_n hx hb d_Plan_markScreensThatLeadHome_25 rfl (lv_at hl 0 rfl) ?_
        refine lv_iload_n hx hb d_Plan_markScreensThatLeadHome_26 rfl (lv_at hl 2 rfl) ?_
        refine lv_if_eq (tgt := 45) hx hb d_Plan_markScreensThatLeadHome_27 (by decide) (fun c4 => ?_) (fun c4 => ?_)
        · skip
          have hz0 : i0 = 0 := nI_eqI (b := 0) (by omega) (by decide) (by rw [← ei]; exact c4)
          refine lv_iconst (v := 1) hx hb d_Plan_markScreensThatLeadHome_45 (by decide) ?_
          refine lv_goto (tgt := 50) hx hb d_Plan_markScreensThatLeadHome_46 (by decide) ?_
          refine mv_put C X (xl.1.get (i := 11) (j := i0) (hRP.2.1.2 i0 hin).1) (xl.1.wr (i := 11) (j := i0) (hRP.2.1.2 i0 hin).1) 6 p_4_66_9 rfl rfl (Nat.le_of_ble_eq_true rfl) d_Plan_markScreensThatLeadHome_50 (fun H locs X => ?_)
          have X : vO S0 D vcl (vup h (ad 11 i0) (.inr (9, [(.long (nmV A 21 22 (i0 + 1))), (.int (A 23 (i0 + 1))), .ref (ad 12 i0), .ref (ad 14 i0), .ref (ad 15 i0), .int (brI (B 24 (i0 + 1))), .int 1]))) s H locs := X
          refine lv_iinc (v := (i + 1)) (lv' := [(1, .int (i + 1)), (2, .ref (ad 11 i0)), (0, .ref (ad 2 0))]) hx hb d_Plan_markScreensThatLeadHome_53 hl (k := 2) rfl rfl (by decide) rfl (fun ls hl => ?_)
          refine lv_goto (tgt := 2) hx hb d_Plan_markScreensThatLeadHome_56 (by decide) ?_
          exact ih_lp (i0 + 1) (va_up lh (i0 + 1) true) (lput L 11 i0 (some (.inr (9, [(.long (nmV A 21 22 (i0 + 1))), (.int (A 23 (i0 + 1))), .ref (ad 12 i0), .ref (ad 14 i0), .ref (ad 15 i0), .int (brI (B 24 (i0 + 1))), .int 1])))) (i + 1) ls _ _ _ (by rw [ei]; exact nI_1 i0) (by omega) (xl.put (i := 11) (j := i0) (hRP.2.1.2 i0 hin).1) (RP_lh (v := true) hRP hin rfl ((LR.of xl.1).put (i := 11) (j := i0) (hRP.2.1.2 i0 hin).1).2) (fun i a => (lput_k _ _ a).trans (hkp i a)) (by rw [hcs, cS_s hin, decide_eq_true hz0]; rfl) (by omega) X (lv_sub hl [2, 0] rfl)
        · skip
          have hz0 : ¬ i0 = 0 := fun z => c4 (by rw [ei, z]; rfl)
          refine lv_aload_n hx hb d_Plan_markScreensThatLeadHome_30 rfl (lv_at hl 0 rfl) ?_
          refine mv_get C X (xl.1.get (i := 11) (j := i0) (hRP.2.1.2 i0 hin).1) 6 f_4_66_9 (v := .int (bI (lh (i0 + 1)))) rfl d_Plan_markScreensThatLeadHome_31 ?_
          refine lv_if_ne (tgt := 45) hx hb d_Plan_markScreensThatLeadHome_34 (by decide) (fun c5 => ?_) (fun c5 => ?_)
          · skip
            refine lv_iconst (v := 1) hx hb d_Plan_markScreensThatLeadHome_45 (by decide) ?_
            refine lv_goto (tgt := 50) hx hb d_Plan_markScreensThatLeadHome_46 (by decide) ?_
            refine mv_put C X (xl.1.get (i := 11) (j := i0) (hRP.2.1.2 i0 hin).1) (xl.1.wr (i := 11) (j := i0) (hRP.2.1.2 i0 hin).1) 6 p_4_66_9 rfl rfl (Nat.le_of_ble_eq_true rfl) d_Plan_markScreensThatLeadHome_50 (fun H locs X => ?_)
            have X : vO S0 D vcl (vup h (ad 11 i0) (.inr (9, [(.long (nmV A 21 22 (i0 + 1))), (.int (A 23 (i0 + 1))), .ref (ad 12 i0), .ref (ad 14 i0), .ref (ad 15 i0), .int (brI (B 24 (i0 + 1))), .int 1]))) s H locs := X
            refine lv_iinc (v := (i + 1)) (lv' := [(1, .int (i + 1)), (2, .ref (ad 11 i0)), (0, .ref (ad 2 0))]) hx hb d_Plan_markScreensThatLeadHome_53 hl (k := 2) rfl rfl (by decide) rfl (fun ls hl => ?_)
            refine lv_goto (tgt := 2) hx hb d_Plan_markScreensThatLeadHome_56 (by decide) ?_
            exact ih_lp (i0 + 1) (va_up lh (i0 + 1) true) (lput L 11 i0 (some (.inr (9, [(.long (nmV A 21 22 (i0 + 1))), (.int (A 23 (i0 + 1))), .ref (ad 12 i0), .ref (ad 14 i0), .ref (ad 15 i0), .int (brI (B 24 (i0 + 1))), .int 1])))) (i + 1) ls _ _ _ (by rw [ei]; exact nI_1 i0) (by omega) (xl.put (i := 11) (j := i0) (hRP.2.1.2 i0 hin).1) (RP_lh (v := true) hRP hin rfl ((LR.of xl.1).put (i := 11) (j := i0) (hRP.2.1.2 i0 hin).1).2) (fun i a => (lput_k _ _ a).trans (hkp i a)) (by rw [hcs, cS_s hin, bI_n c5, Bool.true_or, Bool.or_true]) (by omega) X (lv_sub hl [2, 0] rfl)
          · skip
            refine lv_aload_n hx hb d_Plan_markScreensThatLeadHome_37 rfl (lv_at hl 1 rfl) ?_
            refine lv_aload_n hx hb d_Plan_markScreensThatLeadHome_38 rfl (lv_at hl 0 rfl) ?_
            refine mv_bi X (mv_rV (rest := [.ref (ad 11 i0)]) (As := [.ref (ad 11 i0)]) gt_good C X k_4_70 (cm_Plan_hasKeyTowardsHome hE hJ xl.1 hcE hRP h20 hns hkf (s0 := i0) hin) (xl.1.get (i := 2) (j := 0) h20) rfl rfl ⟨Nat.le_of_ble_eq_true rfl, Nat.le_of_ble_eq_true rfl⟩ rfl hl.1 rfl (Nat.le_of_ble_eq_true rfl) d_Plan_markScreensThatLeadHome_39 ⟨Nat.zero_le _, Nat.zero_le _⟩) (fun r6 hN H locs hp X => ?_)
            obtain ⟨eh, er⟩ := hp
            replace eh := eh.symm
            replace er := er.symm
            subst eh er
            refine lv_if_eq (tgt := 49) hx hb d_Plan_markScreensThatLeadHome_42 (by decide) (fun c7 => ?_) (fun c7 => ?_)
            · skip
              refine lv_iconst (v := 0) hx hb d_Plan_markScreensThatLeadHome_49 (by decide) ?_
              refine mv_put C X (xl.1.get (i := 11) (j := i0) (hRP.2.1.2 i0 hin).1) (xl.1.wr (i := 11) (j := i0) (hRP.2.1.2 i0 hin).1) 6 p_4_66_9 rfl rfl (Nat.le_of_ble_eq_true rfl) d_Plan_markScreensThatLeadHome_50 (fun H locs X => ?_)
              have X : vO S0 D vcl (vup h (ad 11 i0) (.inr (9, [(.long (nmV A 21 22 (i0 + 1))), (.int (A 23 (i0 + 1))), .ref (ad 12 i0), .ref (ad 14 i0), .ref (ad 15 i0), .int (brI (B 24 (i0 + 1))), .int 0]))) s H locs := X
              refine lv_iinc (v := (i + 1)) (lv' := [(1, .int (i + 1)), (2, .ref (ad 11 i0)), (0, .ref (ad 2 0))]) hx hb d_Plan_markScreensThatLeadHome_53 hl (k := 2) rfl rfl (by decide) rfl (fun ls hl => ?_)
              refine lv_goto (tgt := 2) hx hb d_Plan_markScreensThatLeadHome_56 (by decide) ?_
              exact ih_lp (i0 + 1) (va_up lh (i0 + 1) false) (lput L 11 i0 (some (.inr (9, [(.long (nmV A 21 22 (i0 + 1))), (.int (A 23 (i0 + 1))), .ref (ad 12 i0), .ref (ad 14 i0), .ref (ad 15 i0), .int (brI (B 24 (i0 + 1))), .int 0])))) (i + 1) ls _ _ _ (by rw [ei]; exact nI_1 i0) (by omega) (xl.put (i := 11) (j := i0) (hRP.2.1.2 i0 hin).1) (RP_lh (v := false) hRP hin rfl ((LR.of xl.1).put (i := 11) (j := i0) (hRP.2.1.2 i0 hin).1).2) (fun i a => (lput_k _ _ a).trans (hkp i a)) (by rw [hcs, cS_s hin, decide_eq_false hz0, bI_0 c5, bI_0 c7]; rfl) (by omega) X (lv_sub hl [2, 0] rfl)
            · skip
              refine lv_iconst (v := 1) hx hb d_Plan_markScreensThatLeadHome_45 (by decide) ?_
              refine lv_goto (tgt := 50) hx hb d_Plan_markScreensThatLeadHome_46 (by decide) ?_
              refine mv_put C X (xl.1.get (i := 11) (j := i0) (hRP.2.1.2 i0 hin).1) (xl.1.wr (i := 11) (j := i0) (hRP.2.1.2 i0 hin).1) 6 p_4_66_9 rfl rfl (Nat.le_of_ble_eq_true rfl) d_Plan_markScreensThatLeadHome_50 (fun H locs X => ?_)
              have X : vO S0 D vcl (vup h (ad 11 i0) (.inr (9, [(.long (nmV A 21 22 (i0 + 1))), (.int (A 23 (i0 + 1))), .ref (ad 12 i0), .ref (ad 14 i0), .ref (ad 15 i0), .int (brI (B 24 (i0 + 1))), .int 1]))) s H locs := X
              refine lv_iinc (v := (i + 1)) (lv' := [(1, .int (i + 1)), (2, .ref (ad 11 i0)), (0, .ref (ad 2 0))]) hx hb d_Plan_markScreensThatLeadHome_53 hl (k := 2) rfl rfl (by decide) rfl (fun ls hl => ?_)
              refine lv_goto (tgt := 2) hx hb d_Plan_markScreensThatLeadHome_56 (by decide) ?_
              exact ih_lp (i0 + 1) (va_up lh (i0 + 1) true) (lput L 11 i0 (some (.inr (9, [(.long (nmV A 21 22 (i0 + 1))), (.int (A 23 (i0 + 1))), .ref (ad 12 i0), .ref (ad 14 i0), .ref (ad 15 i0), .int (brI (B 24 (i0 + 1))), .int 1])))) (i + 1) ls _ _ _ (by rw [ei]; exact nI_1 i0) (by omega) (xl.put (i := 11) (j := i0) (hRP.2.1.2 i0 hin).1) (RP_lh (v := true) hRP hin rfl ((LR.of xl.1).put (i := 11) (j := i0) (hRP.2.1.2 i0 hin).1).2) (fun i a => (lput_k _ _ a).trans (hkp i a)) (by rw [hcs, cS_s hin, bI_n c7, Bool.or_true, Bool.or_true]) (by omega) X (lv_sub hl [2, 0] rfl)
  exact lp (ns - 0 + 1) 0 lh0 L0 0 ls _ _ _ rfl (Nat.zero_le _) (LR.of x0) hRP0 (fun _ _ => rfl) rfl (Nat.lt_succ_self _) X (lv_sub hl [1, 0] rfl)
theorem d_Plan_firstWrongScreenLine_0 : decode prog_5_method_13_code 0 = .ok (.iconst 0, 1) := by decide +kernel
theorem d_Plan_firstWrongScreenLine_1 : decode prog_5_method_13_code 1 = .ok (.istore_n 1, 1) := by decide +kernel
theorem d_Plan_firstWrongScreenLine_2 : decode prog_5_method_13_code 2 = .ok (.iload_n 1, 1) := by decide +kernel
theorem d_Plan_firstWrongScreenLine_3 : decode prog_5_method_13_code 3 = .ok (.aload_n 0, 1) := by decide +kernel
theorem d_Plan_firstWrongScreenLine_4 : decode prog_5_method_13_code 4 = .ok (.getfield 18, 3) := by decide +kernel
theorem d_Plan_firstWrongScreenLine_7 : decode prog_5_method_13_code 7 = .ok (.invokevirtual 35, 3) := by decide +kernel
theorem d_Plan_firstWrongScreenLine_10 : decode prog_5_method_13_code 10 = .ok (.if_icmp .ge 40, 3) := by decide +kernel
theorem d_Plan_firstWrongScreenLine_13 : decode prog_5_method_13_code 13 = .ok (.aload_n 0, 1) := by decide +kernel
theorem d_Plan_firstWrongScreenLine_14 : decode prog_5_method_13_code 14 = .ok (.getfield 18, 3) := by decide +kernel
theorem d_Plan_firstWrongScreenLine_17 : decode prog_5_method_13_code 17 = .ok (.iload_n 1, 1) := by decide +kernel
theorem d_Plan_firstWrongScreenLine_18 : decode prog_5_method_13_code 18 = .ok (.invokevirtual 39, 3) := by decide +kernel
theorem d_Plan_firstWrongScreenLine_21 : decode prog_5_method_13_code 21 = .ok (.checkcast 49, 3) := by decide +kernel
theorem d_Plan_firstWrongScreenLine_24 : decode prog_5_method_13_code 24 = .ok (.astore_n 2, 1) := by decide +kernel
theorem d_Plan_firstWrongScreenLine_25 : decode prog_5_method_13_code 25 = .ok (.aload_n 2, 1) := by decide +kernel
theorem d_Plan_firstWrongScreenLine_26 : decode prog_5_method_13_code 26 = .ok (.getfield 66, 3) := by decide +kernel
theorem d_Plan_firstWrongScreenLine_29 : decode prog_5_method_13_code 29 = .ok (.ifCond .eq 10, 3) := by decide +kernel
theorem d_Plan_firstWrongScreenLine_32 : decode prog_5_method_13_code 32 = .ok (.aload_n 2, 1) := by decide +kernel
theorem d_Plan_firstWrongScreenLine_33 : decode prog_5_method_13_code 33 = .ok (.invokevirtual 82, 3) := by decide +kernel
theorem d_Plan_firstWrongScreenLine_36 : decode prog_5_method_13_code 36 = .ok (.ifCond .eq 8, 3) := by decide +kernel
theorem d_Plan_firstWrongScreenLine_39 : decode prog_5_method_13_code 39 = .ok (.aload_n 2, 1) := by decide +kernel
theorem d_Plan_firstWrongScreenLine_40 : decode prog_5_method_13_code 40 = .ok (.getfield 86, 3) := by decide +kernel
theorem d_Plan_firstWrongScreenLine_43 : decode prog_5_method_13_code 43 = .ok (.ireturn, 1) := by decide +kernel
theorem d_Plan_firstWrongScreenLine_44 : decode prog_5_method_13_code 44 = .ok (.iinc 1 1, 3) := by decide +kernel
theorem d_Plan_firstWrongScreenLine_47 : decode prog_5_method_13_code 47 = .ok (.goto (-45), 3) := by decide +kernel
theorem d_Plan_firstWrongScreenLine_50 : decode prog_5_method_13_code 50 = .ok (.iconst 0, 1) := by decide +kernel
theorem d_Plan_firstWrongScreenLine_51 : decode prog_5_method_13_code 51 = .ok (.ireturn, 1) := by decide +kernel
set_option maxRecDepth 100000 in
set_option maxHeartbeats 4000000 in
theorem cm_Plan_firstWrongScreenLine {l : Launch} {S0 : State} {b : Nat} {D : va_G} {dT : Nat → ClassId} (hE : vEnv S0 b D dT) {dE mO : Nat} (hJ : vJ S0 dE mO) {h0 : vH} {hcv : vH} {ad : Nat → Nat → Nat} {L : vL} {rc : Int32} {A : Nat → Nat → Int32} {B : Nat → Nat → Int64} {nv ns np nc : Nat} {pf cb ce cs : Nat → Nat} {c0 : Nat} {lh : Nat → Bool} (x : LH S0.heap.size hcv h0 ad L) (hcE : ∃ fE, hcv dE = some (aR dT 0 fE)) (hRP : RP dT dE h0 ad L A B nv ns np nc pf cb ce cs c0 lh (fun s k => nI (ldS A ns (10 * s + k)))) (h20 : L 2 0 = some (.inr (4, [.ref (ad 3 0), .ref (ad 4 0), .ref (ad 5 0), .int rc]))) (hns : ns ≤ 30) : vMi l S0 D vcl GT y_Plan_firstWrongScreenLine prog_5_method_13_code 3 (some .int) 3 64 0 0 [.ref (ad 2 0)] h0 (fun r h' => h' = h0 ∧ r = ffS A ns lh ns) := by
  unfold vMi
  refine vM_ofQ hE.1 (by decide) (Nat.le_of_ble_eq_true rfl) (fun p e s m args below meth c ls Q hQ C hr hlk hnm X hl => ?_)
  have C : vC p s m _ c _ _ "MenuScreens$Plan" GT D vcl (vty dT) := C
  have hx := C.1.1
  have hb := C.1.2.1
  obtain ⟨H, eH⟩ : ∃ z, z = s.heap := ⟨_, rfl⟩
  obtain ⟨locs, elocs⟩ : ∃ z : List Loc, z = [] := ⟨_, rfl⟩
  rw [← eH, ← elocs] at X
  rw [← eH, ← elocs]
  clear eH elocs
  have hl : lv_has ls 3 [(0, .ref (ad 2 0))] := hl
  have xl := LR.of x
  obtain ⟨fE, hcE2⟩ := id hcE
  obtain ⟨ea, cap, fl, md, hL, hfl, hLL, hea⟩ := hRP.2.1.1.hp xl.1 hcE2
  obtain ⟨kl, wl, ke, ⟨hncap, hcap⟩, hd⟩ := hL
  have hl23 : ∀ s, 1 ≤ s → s ≤ ns → ¬ A 23 s = 0 := fun s a b z => by
    obtain ⟨l, l1, l2, l3⟩ := (hRP.2.1.2 (s - 1) (by omega)).2.2.2.2.2
    rw [show s - 1 + 1 = s by omega] at l1
    rw [l1] at z
    have := nI_eqI (b := 0) (by omega) (by decide) z
    omega
  refine lv_iconst (v := 0) hx hb d_Plan_firstWrongScreenLine_0 (by decide) ?_
  refine lv_istore_n (lv' := [(1, .int 0), (0, .ref (ad 2 0))]) hx hb d_Plan_firstWrongScreenLine_1 rfl hl (by decide) rfl (fun ls hl => ?_)
  have lp : ∀ (n_lp : Nat) (i0 : Nat) (i : Int32) (ls : Array Slot) (H : Heap) (locs : List Loc), (i = nI i0) → (i0 ≤ ns) → (∀ s, 1 ≤ s → s ≤ i0 → bdS A ns lh s = false) → (ns - i0) < n_lp → vO S0 D vcl h0 s H locs → lv_has ls 3 [(0, .ref (ad 2 0)), (1, .int i)] → W p l e (vRm 3 64 0 0) s m args below meth c H locs 0 0 Q (F0 m 2 ls []) := by
    intro n_lp
    induction n_lp with
    | zero => intros; exact absurd (by assumption) (Nat.not_lt_zero _)
    | succ n_lp ih_lp =>
      intro i0 i ls H locs ei hi0 hbd hmu_lp X hl
      refine lv_iload_n hx hb d_Plan_firstWrongScreenLine_2 rfl (lv_at hl 1 rfl) ?_
      refine lv_aload_n hx hb d_Plan_firstWrongScreenLine_3 rfl (lv_at hl 0 rfl) ?_
      refine mv_get C X (x.get (i := 2) (j := 0) h20) 1 f_4_18_4 (v := .ref (ad 4 0)) rfl d_Plan_firstWrongScreenLine_4 ?_
      refine mv_bi X (mv_rV (rest := [.int i]) (As := []) gt_good C X k_4_35 (cm_ArrayList_size hE kl) kl rfl rfl ⟨Nat.le_of_ble_eq_true rfl, Nat.le_of_ble_eq_true rfl⟩ rfl hl.1 rfl (Nat.le_of_ble_eq_true rfl) d_Plan_firstWrongScreenLine_7 ⟨Nat.zero_le _, Nat.zero_le _⟩) (fun r1 hN H locs hp X => ?_)
      obtain ⟨eh, er⟩ := hp
      replace eh := eh.symm
      replace er := er.symm
      subst eh er
      refine lv_icmp_ge (tgt := 50) hx hb d_Plan_firstWrongScreenLine_10 (by decide) (fun c2 => ?_) (fun c2 => ?_)
      · skip
        refine lv_iconst (v := 0) hx hb d_Plan_firstWrongScreenLine_50 (by decide) ?_
        exact mq_iret hQ C X hr rfl hlk (⟨rfl, (ffS_first hl23 ns (Nat.le_refl _) (fun s a b => hbd s a (by have := (nI_leI (a := ns) (b := i0) (by omega) (by omega)).mp (by rw [← ei]; exact c2); omega))).symm⟩) (by omega) (by omega) d_Plan_firstWrongScreenLine_51
      · skip
        have hin : i0 < ns := by
          rcases Nat.lt_or_ge i0 ns with q | q
          · exact q
          · exact absurd (by rw [ei]; exact nI_le q (by omega)) c2
        refine lv_aload_n hx hb d_Plan_firstWrongScreenLine_13 rfl (lv_at hl 0 rfl) ?_
        refine mv_get C X (x.get (i := 2) (j := 0) h20) 1 f_4_18_4 (v := .ref (ad 4 0)) rfl d_Plan_firstWrongScreenLine_14 ?_
        refine lv_iload_n hx hb d_Plan_firstWrongScreenLine_17 rfl (lv_at hl 1 rfl) ?_
        rw [ei]
        refine mv_bq X (mv_rV (rest := []) (As := [.int (nI i0)]) gt_good C X k_4_39 (cm_ArrayList_get hE hin hncap (by omega) kl ke) kl rfl rfl ⟨Nat.le_of_ble_eq_true rfl, Nat.le_of_ble_eq_true rfl⟩ rfl hl.1 rfl (Nat.le_of_ble_eq_true rfl) d_Plan_firstWrongScreenLine_18 ⟨Nat.zero_le _, Nat.zero_le _⟩) (fun r3 hN H locs hp X => ?_)
        obtain ⟨eh, er⟩ := hp
        replace eh := eh.symm
        subst eh
        rw [hfl i0 hin] at er
        subst er
        change W _ _ _ _ _ _ _ _ _ _ _ _ _ _ _ (F0 _ _ _ (.ref (ad 11 i0) :: _))
        refine mv_castE C X (xl.1.get (i := 11) (j := i0) (hRP.2.1.2 i0 hin).1) rfl rfl (gt_3 168 (by decide +kernel) rfl) d_Plan_firstWrongScreenLine_21 ?_
        refine lv_astore_n (lv' := [(2, .ref (ad 11 i0)), (0, .ref (ad 2 0)), (1, .int i)]) hx hb d_Plan_firstWrongScreenLine_24 rfl hl (by decide) rfl (fun ls hl => ?_)
        obtain ⟨-, -, ⟨gn, hgn, hgn2⟩, ⟨gs, hgs, hgs2⟩, -⟩ := hRP.2.1.2 i0 hin
        refine lv_aload_n hx hb d_Plan_firstWrongScreenLine_25 rfl (lv_at hl 0 rfl) ?_
        refine mv_get C X (xl.1.get (i := 11) (j := i0) (hRP.2.1.2 i0 hin).1) 6 f_4_66_9 (v := .int (bI (lh (i0 + 1)))) rfl d_Plan_firstWrongScreenLine_26 ?_
        refine lv_if_eq (tgt := 39) hx hb d_Plan_firstWrongScreenLine_29 (by decide) (fun c4 => ?_) (fun c4 => ?_)
        · skip
          refine lv_aload_n hx hb d_Plan_firstWrongScreenLine_39 rfl (lv_at hl 0 rfl) ?_
          refine mv_get C X (xl.1.get (i := 11) (j := i0) (hRP.2.1.2 i0 hin).1) 1 f_4_86_9 (v := (.int (A 23 (i0 + 1)))) rfl d_Plan_firstWrongScreenLine_40 ?_
          exact mq_iret hQ C X hr rfl hlk (⟨rfl, (ffS_at (hb := lh) hl23 (s := i0 + 1) (by omega) (by rw [bdS_c (hb := lh) hRP.2.2.2.2.2 hns hin hgn2 hgs2, bI_0 c4]; rfl) (fun t a b => hbd t a (by omega)) ns (by omega) (Nat.le_refl _)).symm⟩) (by omega) (by omega) d_Plan_firstWrongScreenLine_43
        · skip
          refine lv_aload_n hx hb d_Plan_firstWrongScreenLine_32 rfl (lv_at hl 0 rfl) ?_
          refine mv_bi X (mv_rV (rest := []) (As := []) gt_good C X k_4_82 (cm_Screen_hasKeyToNowhere hE (xl.1.get (i := 11) (j := i0) (hRP.2.1.2 i0 hin).1) (x.get (i := 14) (j := i0) hgn) (x.get (i := 15) (j := i0) hgs)) (xl.1.get (i := 11) (j := i0) (hRP.2.1.2 i0 hin).1) rfl rfl ⟨Nat.le_of_ble_eq_true rfl, Nat.le_of_ble_eq_true rfl⟩ rfl hl.1 rfl (Nat.le_of_ble_eq_true rfl) d_Plan_firstWrongScreenLine_33 ⟨Nat.zero_le _, Nat.zero_le _⟩) (fun r5 hN H locs hp X => ?_)
          obtain ⟨eh, er⟩ := hp
          replace eh := eh.symm
          replace er := er.symm
          subst eh er
          refine lv_if_eq (tgt := 44) hx hb d_Plan_firstWrongScreenLine_36 (by decide) (fun c6 => ?_) (fun c6 => ?_)
          · skip
            refine lv_iinc (v := (i + 1)) (lv' := [(1, .int (i + 1)), (2, .ref (ad 11 i0)), (0, .ref (ad 2 0))]) hx hb d_Plan_firstWrongScreenLine_44 hl (k := 2) rfl rfl (by decide) rfl (fun ls hl => ?_)
            refine lv_goto (tgt := 2) hx hb d_Plan_firstWrongScreenLine_47 (by decide) ?_
            exact ih_lp (i0 + 1) (i + 1) ls _ _ (by rw [ei]; exact nI_1 i0) (by omega) (fun s a b => by
                by_cases z : s = i0 + 1
                · rw [z, bdS_c hRP.2.2.2.2.2 hns hin hgn2 hgs2, bI_n c4, bI_0 c6]; rfl
                · exact hbd s a (by omega)) (by omega) X (lv_sub hl [2, 0] rfl)
          · skip
            refine lv_aload_n hx hb d_Plan_firstWrongScreenLine_39 rfl (lv_at hl 0 rfl) ?_
            refine mv_get C X (xl.1.get (i := 11) (j := i0) (hRP.2.1.2 i0 hin).1) 1 f_4_86_9 (v := (.int (A 23 (i0 + 1)))) rfl d_Plan_firstWrongScreenLine_40 ?_
            exact mq_iret hQ C X hr rfl hlk (⟨rfl, (ffS_at (hb := lh) hl23 (s := i0 + 1) (by omega) (by rw [bdS_c (hb := lh) hRP.2.2.2.2.2 hns hin hgn2 hgs2, bI_n c6, Bool.or_true]) (fun t a b => hbd t a (by omega)) ns (by omega) (Nat.le_refl _)).symm⟩) (by omega) (by omega) d_Plan_firstWrongScreenLine_43
  exact lp (ns - 0 + 1) 0 0 ls _ _ rfl (Nat.zero_le _) (fun s a b => by omega) (Nat.lt_succ_self _) X (lv_sub hl [1, 0] rfl)
