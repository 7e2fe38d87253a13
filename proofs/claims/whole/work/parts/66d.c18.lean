theorem d_Plan_joinKeys_0 : decode prog_5_method_9_code 0 = .ok (.iconst 0, 1) := by decide +kernel
theorem d_Plan_joinKeys_1 : decode prog_5_method_9_code 1 = .ok (.istore_n 1, 1) := by decide +kernel
theorem d_Plan_joinKeys_2 : decode prog_5_method_9_code 2 = .ok (.iload_n 1, 1) := by decide +kernel
theorem d_Plan_joinKeys_3 : decode prog_5_method_9_code 3 = .ok (.aload_n 0, 1) := by decide +kernel
theorem d_Plan_joinKeys_4 : decode prog_5_method_9_code 4 = .ok (.getfield 18, 3) := by decide +kernel
theorem d_Plan_joinKeys_7 : decode prog_5_method_9_code 7 = .ok (.invokevirtual 35, 3) := by decide +kernel
theorem d_Plan_joinKeys_10 : decode prog_5_method_9_code 10 = .ok (.if_icmp .ge 66, 3) := by decide +kernel
theorem d_Plan_joinKeys_13 : decode prog_5_method_9_code 13 = .ok (.aload_n 0, 1) := by decide +kernel
theorem d_Plan_joinKeys_14 : decode prog_5_method_9_code 14 = .ok (.getfield 18, 3) := by decide +kernel
theorem d_Plan_joinKeys_17 : decode prog_5_method_9_code 17 = .ok (.iload_n 1, 1) := by decide +kernel
theorem d_Plan_joinKeys_18 : decode prog_5_method_9_code 18 = .ok (.invokevirtual 39, 3) := by decide +kernel
theorem d_Plan_joinKeys_21 : decode prog_5_method_9_code 21 = .ok (.checkcast 49, 3) := by decide +kernel
theorem d_Plan_joinKeys_24 : decode prog_5_method_9_code 24 = .ok (.astore_n 2, 1) := by decide +kernel
theorem d_Plan_joinKeys_25 : decode prog_5_method_9_code 25 = .ok (.iconst 1, 1) := by decide +kernel
theorem d_Plan_joinKeys_26 : decode prog_5_method_9_code 26 = .ok (.istore_n 3, 1) := by decide +kernel
theorem d_Plan_joinKeys_27 : decode prog_5_method_9_code 27 = .ok (.iload_n 3, 1) := by decide +kernel
theorem d_Plan_joinKeys_28 : decode prog_5_method_9_code 28 = .ok (.bipush 9, 2) := by decide +kernel
theorem d_Plan_joinKeys_30 : decode prog_5_method_9_code 30 = .ok (.if_icmp .gt 40, 3) := by decide +kernel
theorem d_Plan_joinKeys_33 : decode prog_5_method_9_code 33 = .ok (.aload_n 2, 1) := by decide +kernel
theorem d_Plan_joinKeys_34 : decode prog_5_method_9_code 34 = .ok (.getfield 52, 3) := by decide +kernel
theorem d_Plan_joinKeys_37 : decode prog_5_method_9_code 37 = .ok (.iload_n 3, 1) := by decide +kernel
theorem d_Plan_joinKeys_38 : decode prog_5_method_9_code 38 = .ok (.laload, 1) := by decide +kernel
theorem d_Plan_joinKeys_39 : decode prog_5_method_9_code 39 = .ok (.lstore 4, 2) := by decide +kernel
theorem d_Plan_joinKeys_41 : decode prog_5_method_9_code 41 = .ok (.aload_n 2, 1) := by decide +kernel
theorem d_Plan_joinKeys_42 : decode prog_5_method_9_code 42 = .ok (.getfield 56, 3) := by decide +kernel
theorem d_Plan_joinKeys_45 : decode prog_5_method_9_code 45 = .ok (.iload_n 3, 1) := by decide +kernel
theorem d_Plan_joinKeys_46 : decode prog_5_method_9_code 46 = .ok (.lload 4, 2) := by decide +kernel
theorem d_Plan_joinKeys_48 : decode prog_5_method_9_code 48 = .ok (.lconst 0, 1) := by decide +kernel
theorem d_Plan_joinKeys_49 : decode prog_5_method_9_code 49 = .ok (.lcmp, 1) := by decide +kernel
theorem d_Plan_joinKeys_50 : decode prog_5_method_9_code 50 = .ok (.ifCond .ne 7, 3) := by decide +kernel
theorem d_Plan_joinKeys_53 : decode prog_5_method_9_code 53 = .ok (.iconst 0, 1) := by decide +kernel
theorem d_Plan_joinKeys_54 : decode prog_5_method_9_code 54 = .ok (.goto 9, 3) := by decide +kernel
theorem d_Plan_joinKeys_57 : decode prog_5_method_9_code 57 = .ok (.aload_n 0, 1) := by decide +kernel
theorem d_Plan_joinKeys_58 : decode prog_5_method_9_code 58 = .ok (.lload 4, 2) := by decide +kernel
theorem d_Plan_joinKeys_60 : decode prog_5_method_9_code 60 = .ok (.invokevirtual 59, 3) := by decide +kernel
theorem d_Plan_joinKeys_63 : decode prog_5_method_9_code 63 = .ok (.iastore, 1) := by decide +kernel
theorem d_Plan_joinKeys_64 : decode prog_5_method_9_code 64 = .ok (.iinc 3 1, 3) := by decide +kernel
theorem d_Plan_joinKeys_67 : decode prog_5_method_9_code 67 = .ok (.goto (-40), 3) := by decide +kernel
theorem d_Plan_joinKeys_70 : decode prog_5_method_9_code 70 = .ok (.iinc 1 1, 3) := by decide +kernel
theorem d_Plan_joinKeys_73 : decode prog_5_method_9_code 73 = .ok (.goto (-71), 3) := by decide +kernel
theorem d_Plan_joinKeys_76 : decode prog_5_method_9_code 76 = .ok (.return_, 1) := by decide +kernel
set_option maxRecDepth 100000 in
set_option maxHeartbeats 4000000 in
theorem cm_Plan_joinKeys {l : Launch} {S0 : State} {b : Nat} {D : va_G} {dT : Nat → ClassId} (hE : vEnv S0 b D dT) {dE mO : Nat} (hJ : vJ S0 dE mO) {h0 : vH} {hcv : vH} {ad : Nat → Nat → Nat} {L0 : vL} {rc : Int32} {A : Nat → Nat → Int32} {B : Nat → Nat → Int64} {nv ns np nc : Nat} {pf cb ce cs : Nat → Nat} {c0 : Nat} {lh : Nat → Bool} {ks0 : Nat → Nat → Int32} (x0 : LH S0.heap.size hcv h0 ad L0) (hcE : ∃ fE, hcv dE = some (aR dT 0 fE)) (hRP0 : RP dT dE h0 ad L0 A B nv ns np nc pf cb ce cs c0 lh ks0) (h200 : L0 2 0 = some (.inr (4, [.ref (ad 3 0), .ref (ad 4 0), .ref (ad 5 0), .int rc]))) (hns : ns ≤ 30) : vMv l S0 D vcl GT y_Plan_joinKeys prog_5_method_9_code 6 none 4 87 0 0 [.ref (ad 2 0)] h0 (fun h' => ∃ L, LR S0.heap.size hcv h0 ad L0 h' ad L ∧ RP dT dE h' ad L A B nv ns np nc pf cb ce cs c0 lh (fun s k => nI (ldS A ns (10 * s + k))) ∧ ∀ i, i ≠ 15 → L i = L0 i) := by
  unfold vMv
  refine vM_ofQ hE.1 (by decide) (Nat.le_of_ble_eq_true rfl) (fun p e s m args below meth c ls Q hQ C hr hlk hnm X hl => ?_)
  have C : vC p s m _ c _ _ "MenuScreens$Plan" GT D vcl (vty dT) := C
  have hx := C.1.1
  have hb := C.1.2.1
  obtain ⟨H, eH⟩ : ∃ z, z = s.heap := ⟨_, rfl⟩
  obtain ⟨locs, elocs⟩ : ∃ z : List Loc, z = [] := ⟨_, rfl⟩
  rw [← eH, ← elocs] at X
  rw [← eH, ← elocs]
  clear eH elocs
  have hl : lv_has ls 6 [(0, .ref (ad 2 0))] := hl
  refine lv_iconst (v := 0) hx hb d_Plan_joinKeys_0 (by decide) ?_
  refine lv_istore_n (lv' := [(1, .int 0), (0, .ref (ad 2 0))]) hx hb d_Plan_joinKeys_1 rfl hl (by decide) rfl (fun ls hl => ?_)
  have lp : ∀ (n_lp : Nat) (i0 : Nat) (ks : Nat → Nat → Int32) (L : vL) (i : Int32) (ls : Array Slot) (h : vH) (H : Heap) (locs : List Loc), (i = nI i0) → (i0 ≤ ns) → (LR S0.heap.size hcv h0 ad L0 h ad L) → (RP dT dE h ad L A B nv ns np nc pf cb ce cs c0 lh ks) → (∀ i, i ≠ 15 → L i = L0 i) → (∀ s k, 1 ≤ s → s ≤ i0 → 1 ≤ k → k ≤ 9 → ks s k = nI (ldS A ns (10 * s + k))) → (ns - i0) < n_lp → vO S0 D vcl h s H locs → lv_has ls 6 [(0, .ref (ad 2 0)), (1, .int i)] → W p l e (vRm 4 87 0 0) s m args below meth c H locs 0 0 Q (F0 m 2 ls []) := by
    intro n_lp
    induction n_lp with
    | zero => intros; exact absurd (by assumption) (Nat.not_lt_zero _)
    | succ n_lp ih_lp =>
      intro i0 ks L i ls h H locs ei hi0 xl hRP hkp hks hmu_lp X hl
      refine lv_iload_n hx hb d_Plan_joinKeys_2 rfl (lv_at hl 1 rfl) ?_
      have h20 := (congrFun (hkp 2 (by decide)) 0).trans h200
      obtain ⟨fE, hcE2⟩ := id hcE
      obtain ⟨ea, cap, fl, md, hL, hfl, hLL, hea⟩ := hRP.2.1.1.hp xl.1 hcE2
      obtain ⟨kl, wl, ke, ⟨hncap, hcap⟩, hd⟩ := hL
      refine lv_aload_n hx hb d_Plan_joinKeys_3 rfl (lv_at hl 0 rfl) ?_
      refine mv_get C X (xl.1.get (i := 2) (j := 0) h20) 1 f_4_18_4 (v := .ref (ad 4 0)) rfl d_Plan_joinKeys_4 ?_
      refine mv_bi X (mv_rV (rest := [.int i]) (As := []) gt_good C X k_4_35 (cm_ArrayList_size hE kl) kl rfl rfl ⟨Nat.le_of_ble_eq_true rfl, Nat.le_of_ble_eq_true rfl⟩ rfl hl.1 rfl (Nat.le_of_ble_eq_true rfl) d_Plan_joinKeys_7 ⟨Nat.zero_le _, Nat.zero_le _⟩) (fun r1 hN H locs hp X => ?_)
      obtain ⟨eh, er⟩ := hp
      replace eh := eh.symm
      replace er := er.symm
      subst eh er
      refine lv_icmp_ge (tgt := 76) hx hb d_Plan_joinKeys_10 (by decide) (fun c2 => ?_) (fun c2 => ?_)
      · skip
        exact mq_vret hQ C X hr hlk (⟨L, xl, hRP.ks (fun s k a b c d => (hks s k a (by have := (nI_leI (a := ns) (b := i0) (by omega) (by omega)).mp (by rw [← ei]; exact c2); omega) c d).symm) (fun _ _ _ => rfl), hkp⟩) (by omega) (by omega) d_Plan_joinKeys_76
      · skip
        have hin : i0 < ns := by
          rcases Nat.lt_or_ge i0 ns with q | q
          · exact q
          · exact absurd (by rw [ei]; exact nI_le q (by omega)) c2
        refine lv_aload_n hx hb d_Plan_joinKeys_13 rfl (lv_at hl 0 rfl) ?_
        refine mv_get C X (xl.1.get (i := 2) (j := 0) h20) 1 f_4_18_4 (v := .ref (ad 4 0)) rfl d_Plan_joinKeys_14 ?_
        refine lv_iload_n hx hb d_Plan_joinKeys_17 rfl (lv_at hl 1 rfl) ?_
        rw [ei]
        refine mv_bq X (mv_rV (rest := []) (As := [.int (nI i0)]) gt_good C X k_4_39 (cm_ArrayList_get hE hin hncap (by omega) kl ke) kl rfl rfl ⟨Nat.le_of_ble_eq_true rfl, Nat.le_of_ble_eq_true rfl⟩ rfl hl.1 rfl (Nat.le_of_ble_eq_true rfl) d_Plan_joinKeys_18 ⟨Nat.zero_le _, Nat.zero_le _⟩) (fun r3 hN H locs hp X => ?_)
        obtain ⟨eh, er⟩ := hp
        replace eh := eh.symm
        subst eh
        rw [hfl i0 hin] at er
        subst er
        change W _ _ _ _ _ _ _ _ _ _ _ _ _ _ _ (F0 _ _ _ (.ref (ad 11 i0) :: _))
        refine mv_castE C X (xl.1.get (i := 11) (j := i0) (hRP.2.1.2 i0 hin).1) rfl rfl (gt_3 168 (by decide +kernel) rfl) d_Plan_joinKeys_21 ?_
        refine lv_astore_n (lv' := [(2, .ref (ad 11 i0)), (0, .ref (ad 2 0)), (1, .int i)]) hx hb d_Plan_joinKeys_24 rfl hl (by decide) rfl (fun ls hl => ?_)
        refine lv_iconst (v := 1) hx hb d_Plan_joinKeys_25 (by decide) ?_
        refine lv_istore_n (lv' := [(3, .int 1), (2, .ref (ad 11 i0)), (0, .ref (ad 2 0)), (1, .int i)]) hx hb d_Plan_joinKeys_26 rfl hl (by decide) rfl (fun ls hl => ?_)
        have lq : ∀ (n_lq : Nat) (kk : Nat) (ks : Nat → Nat → Int32) (L : vL) (j3 : Int32) (ls : Array Slot) (h : vH) (H : Heap) (locs : List Loc), (j3 = nI kk) → (1 ≤ kk) → (kk ≤ 10) → (LR S0.heap.size hcv h0 ad L0 h ad L) → (RP dT dE h ad L A B nv ns np nc pf cb ce cs c0 lh ks) → (∀ i, i ≠ 15 → L i = L0 i) → (∀ s k, 1 ≤ s → s ≤ i0 → 1 ≤ k → k ≤ 9 → ks s k = nI (ldS A ns (10 * s + k))) → (∀ k, 1 ≤ k → k < kk → ks (i0 + 1) k = nI (ldS A ns (10 * (i0 + 1) + k))) → (10 - kk) < n_lq → vO S0 D vcl h s H locs → lv_has ls 6 [(0, .ref (ad 2 0)), (1, .int i), (2, .ref (ad 11 i0)), (3, .int j3)] → W p l e (vRm 4 87 0 0) s m args below meth c H locs 0 0 Q (F0 m 27 ls []) := by
          intro n_lq
          induction n_lq with
          | zero => intros; exact absurd (by assumption) (Nat.not_lt_zero _)
          | succ n_lq ih_lq =>
            intro kk ks L j3 ls h H locs ej hj1 hj2 xl hRP hkp hks hks2 hmu_lq X hl
            refine lv_iload_n hx hb d_Plan_joinKeys_27 rfl (lv_at hl 3 rfl) ?_
            refine lv_bipush (v := 9) hx hb d_Plan_joinKeys_28 (by decide) ?_
            refine lv_icmp_gt (tgt := 70) hx hb d_Plan_joinKeys_30 (by decide) (fun c4 => ?_) (fun c4 => ?_)
            · skip
              have hk10 : kk = 10 := by
                have := (nI_ltI (a := 9) (b := kk) (by decide) (by omega)).mp (by rw [← ej]; exact c4)
                omega
              refine lv_iinc (v := (i + 1)) (lv' := [(1, .int (i + 1)), (0, .ref (ad 2 0)), (2, .ref (ad 11 i0)), (3, .int j3)]) hx hb d_Plan_joinKeys_70 hl (k := 1) rfl rfl (by decide) rfl (fun ls hl => ?_)
              refine lv_goto (tgt := 2) hx hb d_Plan_joinKeys_73 (by decide) ?_
              exact ih_lp (i0 + 1) ks L (i + 1) ls _ _ _ (by rw [ei]; exact nI_1 i0) (by omega) xl hRP hkp (fun s k a b c d => by
                  by_cases z : s = i0 + 1
                  · rw [z]; exact hks2 k c (by omega)
                  · exact hks s k a (by omega) c d) (by omega) X (lv_sub hl [1, 0] rfl)
            · skip
              have h20 := (congrFun (hkp 2 (by decide)) 0).trans h200
              obtain ⟨fE, hcE2⟩ := id hcE
              obtain ⟨ea, cap, fl, md, hL, hfl, hLL, hea⟩ := hRP.2.1.1.hp xl.1 hcE2
              obtain ⟨kl, wl, ke, ⟨hncap, hcap⟩, hd⟩ := hL
              have hj9 : kk ≤ 9 := by
                rcases Nat.lt_or_ge 9 kk with q | q
                · exact absurd (by rw [ej]; exact nI_lt (a := 9) q (by omega)) c4
                · exact q
              obtain ⟨-, -, ⟨gn, hgn, hgn2⟩, ⟨gs, hgs, -⟩, -⟩ := hRP.2.1.2 i0 hin
              have hld := ldS_vfd (q := 10 * (i0 + 1) + kk) hRP.2.2.2.2.2 (by omega) (by omega)
              rw [← hgn2 kk hj1 hj9] at hld
              refine lv_aload_n hx hb d_Plan_joinKeys_33 rfl (lv_at hl 2 rfl) ?_
              refine mv_get C X (xl.1.get (i := 11) (j := i0) (hRP.2.1.2 i0 hin).1) 3 f_4_52_9 (v := .ref (ad 14 i0)) rfl d_Plan_joinKeys_34 ?_
              refine lv_iload_n hx hb d_Plan_joinKeys_37 rfl (lv_at hl 3 rfl) ?_
              refine mv_lald C X (xl.1.get (i := 14) (j := i0) hgn) 1 rfl kk ej (by omega) (by decide) d_Plan_joinKeys_38 ?_
              refine lv_lstore (lv' := [(4, .long (gn kk)), (0, .ref (ad 2 0)), (1, .int i), (2, .ref (ad 11 i0)), (3, .int j3)]) hx hb d_Plan_joinKeys_39 hl (by decide) rfl (fun ls hl => ?_)
              refine lv_aload_n hx hb d_Plan_joinKeys_41 rfl (lv_at hl 3 rfl) ?_
              refine mv_get C X (xl.1.get (i := 11) (j := i0) (hRP.2.1.2 i0 hin).1) 4 f_4_56_9 (v := .ref (ad 15 i0)) rfl d_Plan_joinKeys_42 ?_
              refine lv_iload_n hx hb d_Plan_joinKeys_45 rfl (lv_at hl 4 rfl) ?_
              refine lv_lload hx hb d_Plan_joinKeys_46 (lv_at hl 0 rfl) ?_
              refine lv_lconst (v := 0) hx hb d_Plan_joinKeys_48 (by decide) ?_
              refine W.lcmp hx hb d_Plan_joinKeys_49 ?_
              refine lv_if_ne (tgt := 57) hx hb d_Plan_joinKeys_50 (by decide) (fun c5 => ?_) (fun c5 => ?_)
              · skip
                refine lv_aload_n hx hb d_Plan_joinKeys_57 rfl (lv_at hl 1 rfl) ?_
                refine lv_lload hx hb d_Plan_joinKeys_58 (lv_at hl 0 rfl) ?_
                refine mv_bi X (mv_rV (rest := [.int j3, .ref (ad 15 i0)]) (As := [.long (gn kk)]) gt_good C X k_4_59 (cm_Plan_screenNumberOf hE (nf := nmV A 21 22) (g := ad 11) hncap (by omega) hfl (fun k hk => xl.1.get (i := 11) (j := k) (hRP.2.1.2 k hk).1) (xl.1.get (i := 2) (j := 0) h20) kl ke) (xl.1.get (i := 2) (j := 0) h20) rfl rfl ⟨Nat.le_of_ble_eq_true rfl, Nat.le_of_ble_eq_true rfl⟩ rfl hl.1 rfl (Nat.le_of_ble_eq_true rfl) d_Plan_joinKeys_60 ⟨Nat.zero_le _, Nat.zero_le _⟩) (fun r6 hN H locs hp X => ?_)
                obtain ⟨eh, er⟩ := hp
                replace eh := eh.symm
                replace er := er.symm
                subst eh er
                rw [← hld]
                refine mv_iast C X (xl.1.get (i := 15) (j := i0) hgs) (xl.1.wr (i := 15) (j := i0) hgs) 0 rfl kk ej (by omega) (by omega) d_Plan_joinKeys_63 (fun H locs X => ?_)
                have X : vO S0 D vcl (vup h (ad 15 i0) (.inl (dT 0, 10, .inl (upd gs kk (nI (ldS A ns (10 * (i0 + 1) + kk))))))) s H locs := X
                refine lv_iinc (v := (j3 + 1)) (lv' := [(3, .int (j3 + 1)), (4, .long (gn kk)), (0, .ref (ad 2 0)), (1, .int i), (2, .ref (ad 11 i0))]) hx hb d_Plan_joinKeys_64 hl (k := 4) rfl rfl (by decide) rfl (fun ls hl => ?_)
                refine lv_goto (tgt := 27) hx hb d_Plan_joinKeys_67 (by decide) ?_
                exact ih_lq (kk + 1) (va_up ks (i0 + 1) (upd (ks (i0 + 1)) kk (nI (ldS A ns (10 * (i0 + 1) + kk))))) (lput L 15 i0 (some (aI dT 10 (upd gs kk (nI (ldS A ns (10 * (i0 + 1) + kk))))))) (j3 + 1) ls _ _ _ (by rw [ej]; exact nI_1 kk) (by omega) (by omega) (xl.put (i := 15) (j := i0) hgs) (RP_ks hRP hin hgs rfl ((LR.of xl.1).put (i := 15) (j := i0) hgs).2) (fun i a => (lput_k _ _ a).trans (hkp i a)) (fun s k a b c d => by rw [va_up_ne _ _ (by omega)]; exact hks s k a b c d) (fun k a b => by
                    rw [va_up_self]
                    by_cases z : k = kk
                    · rw [z, pk_us]
                    · rw [pk_un z]; exact hks2 k a (by omega)) (by omega) X (lv_sub hl [2, 3, 4, 0] rfl)
              · skip
                refine lv_iconst (v := 0) hx hb d_Plan_joinKeys_53 (by decide) ?_
                refine lv_goto (tgt := 63) hx hb d_Plan_joinKeys_54 (by decide) ?_
                have ev : (0 : Int32) = nI (ldS A ns (10 * (i0 + 1) + kk)) := by rw [hld, (lg_cmp_eq _ _).mp c5, vfd_0 hRP.2.2.2.2.2.2.1]; rfl
                rw [ev]
                refine mv_iast C X (xl.1.get (i := 15) (j := i0) hgs) (xl.1.wr (i := 15) (j := i0) hgs) 0 rfl kk ej (by omega) (by omega) d_Plan_joinKeys_63 (fun H locs X => ?_)
                have X : vO S0 D vcl (vup h (ad 15 i0) (.inl (dT 0, 10, .inl (upd gs kk (nI (ldS A ns (10 * (i0 + 1) + kk))))))) s H locs := X
                refine lv_iinc (v := (j3 + 1)) (lv' := [(3, .int (j3 + 1)), (4, .long (gn kk)), (0, .ref (ad 2 0)), (1, .int i), (2, .ref (ad 11 i0))]) hx hb d_Plan_joinKeys_64 hl (k := 4) rfl rfl (by decide) rfl (fun ls hl => ?_)
                refine lv_goto (tgt := 27) hx hb d_Plan_joinKeys_67 (by decide) ?_
                exact ih_lq (kk + 1) (va_up ks (i0 + 1) (upd (ks (i0 + 1)) kk (nI (ldS A ns (10 * (i0 + 1) + kk))))) (lput L 15 i0 (some (aI dT 10 (upd gs kk (nI (ldS A ns (10 * (i0 + 1) + kk))))))) (j3 + 1) ls _ _ _ (by rw [ej]; exact nI_1 kk) (by omega) (by omega) (xl.put (i := 15) (j := i0) hgs) (RP_ks hRP hin hgs rfl ((LR.of xl.1).put (i := 15) (j := i0) hgs).2) (fun i a => (lput_k _ _ a).trans (hkp i a)) (fun s k a b c d => by rw [va_up_ne _ _ (by omega)]; exact hks s k a b c d) (fun k a b => by
                    rw [va_up_self]
                    by_cases z : k = kk
                    · rw [z, pk_us]
                    · rw [pk_un z]; exact hks2 k a (by omega)) (by omega) X (lv_sub hl [2, 3, 4, 0] rfl)
        exact lq (10 - 1 + 1) 1 ks L 1 ls _ _ _ rfl (Nat.le_refl _) (by decide) xl hRP hkp hks (fun k a b => by omega) (Nat.lt_succ_self _) X (lv_sub hl [2, 3, 1, 0] rfl)
  exact lp (ns - 0 + 1) 0 ks0 L0 0 ls _ _ _ rfl (Nat.zero_le _) (LR.of x0) hRP0 (fun _ _ => rfl) (fun s k a b => by omega) (Nat.lt_succ_self _) X (lv_sub hl [1, 0] rfl)
