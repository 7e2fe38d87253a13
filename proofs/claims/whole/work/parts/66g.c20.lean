theorem d_Plan_findRings_0 : decode prog_5_method_10_code 0 = .ok (.iconst 0, 1) := by decide +kernel
theorem d_Plan_findRings_1 : decode prog_5_method_10_code 1 = .ok (.istore_n 1, 1) := by decide +kernel
theorem d_Plan_findRings_2 : decode prog_5_method_10_code 2 = .ok (.iload_n 1, 1) := by decide +kernel
theorem d_Plan_findRings_3 : decode prog_5_method_10_code 3 = .ok (.aload_n 0, 1) := by decide +kernel
theorem d_Plan_findRings_4 : decode prog_5_method_10_code 4 = .ok (.getfield 18, 3) := by decide +kernel
theorem d_Plan_findRings_7 : decode prog_5_method_10_code 7 = .ok (.invokevirtual 35, 3) := by decide +kernel
theorem d_Plan_findRings_10 : decode prog_5_method_10_code 10 = .ok (.if_icmp .ge 13, 3) := by decide +kernel
theorem d_Plan_findRings_13 : decode prog_5_method_10_code 13 = .ok (.aload_n 0, 1) := by decide +kernel
theorem d_Plan_findRings_14 : decode prog_5_method_10_code 14 = .ok (.invokevirtual 63, 3) := by decide +kernel
theorem d_Plan_findRings_17 : decode prog_5_method_10_code 17 = .ok (.iinc 1 1, 3) := by decide +kernel
theorem d_Plan_findRings_20 : decode prog_5_method_10_code 20 = .ok (.goto (-18), 3) := by decide +kernel
theorem d_Plan_findRings_23 : decode prog_5_method_10_code 23 = .ok (.iconst 0, 1) := by decide +kernel
theorem d_Plan_findRings_24 : decode prog_5_method_10_code 24 = .ok (.istore_n 1, 1) := by decide +kernel
theorem d_Plan_findRings_25 : decode prog_5_method_10_code 25 = .ok (.iload_n 1, 1) := by decide +kernel
theorem d_Plan_findRings_26 : decode prog_5_method_10_code 26 = .ok (.aload_n 0, 1) := by decide +kernel
theorem d_Plan_findRings_27 : decode prog_5_method_10_code 27 = .ok (.getfield 18, 3) := by decide +kernel
theorem d_Plan_findRings_30 : decode prog_5_method_10_code 30 = .ok (.invokevirtual 35, 3) := by decide +kernel
theorem d_Plan_findRings_33 : decode prog_5_method_10_code 33 = .ok (.if_icmp .ge 60, 3) := by decide +kernel
theorem d_Plan_findRings_36 : decode prog_5_method_10_code 36 = .ok (.aload_n 0, 1) := by decide +kernel
theorem d_Plan_findRings_37 : decode prog_5_method_10_code 37 = .ok (.getfield 18, 3) := by decide +kernel
theorem d_Plan_findRings_40 : decode prog_5_method_10_code 40 = .ok (.iload_n 1, 1) := by decide +kernel
theorem d_Plan_findRings_41 : decode prog_5_method_10_code 41 = .ok (.invokevirtual 39, 3) := by decide +kernel
theorem d_Plan_findRings_44 : decode prog_5_method_10_code 44 = .ok (.checkcast 49, 3) := by decide +kernel
theorem d_Plan_findRings_47 : decode prog_5_method_10_code 47 = .ok (.getfield 66, 3) := by decide +kernel
theorem d_Plan_findRings_50 : decode prog_5_method_10_code 50 = .ok (.ifCond .ne 37, 3) := by decide +kernel
theorem d_Plan_findRings_53 : decode prog_5_method_10_code 53 = .ok (.aload_n 0, 1) := by decide +kernel
theorem d_Plan_findRings_54 : decode prog_5_method_10_code 54 = .ok (.getfield 28, 3) := by decide +kernel
theorem d_Plan_findRings_57 : decode prog_5_method_10_code 57 = .ok (.aload_n 0, 1) := by decide +kernel
theorem d_Plan_findRings_58 : decode prog_5_method_10_code 58 = .ok (.getfield 21, 3) := by decide +kernel
theorem d_Plan_findRings_61 : decode prog_5_method_10_code 61 = .ok (.arraylength, 1) := by decide +kernel
theorem d_Plan_findRings_62 : decode prog_5_method_10_code 62 = .ok (.if_icmp .ge 25, 3) := by decide +kernel
theorem d_Plan_findRings_65 : decode prog_5_method_10_code 65 = .ok (.aload_n 0, 1) := by decide +kernel
theorem d_Plan_findRings_66 : decode prog_5_method_10_code 66 = .ok (.getfield 21, 3) := by decide +kernel
theorem d_Plan_findRings_69 : decode prog_5_method_10_code 69 = .ok (.aload_n 0, 1) := by decide +kernel
theorem d_Plan_findRings_70 : decode prog_5_method_10_code 70 = .ok (.getfield 28, 3) := by decide +kernel
theorem d_Plan_findRings_73 : decode prog_5_method_10_code 73 = .ok (.iload_n 1, 1) := by decide +kernel
theorem d_Plan_findRings_74 : decode prog_5_method_10_code 74 = .ok (.iconst 1, 1) := by decide +kernel
theorem d_Plan_findRings_75 : decode prog_5_method_10_code 75 = .ok (.iadd, 1) := by decide +kernel
theorem d_Plan_findRings_76 : decode prog_5_method_10_code 76 = .ok (.iastore, 1) := by decide +kernel
theorem d_Plan_findRings_77 : decode prog_5_method_10_code 77 = .ok (.aload_n 0, 1) := by decide +kernel
theorem d_Plan_findRings_78 : decode prog_5_method_10_code 78 = .ok (.dup, 1) := by decide +kernel
theorem d_Plan_findRings_79 : decode prog_5_method_10_code 79 = .ok (.getfield 28, 3) := by decide +kernel
theorem d_Plan_findRings_82 : decode prog_5_method_10_code 82 = .ok (.iconst 1, 1) := by decide +kernel
theorem d_Plan_findRings_83 : decode prog_5_method_10_code 83 = .ok (.iadd, 1) := by decide +kernel
theorem d_Plan_findRings_84 : decode prog_5_method_10_code 84 = .ok (.putfield 28, 3) := by decide +kernel
theorem d_Plan_findRings_87 : decode prog_5_method_10_code 87 = .ok (.iinc 1 1, 3) := by decide +kernel
theorem d_Plan_findRings_90 : decode prog_5_method_10_code 90 = .ok (.goto (-65), 3) := by decide +kernel
theorem d_Plan_findRings_93 : decode prog_5_method_10_code 93 = .ok (.return_, 1) := by decide +kernel
set_option maxRecDepth 100000 in
set_option maxHeartbeats 4000000 in
theorem cm_Plan_findRings {l : Launch} {S0 : State} {b : Nat} {D : va_G} {dT : Nat → ClassId} (hE : vEnv S0 b D dT) {dE mO : Nat} (hJ : vJ S0 dE mO) {h0 : vH} {hcv : vH} {ad : Nat → Nat → Nat} {L0 : vL} {rc : Int32} {A : Nat → Nat → Int32} {B : Nat → Nat → Int64} {nv ns np nc : Nat} {pf cb ce cs : Nat → Nat} {c0 : Nat} {lh0 : Nat → Bool} {kf : Nat → Nat → Nat} (x0 : LH S0.heap.size hcv h0 ad L0) (hcE : ∃ fE, hcv dE = some (aR dT 0 fE)) (hRP0 : RP dT dE h0 ad L0 A B nv ns np nc pf cb ce cs c0 lh0 (fun s k => nI (kf s k))) (h200 : L0 2 0 = some (.inr (4, [.ref (ad 3 0), .ref (ad 4 0), .ref (ad 5 0), .int rc]))) (hns : ns ≤ 30) (hkf : ∀ s k, kf s k ≤ ns) {f0 : Nat → Int32} (hrc : rc = 0) (h50 : L0 5 0 = some (aI dT 30 f0)) : vMv l S0 D vcl GT y_Plan_findRings prog_5_method_10_code 2 none 6 130 0 0 [.ref (ad 2 0)] h0 (fun h' => ∃ L, LR S0.heap.size hcv h0 ad L0 h' ad L ∧ RP dT dE h' ad L A B nv ns np nc pf cb ce cs c0 (cIt kf ns ns lh0) (fun s k => nI (kf s k)) ∧ L 2 0 = some (.inr (4, [.ref (ad 3 0), .ref (ad 4 0), .ref (ad 5 0), .int (nI (cnt (fun j => !(cIt kf ns ns lh0) (j + 1)) ns))])) ∧ L 5 0 = some (aI dT 30 (rg (cIt kf ns ns lh0) f0 ns)) ∧ ∀ i, i ≠ 11 → i ≠ 2 → i ≠ 5 → L i = L0 i) := by
  unfold vMv
  refine vM_ofQ hE.1 (by decide) (Nat.le_of_ble_eq_true rfl) (fun p e s m args below meth c ls Q hQ C hr hlk hnm X hl => ?_)
  have C : vC p s m _ c _ _ "MenuScreens$Plan" GT D vcl (vty dT) := C
  have hx := C.1.1
  have hb := C.1.2.1
  obtain ⟨H, eH⟩ : ∃ z, z = s.heap := ⟨_, rfl⟩
  obtain ⟨locs, elocs⟩ : ∃ z : List Loc, z = [] := ⟨_, rfl⟩
  rw [← eH, ← elocs] at X
  rw [← eH, ← elocs]
  clear eH elocs
  have hl : lv_has ls 2 [(0, .ref (ad 2 0))] := hl
  refine lv_iconst (v := 0) hx hb d_Plan_findRings_0 (by decide) ?_
  refine lv_istore_n (lv' := [(1, .int 0), (0, .ref (ad 2 0))]) hx hb d_Plan_findRings_1 rfl hl (by decide) rfl (fun ls hl => ?_)
  have lp : ∀ (n_lp : Nat) (i0 : Nat) (lh : Nat → Bool) (L : vL) (i : Int32) (ls : Array Slot) (h : vH) (H : Heap) (locs : List Loc), (i = nI i0) → (i0 ≤ ns) → (LR S0.heap.size hcv h0 ad L0 h ad L) → (RP dT dE h ad L A B nv ns np nc pf cb ce cs c0 lh (fun s k => nI (kf s k))) → (∀ i, i ≠ 11 → L i = L0 i) → (cIt kf ns ns lh0 = cIt kf ns (ns - i0) lh) → (ns - i0) < n_lp → vO S0 D vcl h s H locs → lv_has ls 2 [(0, .ref (ad 2 0)), (1, .int i)] → W p l e (vRm 6 130 0 0) s m args below meth c H locs 0 0 Q (F0 m 2 ls []) := by
    intro n_lp
    induction n_lp with
    | zero => intros; exact absurd (by assumption) (Nat.not_lt_zero _)
    | succ n_lp ih_lp =>
      intro i0 lh L i ls h H locs ei hi0 xl hRP hkp hit hmu_lp X hl
      refine lv_iload_n hx hb d_Plan_findRings_2 rfl (lv_at hl 1 rfl) ?_
      have h20 := (congrFun (hkp 2 (by decide)) 0).trans h200
      obtain ⟨fE, hcE2⟩ := id hcE
      obtain ⟨ea, cap, fl, md, hL, hfl, hLL, hea⟩ := hRP.2.1.1.hp xl.1 hcE2
      obtain ⟨kl, wl, ke, ⟨hncap, hcap⟩, hd⟩ := hL
      refine lv_aload_n hx hb d_Plan_findRings_3 rfl (lv_at hl 0 rfl) ?_
      refine mv_get C X (xl.1.get (i := 2) (j := 0) h20) 1 f_4_18_4 (v := .ref (ad 4 0)) rfl d_Plan_findRings_4 ?_
      refine mv_bi X (mv_rV (rest := [.int i]) (As := []) gt_good C X k_4_35 (cm_ArrayList_size hE kl) kl rfl rfl ⟨Nat.le_of_ble_eq_true rfl, Nat.le_of_ble_eq_true rfl⟩ rfl hl.1 rfl (Nat.le_of_ble_eq_true rfl) d_Plan_findRings_7 ⟨Nat.zero_le _, Nat.zero_le _⟩) (fun r1 hN H locs hp X => ?_)
      obtain ⟨eh, er⟩ := hp
      replace eh := eh.symm
      replace er := er.symm
      subst eh er
      refine lv_icmp_ge (tgt := 23) hx hb d_Plan_findRings_10 (by decide) (fun c2 => ?_) (fun c2 => ?_)
      · skip
        have hend : cIt kf ns ns lh0 = lh := by rw [hit, show ns - i0 = 0 from by have := (nI_leI (a := ns) (b := i0) (by omega) (by omega)).mp (by rw [← ei]; exact c2); omega]; rfl
        refine lv_iconst (v := 0) hx hb d_Plan_findRings_23 (by decide) ?_
        refine lv_istore_n (lv' := [(1, .int 0), (0, .ref (ad 2 0))]) hx hb d_Plan_findRings_24 rfl hl (by decide) rfl (fun ls hl => ?_)
        have lq : ∀ (n_lq : Nat) (i0 : Nat) (L : vL) (i : Int32) (ls : Array Slot) (h : vH) (H : Heap) (locs : List Loc), (i = nI i0) → (i0 ≤ ns) → (LR S0.heap.size hcv h0 ad L0 h ad L) → (RP dT dE h ad L A B nv ns np nc pf cb ce cs c0 lh (fun s k => nI (kf s k))) → (∀ i, i ≠ 11 → i ≠ 2 → i ≠ 5 → L i = L0 i) → (L 2 0 = some (.inr (4, [.ref (ad 3 0), .ref (ad 4 0), .ref (ad 5 0), .int (nI (cnt (fun j => !lh (j + 1)) i0))]))) → (L 5 0 = some (aI dT 30 (rg lh f0 i0))) → (ns - i0) < n_lq → vO S0 D vcl h s H locs → lv_has ls 2 [(0, .ref (ad 2 0)), (1, .int i)] → W p l e (vRm 6 130 0 0) s m args below meth c H locs 0 0 Q (F0 m 25 ls []) := by
          intro n_lq
          induction n_lq with
          | zero => intros; exact absurd (by assumption) (Nat.not_lt_zero _)
          | succ n_lq ih_lq =>
            intro i0 L i ls h H locs ei hi0 xl hRP hkp h2c h5c hmu_lq X hl
            refine lv_iload_n hx hb d_Plan_findRings_25 rfl (lv_at hl 1 rfl) ?_
            obtain ⟨fE, hcE2⟩ := id hcE
            obtain ⟨ea, cap, fl, md, hL, hfl, hLL, hea⟩ := hRP.2.1.1.hp xl.1 hcE2
            obtain ⟨kl, wl, ke, ⟨hncap, hcap⟩, hd⟩ := hL
            have hcn := cnt_le (fun j => !lh (j + 1)) i0
            refine lv_aload_n hx hb d_Plan_findRings_26 rfl (lv_at hl 0 rfl) ?_
            refine mv_get C X (xl.1.get (i := 2) (j := 0) h2c) 1 f_4_18_4 (v := .ref (ad 4 0)) rfl d_Plan_findRings_27 ?_
            refine mv_bi X (mv_rV (rest := [.int i]) (As := []) gt_good C X k_4_35 (cm_ArrayList_size hE kl) kl rfl rfl ⟨Nat.le_of_ble_eq_true rfl, Nat.le_of_ble_eq_true rfl⟩ rfl hl.1 rfl (Nat.le_of_ble_eq_true rfl) d_Plan_findRings_30 ⟨Nat.zero_le _, Nat.zero_le _⟩) (fun r3 hN H locs hp X => ?_)
            obtain ⟨eh, er⟩ := hp
            replace eh := eh.symm
            replace er := er.symm
            subst eh er
            refine lv_icmp_ge (tgt := 93) hx hb d_Plan_findRings_33 (by decide) (fun c4 => ?_) (fun c4 => ?_)
            · skip
              exact mq_vret hQ C X hr hlk (⟨L, xl, by rw [hend]; exact hRP, by
                  have e1 : i0 = ns := by
                    have := (nI_leI (a := ns) (b := i0) (by omega) (by omega)).mp (by rw [← ei]; exact c4)
                    omega
                  rw [e1] at h2c h5c
                  rw [hend]; exact ⟨h2c, h5c, hkp⟩⟩) (by omega) (by omega) d_Plan_findRings_93
            · skip
              have hin : i0 < ns := by
                rcases Nat.lt_or_ge i0 ns with q | q
                · exact q
                · exact absurd (by rw [ei]; exact nI_le q (by omega)) c4
              refine lv_aload_n hx hb d_Plan_findRings_36 rfl (lv_at hl 0 rfl) ?_
              refine mv_get C X (xl.1.get (i := 2) (j := 0) h2c) 1 f_4_18_4 (v := .ref (ad 4 0)) rfl d_Plan_findRings_37 ?_
              refine lv_iload_n hx hb d_Plan_findRings_40 rfl (lv_at hl 1 rfl) ?_
              rw [ei]
              refine mv_bq X (mv_rV (rest := []) (As := [.int (nI i0)]) gt_good C X k_4_39 (cm_ArrayList_get hE hin hncap (by omega) kl ke) kl rfl rfl ⟨Nat.le_of_ble_eq_true rfl, Nat.le_of_ble_eq_true rfl⟩ rfl hl.1 rfl (Nat.le_of_ble_eq_true rfl) d_Plan_findRings_41 ⟨Nat.zero_le _, Nat.zero_le _⟩) (fun r5 hN H locs hp X => ?_)
              obtain ⟨eh, er⟩ := hp
              replace eh := eh.symm
              subst eh
              rw [hfl i0 hin] at er
              subst er
              change W _ _ _ _ _ _ _ _ _ _ _ _ _ _ _ (F0 _ _ _ (.ref (ad 11 i0) :: _))
              refine mv_castE C X (xl.1.get (i := 11) (j := i0) (hRP.2.1.2 i0 hin).1) rfl rfl (gt_3 168 (by decide +kernel) rfl) d_Plan_findRings_44 ?_
              refine mv_get C X (xl.1.get (i := 11) (j := i0) (hRP.2.1.2 i0 hin).1) 6 f_4_66_9 (v := .int (bI (lh (i0 + 1)))) rfl d_Plan_findRings_47 ?_
              refine lv_if_ne (tgt := 87) hx hb d_Plan_findRings_50 (by decide) (fun c6 => ?_) (fun c6 => ?_)
              · skip
                refine lv_iinc (v := (i + 1)) (lv' := [(1, .int (i + 1)), (0, .ref (ad 2 0))]) hx hb d_Plan_findRings_87 hl (k := 1) rfl rfl (by decide) rfl (fun ls hl => ?_)
                refine lv_goto (tgt := 25) hx hb d_Plan_findRings_90 (by decide) ?_
                exact ih_lq (i0 + 1) L (i + 1) ls _ _ _ (by rw [ei]; exact nI_1 i0) (by omega) xl hRP hkp (by rw [cnt_f (show (!lh (i0 + 1)) = false from by rw [bI_n c6]; rfl)]; exact h2c) (by rw [rg, if_pos (bI_n c6)]; exact h5c) (by omega) X (lv_sub hl [1, 0] rfl)
              · skip
                refine lv_aload_n hx hb d_Plan_findRings_53 rfl (lv_at hl 0 rfl) ?_
                refine mv_get C X (xl.1.get (i := 2) (j := 0) h2c) 3 f_4_28_4 (v := .int (nI (cnt (fun j => !lh (j + 1)) i0))) rfl d_Plan_findRings_54 ?_
                refine lv_aload_n hx hb d_Plan_findRings_57 rfl (lv_at hl 0 rfl) ?_
                refine mv_get C X (xl.1.get (i := 2) (j := 0) h2c) 2 f_4_21_4 (v := .ref (ad 5 0)) rfl d_Plan_findRings_58 ?_
                refine mv_alen C X (xl.1.get (i := 5) (j := 0) h5c) 0 rfl d_Plan_findRings_61 ?_
                refine lv_icmp_ge (tgt := 87) hx hb d_Plan_findRings_62 (by decide) (fun z => absurd z (nI_ge (a := (cnt (fun j => !lh (j + 1)) i0)) (b := 30) (by omega) (by decide))) (fun c7 => ?_)
                refine lv_aload_n hx hb d_Plan_findRings_65 rfl (lv_at hl 0 rfl) ?_
                refine mv_get C X (xl.1.get (i := 2) (j := 0) h2c) 2 f_4_21_4 (v := .ref (ad 5 0)) rfl d_Plan_findRings_66 ?_
                refine lv_aload_n hx hb d_Plan_findRings_69 rfl (lv_at hl 0 rfl) ?_
                refine mv_get C X (xl.1.get (i := 2) (j := 0) h2c) 3 f_4_28_4 (v := .int (nI (cnt (fun j => !lh (j + 1)) i0))) rfl d_Plan_findRings_70 ?_
                refine lv_iload_n hx hb d_Plan_findRings_73 rfl (lv_at hl 1 rfl) ?_
                refine lv_iconst (v := 1) hx hb d_Plan_findRings_74 (by decide) ?_
                refine lv_iadd hx hb d_Plan_findRings_75 ?_
                rw [ei, nI_1]
                refine mv_iast C X (xl.1.get (i := 5) (j := 0) h5c) (xl.1.wr (i := 5) (j := 0) h5c) 0 rfl (cnt (fun j => !lh (j + 1)) i0) rfl (by omega) (by omega) d_Plan_findRings_76 (fun H locs X => ?_)
                have X : vO S0 D vcl (vup h (ad 5 0) (.inl (dT 0, 30, .inl (upd (rg lh f0 i0) (cnt (fun j => !lh (j + 1)) i0) (nI (i0 + 1)))))) s H locs := X
                refine lv_aload_n hx hb d_Plan_findRings_77 rfl (lv_at hl 0 rfl) ?_
                refine lv_dup hx hb d_Plan_findRings_78 rfl ?_
                refine mv_get C X ((vup_n _ _ (xl.1.ni (i := 2) (j := 0) (i' := 5) (j' := 0) h2c h5c (by decide))).trans (xl.1.get (i := 2) (j := 0) h2c)) 3 f_4_28_4 (v := .int (nI (cnt (fun j => !lh (j + 1)) i0))) rfl d_Plan_findRings_79 ?_
                refine lv_iconst (v := 1) hx hb d_Plan_findRings_82 (by decide) ?_
                refine lv_iadd hx hb d_Plan_findRings_83 ?_
                rw [nI_1]
                refine mv_put C X ((vup_n _ _ (xl.1.ni (i := 2) (j := 0) (i' := 5) (j' := 0) h2c h5c (by decide))).trans (xl.1.get (i := 2) (j := 0) h2c)) (xl.1.wr (i := 2) (j := 0) h2c) 3 p_4_28_4 rfl rfl (Nat.le_of_ble_eq_true rfl) d_Plan_findRings_84 (fun H locs X => ?_)
                have X : vO S0 D vcl (vup (vup h (ad 5 0) (.inl (dT 0, 30, .inl (upd (rg lh f0 i0) (cnt (fun j => !lh (j + 1)) i0) (nI (i0 + 1)))))) (ad 2 0) (.inr (4, [.ref (ad 3 0), .ref (ad 4 0), .ref (ad 5 0), .int (nI ((cnt (fun j => !lh (j + 1)) i0) + 1))]))) s H locs := X
                refine lv_iinc (v := (i + 1)) (lv' := [(1, .int (i + 1)), (0, .ref (ad 2 0))]) hx hb d_Plan_findRings_87 hl (k := 1) rfl rfl (by decide) rfl (fun ls hl => ?_)
                refine lv_goto (tgt := 25) hx hb d_Plan_findRings_90 (by decide) ?_
                exact ih_lq (i0 + 1) (lput (lput L 5 0 (some (.inl (dT 0, 30, .inl (upd (rg lh f0 i0) (cnt (fun j => !lh (j + 1)) i0) (nI (i0 + 1))))))) 2 0 (some (.inr (4, [.ref (ad 3 0), .ref (ad 4 0), .ref (ad 5 0), .int (nI ((cnt (fun j => !lh (j + 1)) i0) + 1))])))) (i + 1) ls _ _ _ (by rw [ei]; exact nI_1 i0) (by omega) ((xl.put (i := 5) (j := 0) h5c).put (i := 2) (j := 0) h2c) (hRP.to (((LR.of xl.1).put (i := 5) (j := 0) h5c).put (i := 2) (j := 0) h2c).2 (fun i hi => ⟨by rw [lput_k _ _ (show i ≠ 2 by omega), lput_k _ _ (show i ≠ 5 by omega)], rfl⟩)) (fun i a b c => by rw [lput_k _ _ b, lput_k _ _ c]; exact hkp i a b c) (by rw [cnt_t (show (!lh (i0 + 1)) = true from by rw [bI_0 c6]; rfl)]; rfl) (by rw [rg, if_neg (by rw [bI_0 c6]; decide)]; rfl) (by omega) X (lv_sub hl [1, 0] rfl)
        exact lq (ns - 0 + 1) 0 L 0 ls _ _ _ rfl (Nat.zero_le _) xl hRP (fun i a _ _ => hkp i a) (by rw [congrFun (hkp 2 (by decide)) 0, h200, hrc]; rfl) (by rw [congrFun (hkp 5 (by decide)) 0]; exact h50) (Nat.lt_succ_self _) X (lv_sub hl [1, 0] rfl)
      · skip
        have hin : i0 < ns := by
          rcases Nat.lt_or_ge i0 ns with q | q
          · exact q
          · exact absurd (by rw [ei]; exact nI_le q (by omega)) c2
        refine lv_aload_n hx hb d_Plan_findRings_13 rfl (lv_at hl 0 rfl) ?_
        refine mv_bv X (mv_rV (rest := []) (As := []) gt_good C X k_4_63 (cm_Plan_markScreensThatLeadHome hE hJ xl.1 hcE hRP h20 hns hkf) (xl.1.get (i := 2) (j := 0) h20) rfl rfl ⟨Nat.le_of_ble_eq_true rfl, Nat.le_of_ble_eq_true rfl⟩ rfl hl.1 rfl (Nat.le_of_ble_eq_true rfl) d_Plan_findRings_14 ⟨Nat.zero_le _, Nat.zero_le _⟩) (fun hN H locs hp X => ?_)
        obtain ⟨L2, x2, hRP2, kp2⟩ := hp
        refine lv_iinc (v := (i + 1)) (lv' := [(1, .int (i + 1)), (0, .ref (ad 2 0))]) hx hb d_Plan_findRings_17 hl (k := 1) rfl rfl (by decide) rfl (fun ls hl => ?_)
        refine lv_goto (tgt := 2) hx hb d_Plan_findRings_20 (by decide) ?_
        exact ih_lp (i0 + 1) (cS kf ns 1 lh) L2 (i + 1) ls _ _ _ (by rw [ei]; exact nI_1 i0) (by omega) (xl.trans x2) hRP2 (fun i a => (kp2 i a).trans (hkp i a)) (by rw [hit, cIt_s hin]) (by omega) X (lv_sub hl [1, 0] rfl)
  exact lp (ns - 0 + 1) 0 lh0 L0 0 ls _ _ _ rfl (Nat.zero_le _) (LR.of x0) hRP0 (fun _ _ => rfl) rfl (Nat.lt_succ_self _) X (lv_sub hl [1, 0] rfl)
