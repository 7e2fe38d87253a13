theorem d_MenuScreensModel_told_0 : decode prog_13_method_11_code 0 = .ok (.lconst 0, 1) := by decide +kernel
theorem d_MenuScreensModel_told_1 : decode prog_13_method_11_code 1 = .ok (.lstore 7, 2) := by decide +kernel
theorem d_MenuScreensModel_told_3 : decode prog_13_method_11_code 3 = .ok (.iconst 0, 1) := by decide +kernel
theorem d_MenuScreensModel_told_4 : decode prog_13_method_11_code 4 = .ok (.istore 9, 2) := by decide +kernel
theorem d_MenuScreensModel_told_6 : decode prog_13_method_11_code 6 = .ok (.iload 9, 2) := by decide +kernel
theorem d_MenuScreensModel_told_8 : decode prog_13_method_11_code 8 = .ok (.bipush 7, 2) := by decide +kernel
theorem d_MenuScreensModel_told_10 : decode prog_13_method_11_code 10 = .ok (.if_icmp .ge 96, 3) := by decide +kernel
theorem d_MenuScreensModel_told_13 : decode prog_13_method_11_code 13 = .ok (.iload 9, 2) := by decide +kernel
theorem d_MenuScreensModel_told_15 : decode prog_13_method_11_code 15 = .ok (.ifCond .ne 7, 3) := by decide +kernel
theorem d_MenuScreensModel_told_18 : decode prog_13_method_11_code 18 = .ok (.iload_n 0, 1) := by decide +kernel
theorem d_MenuScreensModel_told_19 : decode prog_13_method_11_code 19 = .ok (.goto 57, 3) := by decide +kernel
theorem d_MenuScreensModel_told_22 : decode prog_13_method_11_code 22 = .ok (.iload 9, 2) := by decide +kernel
theorem d_MenuScreensModel_told_24 : decode prog_13_method_11_code 24 = .ok (.iconst 1, 1) := by decide +kernel
theorem d_MenuScreensModel_told_25 : decode prog_13_method_11_code 25 = .ok (.if_icmp .ne 7, 3) := by decide +kernel
theorem d_MenuScreensModel_told_28 : decode prog_13_method_11_code 28 = .ok (.iload_n 1, 1) := by decide +kernel
theorem d_MenuScreensModel_told_29 : decode prog_13_method_11_code 29 = .ok (.goto 47, 3) := by decide +kernel
theorem d_MenuScreensModel_told_32 : decode prog_13_method_11_code 32 = .ok (.iload 9, 2) := by decide +kernel
theorem d_MenuScreensModel_told_34 : decode prog_13_method_11_code 34 = .ok (.iconst 2, 1) := by decide +kernel
theorem d_MenuScreensModel_told_35 : decode prog_13_method_11_code 35 = .ok (.if_icmp .ne 7, 3) := by decide +kernel
theorem d_MenuScreensModel_told_38 : decode prog_13_method_11_code 38 = .ok (.iload_n 2, 1) := by decide +kernel
theorem d_MenuScreensModel_told_39 : decode prog_13_method_11_code 39 = .ok (.goto 37, 3) := by decide +kernel
theorem d_MenuScreensModel_told_42 : decode prog_13_method_11_code 42 = .ok (.iload 9, 2) := by decide +kernel
theorem d_MenuScreensModel_told_44 : decode prog_13_method_11_code 44 = .ok (.iconst 3, 1) := by decide +kernel
theorem d_MenuScreensModel_told_45 : decode prog_13_method_11_code 45 = .ok (.if_icmp .ne 7, 3) := by decide +kernel
theorem d_MenuScreensModel_told_48 : decode prog_13_method_11_code 48 = .ok (.iload_n 3, 1) := by decide +kernel
theorem d_MenuScreensModel_told_49 : decode prog_13_method_11_code 49 = .ok (.goto 27, 3) := by decide +kernel
theorem d_MenuScreensModel_told_52 : decode prog_13_method_11_code 52 = .ok (.iload 9, 2) := by decide +kernel
theorem d_MenuScreensModel_told_54 : decode prog_13_method_11_code 54 = .ok (.iconst 4, 1) := by decide +kernel
theorem d_MenuScreensModel_told_55 : decode prog_13_method_11_code 55 = .ok (.if_icmp .ne 8, 3) := by decide +kernel
theorem d_MenuScreensModel_told_58 : decode prog_13_method_11_code 58 = .ok (.iload 4, 2) := by decide +kernel
theorem d_MenuScreensModel_told_60 : decode prog_13_method_11_code 60 = .ok (.goto 16, 3) := by decide +kernel
theorem d_MenuScreensModel_told_63 : decode prog_13_method_11_code 63 = .ok (.iload 9, 2) := by decide +kernel
theorem d_MenuScreensModel_told_65 : decode prog_13_method_11_code 65 = .ok (.iconst 5, 1) := by decide +kernel
theorem d_MenuScreensModel_told_66 : decode prog_13_method_11_code 66 = .ok (.if_icmp .ne 8, 3) := by decide +kernel
theorem d_MenuScreensModel_told_69 : decode prog_13_method_11_code 69 = .ok (.iload 5, 2) := by decide +kernel
theorem d_MenuScreensModel_told_71 : decode prog_13_method_11_code 71 = .ok (.goto 5, 3) := by decide +kernel
theorem d_MenuScreensModel_told_74 : decode prog_13_method_11_code 74 = .ok (.iload 6, 2) := by decide +kernel
theorem d_MenuScreensModel_told_76 : decode prog_13_method_11_code 76 = .ok (.istore 10, 2) := by decide +kernel
theorem d_MenuScreensModel_told_78 : decode prog_13_method_11_code 78 = .ok (.iload 10, 2) := by decide +kernel
theorem d_MenuScreensModel_told_80 : decode prog_13_method_11_code 80 = .ok (.ifCond .ne 8, 3) := by decide +kernel
theorem d_MenuScreensModel_told_83 : decode prog_13_method_11_code 83 = .ok (.lload 7, 2) := by decide +kernel
theorem d_MenuScreensModel_told_85 : decode prog_13_method_11_code 85 = .ok (.goto 13, 3) := by decide +kernel
theorem d_MenuScreensModel_told_88 : decode prog_13_method_11_code 88 = .ok (.lload 7, 2) := by decide +kernel
theorem d_MenuScreensModel_told_90 : decode prog_13_method_11_code 90 = .ok (.ldc2_w 160, 3) := by decide +kernel
theorem d_MenuScreensModel_told_93 : decode prog_13_method_11_code 93 = .ok (.lmul, 1) := by decide +kernel
theorem d_MenuScreensModel_told_94 : decode prog_13_method_11_code 94 = .ok (.iload 10, 2) := by decide +kernel
theorem d_MenuScreensModel_told_96 : decode prog_13_method_11_code 96 = .ok (.i2l, 1) := by decide +kernel
theorem d_MenuScreensModel_told_97 : decode prog_13_method_11_code 97 = .ok (.ladd, 1) := by decide +kernel
theorem d_MenuScreensModel_told_98 : decode prog_13_method_11_code 98 = .ok (.lstore 7, 2) := by decide +kernel
theorem d_MenuScreensModel_told_100 : decode prog_13_method_11_code 100 = .ok (.iinc 9 1, 3) := by decide +kernel
theorem d_MenuScreensModel_told_103 : decode prog_13_method_11_code 103 = .ok (.goto (-97), 3) := by decide +kernel
theorem d_MenuScreensModel_told_106 : decode prog_13_method_11_code 106 = .ok (.lload 7, 2) := by decide +kernel
theorem d_MenuScreensModel_told_108 : decode prog_13_method_11_code 108 = .ok (.lreturn, 1) := by decide +kernel
set_option maxRecDepth 100000 in
set_option maxHeartbeats 4000000 in
theorem cm_MenuScreensModel_told {l : Launch} {S0 : State} {b : Nat} {D : va_G} {dT : Nat → ClassId} (hE : vEnv S0 b D dT) {h0 : vH} (p0 : Int32) (p1 : Int32) (p2 : Int32) (p3 : Int32) (p4 : Int32) (p5 : Int32) (p6 : Int32) : vMl l S0 D vcl GT y_MenuScreensModel_told prog_13_method_11_code 11 (some .long) 0 0 0 0 [.int p0, .int p1, .int p2, .int p3, .int p4, .int p5, .int p6] h0 (fun r h' => h' = h0 ∧ r = tl (q7 p0 p1 p2 p3 p4 p5 p6) 7) := by
  unfold vMl
  refine vM_ofQ hE.1 (by decide) (Nat.le_of_ble_eq_true rfl) (fun p e s m args below meth c ls Q hQ C hr hlk hnm X hl => ?_)
  have C : vC p s m _ c _ _ "MenuScreensModel" GT D vcl (vty dT) := C
  have hx := C.1.1
  have hb := C.1.2.1
  obtain ⟨H, eH⟩ : ∃ z, z = s.heap := ⟨_, rfl⟩
  obtain ⟨locs, elocs⟩ : ∃ z : List Loc, z = [] := ⟨_, rfl⟩
  rw [← eH, ← elocs] at X
  rw [← eH, ← elocs]
  clear eH elocs
  have hl : lv_has ls 11 [(0, .int p0), (1, .int p1), (2, .int p2), (3, .int p3), (4, .int p4), (5, .int p5), (6, .int p6)] := hl
  refine lv_lconst (v := 0) hx hb d_MenuScreensModel_told_0 (by decide) ?_
  refine lv_lstore (lv' := [(7, .long 0), (0, .int p0), (1, .int p1), (2, .int p2), (3, .int p3), (4, .int p4), (5, .int p5), (6, .int p6)]) hx hb d_MenuScreensModel_told_1 hl (by decide) rfl (fun ls hl => ?_)
  refine lv_iconst (v := 0) hx hb d_MenuScreensModel_told_3 (by decide) ?_
  refine lv_istore (lv' := [(9, .int 0), (7, .long 0), (0, .int p0), (1, .int p1), (2, .int p2), (3, .int p3), (4, .int p4), (5, .int p5), (6, .int p6)]) hx hb d_MenuScreensModel_told_4 hl (by decide) rfl (fun ls hl => ?_)
  have lp : ∀ (n_lp : Nat) (k : Nat) (v : Int64) (i : Int32) (ls : Array Slot), (i = nI k) → (k ≤ 7) → (v = tl (q7 p0 p1 p2 p3 p4 p5 p6) k) → (7 - k) < n_lp → lv_has ls 11 [(0, .int p0), (1, .int p1), (2, .int p2), (3, .int p3), (4, .int p4), (5, .int p5), (6, .int p6), (7, .long v), (9, .int i)] → W p l e (vRm 0 0 0 0) s m args below meth c H locs 0 0 Q (F0 m 6 ls []) := by
    intro n_lp
    induction n_lp with
    | zero => intros; exact absurd (by assumption) (Nat.not_lt_zero _)
    | succ n_lp ih_lp =>
      intro k v i ls ei hk ev hmu_lp hl
      refine lv_iload hx hb d_MenuScreensModel_told_6 (lv_at hl 8 rfl) ?_
      refine lv_bipush (v := 7) hx hb d_MenuScreensModel_told_8 (by decide) ?_
      refine lv_icmp_ge (tgt := 106) hx hb d_MenuScreensModel_told_10 (by decide) (fun c1 => ?_) (fun c1 => ?_)
      · skip
        refine lv_lload hx hb d_MenuScreensModel_told_106 (lv_at hl 7 rfl) ?_
        exact mq_lret hQ C X hr hlk (⟨rfl, by
            have : k = 7 := by
              have := (nI_leI (a := 7) (b := k) (by decide) (by omega)).mp (by rw [← ei]; exact c1)
              omega
            rw [ev, this]⟩) (Nat.le_refl _) (Nat.le_refl _) d_MenuScreensModel_told_108
      · skip
        have hlt : k < 7 := by
          rcases Nat.lt_or_ge k 7 with q | q
          · exact q
          · exact absurd (by rw [ei]; exact nI_le (a := 7) q (by omega)) c1
        have j76 : ∀ (s1 : Int32) (ls : Array Slot), (s1 = (q7 p0 p1 p2 p3 p4 p5 p6) k) → lv_has ls 11 [(0, .int p0), (1, .int p1), (2, .int p2), (3, .int p3), (4, .int p4), (5, .int p5), (6, .int p6), (7, .long v), (9, .int i)] → W p l e (vRm 0 0 0 0) s m args below meth c H locs 0 0 Q (F0 m 76 ls [.int s1]) := by
          intro s1 ls hs hl
          refine lv_istore (lv' := [(10, .int s1), (0, .int p0), (1, .int p1), (2, .int p2), (3, .int p3), (4, .int p4), (5, .int p5), (6, .int p6), (7, .long v), (9, .int i)]) hx hb d_MenuScreensModel_told_76 hl (by decide) rfl (fun ls hl => ?_)
          refine lv_iload hx hb d_MenuScreensModel_told_78 (lv_at hl 0 rfl) ?_
          refine lv_if_ne (tgt := 88) hx hb d_MenuScreensModel_told_80 (by decide) (fun c2 => ?_) (fun c2 => ?_)
          · skip
            refine lv_lload hx hb d_MenuScreensModel_told_88 (lv_at hl 8 rfl) ?_
            refine lv_ldc2 (v := 128) hx hb C.1.2.2.2.1 (C.1.2.2.2.2 _ (gt_5 232 (by decide +kernel) rfl)) d_MenuScreensModel_told_90 ?_
            refine lv_lmul hx hb d_MenuScreensModel_told_93 ?_
            refine lv_iload hx hb d_MenuScreensModel_told_94 (lv_at hl 0 rfl) ?_
            refine lv_i2l (v := (s1 : Int32).toInt64) hx hb d_MenuScreensModel_told_96 rfl ?_
            refine lv_ladd hx hb d_MenuScreensModel_told_97 ?_
            refine lv_lstore (lv' := [(7, .long ((v * 128) + ((s1 : Int32).toInt64))), (10, .int s1), (0, .int p0), (1, .int p1), (2, .int p2), (3, .int p3), (4, .int p4), (5, .int p5), (6, .int p6), (9, .int i)]) hx hb d_MenuScreensModel_told_98 hl (by decide) rfl (fun ls hl => ?_)
            refine lv_iinc (v := (i + 1)) (lv' := [(9, .int (i + 1)), (7, .long ((v * 128) + ((s1 : Int32).toInt64))), (10, .int s1), (0, .int p0), (1, .int p1), (2, .int p2), (3, .int p3), (4, .int p4), (5, .int p5), (6, .int p6)]) hx hb d_MenuScreensModel_told_100 hl (k := 9) rfl rfl (by decide) rfl (fun ls hl => ?_)
            refine lv_goto (tgt := 6) hx hb d_MenuScreensModel_told_103 (by decide) ?_
            exact ih_lp (k + 1) ((v * 128) + ((s1 : Int32).toInt64)) (i + 1) ls  (by rw [ei]; exact nI_1 k) (by omega) (by rw [tl, if_neg (fun z => c2 (hs.trans z)), ev, hs]) (by omega) (lv_sub hl [3, 4, 5, 6, 7, 8, 9, 1, 0] rfl)
          · skip
            refine lv_lload hx hb d_MenuScreensModel_told_83 (lv_at hl 8 rfl) ?_
            refine lv_goto (tgt := 98) hx hb d_MenuScreensModel_told_85 (by decide) ?_
            refine lv_lstore (lv' := [(7, .long v), (10, .int s1), (0, .int p0), (1, .int p1), (2, .int p2), (3, .int p3), (4, .int p4), (5, .int p5), (6, .int p6), (9, .int i)]) hx hb d_MenuScreensModel_told_98 hl (by decide) rfl (fun ls hl => ?_)
            refine lv_iinc (v := (i + 1)) (lv' := [(9, .int (i + 1)), (7, .long v), (10, .int s1), (0, .int p0), (1, .int p1), (2, .int p2), (3, .int p3), (4, .int p4), (5, .int p5), (6, .int p6)]) hx hb d_MenuScreensModel_told_100 hl (k := 9) rfl rfl (by decide) rfl (fun ls hl => ?_)
            refine lv_goto (tgt := 6) hx hb d_MenuScreensModel_told_103 (by decide) ?_
            exact ih_lp (k + 1) v (i + 1) ls  (by rw [ei]; exact nI_1 k) (by omega) (by rw [tl, if_pos (hs.symm.trans c2), ev]) (by omega) (lv_sub hl [3, 4, 5, 6, 7, 8, 9, 1, 0] rfl)
        refine lv_iload hx hb d_MenuScreensModel_told_13 (lv_at hl 8 rfl) ?_
        refine lv_if_ne (tgt := 22) hx hb d_MenuScreensModel_told_15 (by decide) (fun c3 => ?_) (fun c3 => ?_)
        · skip
          refine lv_iload hx hb d_MenuScreensModel_told_22 (lv_at hl 8 rfl) ?_
          refine lv_iconst (v := 1) hx hb d_MenuScreensModel_told_24 (by decide) ?_
          refine lv_icmp_ne (tgt := 32) hx hb d_MenuScreensModel_told_25 (by decide) (fun c4 => ?_) (fun c4 => ?_)
          · skip
            refine lv_iload hx hb d_MenuScreensModel_told_32 (lv_at hl 8 rfl) ?_
            refine lv_iconst (v := 2) hx hb d_MenuScreensModel_told_34 (by decide) ?_
            refine lv_icmp_ne (tgt := 42) hx hb d_MenuScreensModel_told_35 (by decide) (fun c5 => ?_) (fun c5 => ?_)
            · skip
              refine lv_iload hx hb d_MenuScreensModel_told_42 (lv_at hl 8 rfl) ?_
              refine lv_iconst (v := 3) hx hb d_MenuScreensModel_told_44 (by decide) ?_
              refine lv_icmp_ne (tgt := 52) hx hb d_MenuScreensModel_told_45 (by decide) (fun c6 => ?_) (fun c6 => ?_)
              · skip
                refine lv_iload hx hb d_MenuScreensModel_told_52 (lv_at hl 8 rfl) ?_
                refine lv_iconst (v := 4) hx hb d_MenuScreensModel_told_54 (by decide) ?_
                refine lv_icmp_ne (tgt := 63) hx hb d_MenuScreensModel_told_55 (by decide) (fun c7 => ?_) (fun c7 => ?_)
                · skip
                  refine lv_iload hx hb d_MenuScreensModel_told_63 (lv_at hl 8 rfl) ?_
                  refine lv_iconst (v := 5) hx hb d_MenuScreensModel_told_65 (by decide) ?_
                  refine lv_icmp_ne (tgt := 74) hx hb d_MenuScreensModel_told_66 (by decide) (fun c8 => ?_) (fun c8 => ?_)
                  · skip
                    refine lv_iload hx hb d_MenuScreensModel_told_74 (lv_at hl 6 rfl) ?_
                    have n0 : k ≠ 0 := fun z => c3 (by rw [ei, z]; rfl)
                    have n1 : k ≠ 1 := fun z => c4 (by rw [ei, z]; rfl)
                    have n2 : k ≠ 2 := fun z => c5 (by rw [ei, z]; rfl)
                    have n3 : k ≠ 3 := fun z => c6 (by rw [ei, z]; rfl)
                    have n4 : k ≠ 4 := fun z => c7 (by rw [ei, z]; rfl)
                    have n5 : k ≠ 5 := fun z => c8 (by rw [ei, z]; rfl)
                    exact j76 p6 ls (by unfold q7; rw [if_neg n0, if_neg n1, if_neg n2, if_neg n3, if_neg n4, if_neg n5]) (lv_sub hl [0, 1, 2, 3, 4, 5, 6, 7, 8] rfl)
                  · skip
                    refine lv_iload hx hb d_MenuScreensModel_told_69 (lv_at hl 5 rfl) ?_
                    refine lv_goto (tgt := 76) hx hb d_MenuScreensModel_told_71 (by decide) ?_
                    have n0 : k ≠ 0 := fun z => c3 (by rw [ei, z]; rfl)
                    have n1 : k ≠ 1 := fun z => c4 (by rw [ei, z]; rfl)
                    have n2 : k ≠ 2 := fun z => c5 (by rw [ei, z]; rfl)
                    have n3 : k ≠ 3 := fun z => c6 (by rw [ei, z]; rfl)
                    have n4 : k ≠ 4 := fun z => c7 (by rw [ei, z]; rfl)
                    have n5 : k = 5 := nI_eqI (by omega) (by decide) (by rw [← ei]; exact c8)
                    exact j76 p5 ls (by unfold q7; rw [if_neg n0, if_neg n1, if_neg n2, if_neg n3, if_neg n4, if_pos n5]) (lv_sub hl [0, 1, 2, 3, 4, 5, 6, 7, 8] rfl)
                · skip
                  refine lv_iload hx hb d_MenuScreensModel_told_58 (lv_at hl 4 rfl) ?_
                  refine lv_goto (tgt := 76) hx hb d_MenuScreensModel_told_60 (by decide) ?_
                  have n0 : k ≠ 0 := fun z => c3 (by rw [ei, z]; rfl)
                  have n1 : k ≠ 1 := fun z => c4 (by rw [ei, z]; rfl)
                  have n2 : k ≠ 2 := fun z => c5 (by rw [ei, z]; rfl)
                  have n3 : k ≠ 3 := fun z => c6 (by rw [ei, z]; rfl)
                  have n4 : k = 4 := nI_eqI (by omega) (by decide) (by rw [← ei]; exact c7)
                  exact j76 p4 ls (by unfold q7; rw [if_neg n0, if_neg n1, if_neg n2, if_neg n3, if_pos n4]) (lv_sub hl [0, 1, 2, 3, 4, 5, 6, 7, 8] rfl)
              · skip
                refine lv_iload_n hx hb d_MenuScreensModel_told_48 rfl (lv_at hl 3 rfl) ?_
                refine lv_goto (tgt := 76) hx hb d_MenuScreensModel_told_49 (by decide) ?_
                have n0 : k ≠ 0 := fun z => c3 (by rw [ei, z]; rfl)
                have n1 : k ≠ 1 := fun z => c4 (by rw [ei, z]; rfl)
                have n2 : k ≠ 2 := fun z => c5 (by rw [ei, z]; rfl)
                have n3 : k = 3 := nI_eqI (by omega) (by decide) (by rw [← ei]; exact c6)
                exact j76 p3 ls (by unfold q7; rw [if_neg n0, if_neg n1, if_neg n2, if_pos n3]) (lv_sub hl [0, 1, 2, 3, 4, 5, 6, 7, 8] rfl)
            · skip
              refine lv_iload_n hx hb d_MenuScreensModel_told_38 rfl (lv_at hl 2 rfl) ?_
              refine lv_goto (tgt := 76) hx hb d_MenuScreensModel_told_39 (by decide) ?_
              have n0 : k ≠ 0 := fun z => c3 (by rw [ei, z]; rfl)
              have n1 : k ≠ 1 := fun z => c4 (by rw [ei, z]; rfl)
              have n2 : k = 2 := nI_eqI (by omega) (by decide) (by rw [← ei]; exact c5)
              exact j76 p2 ls (by unfold q7; rw [if_neg n0, if_neg n1, if_pos n2]) (lv_sub hl [0, 1, 2, 3, 4, 5, 6, 7, 8] rfl)
          · skip
            refine lv_iload_n hx hb d_MenuScreensModel_told_28 rfl (lv_at hl 1 rfl) ?_
            refine lv_goto (tgt := 76) hx hb d_MenuScreensModel_told_29 (by decide) ?_
            have n0 : k ≠ 0 := fun z => c3 (by rw [ei, z]; rfl)
            have n1 : k = 1 := nI_eqI (by omega) (by decide) (by rw [← ei]; exact c4)
            exact j76 p1 ls (by unfold q7; rw [if_neg n0, if_pos n1]) (lv_sub hl [0, 1, 2, 3, 4, 5, 6, 7, 8] rfl)
        · skip
          refine lv_iload_n hx hb d_MenuScreensModel_told_18 rfl (lv_at hl 0 rfl) ?_
          refine lv_goto (tgt := 76) hx hb d_MenuScreensModel_told_19 (by decide) ?_
          have n0 : k = 0 := nI_eqI (by omega) (by decide) (by rw [← ei]; exact c3)
          exact j76 p0 ls (by unfold q7; rw [if_pos n0]) (lv_sub hl [0, 1, 2, 3, 4, 5, 6, 7, 8] rfl)
  exact lp (7 - 0 + 1) 0 0 0 ls  rfl (by omega) rfl (Nat.lt_succ_self _) (lv_sub hl [2, 3, 4, 5, 6, 7, 8, 1, 0] rfl)
