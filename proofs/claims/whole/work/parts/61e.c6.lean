theorem d_Screen_signAt_0 : decode prog_7_method_4_code 0 = .ok (.aload_n 0, 1) := by decide +kernel
theorem d_Screen_signAt_1 : decode prog_7_method_4_code 1 = .ok (.getfield 12, 3) := by decide +kernel
theorem d_Screen_signAt_4 : decode prog_7_method_4_code 4 = .ok (.invokevirtual 37, 3) := by decide +kernel
theorem d_Screen_signAt_7 : decode prog_7_method_4_code 7 = .ok (.iconst 1, 1) := by decide +kernel
theorem d_Screen_signAt_8 : decode prog_7_method_4_code 8 = .ok (.isub, 1) := by decide +kernel
theorem d_Screen_signAt_9 : decode prog_7_method_4_code 9 = .ok (.istore 4, 2) := by decide +kernel
theorem d_Screen_signAt_11 : decode prog_7_method_4_code 11 = .ok (.iload 4, 2) := by decide +kernel
theorem d_Screen_signAt_13 : decode prog_7_method_4_code 13 = .ok (.ifCond .lt 67, 3) := by decide +kernel
theorem d_Screen_signAt_16 : decode prog_7_method_4_code 16 = .ok (.aload_n 0, 1) := by decide +kernel
theorem d_Screen_signAt_17 : decode prog_7_method_4_code 17 = .ok (.getfield 12, 3) := by decide +kernel
theorem d_Screen_signAt_20 : decode prog_7_method_4_code 20 = .ok (.iload 4, 2) := by decide +kernel
theorem d_Screen_signAt_22 : decode prog_7_method_4_code 22 = .ok (.invokevirtual 41, 3) := by decide +kernel
theorem d_Screen_signAt_25 : decode prog_7_method_4_code 25 = .ok (.checkcast 45, 3) := by decide +kernel
theorem d_Screen_signAt_28 : decode prog_7_method_4_code 28 = .ok (.astore 5, 2) := by decide +kernel
theorem d_Screen_signAt_30 : decode prog_7_method_4_code 30 = .ok (.aload 5, 2) := by decide +kernel
theorem d_Screen_signAt_32 : decode prog_7_method_4_code 32 = .ok (.getfield 47, 3) := by decide +kernel
theorem d_Screen_signAt_35 : decode prog_7_method_4_code 35 = .ok (.iload_n 1, 1) := by decide +kernel
theorem d_Screen_signAt_36 : decode prog_7_method_4_code 36 = .ok (.if_icmp .ne 19, 3) := by decide +kernel
theorem d_Screen_signAt_39 : decode prog_7_method_4_code 39 = .ok (.aload 5, 2) := by decide +kernel
theorem d_Screen_signAt_41 : decode prog_7_method_4_code 41 = .ok (.iload_n 2, 1) := by decide +kernel
theorem d_Screen_signAt_42 : decode prog_7_method_4_code 42 = .ok (.aload 5, 2) := by decide +kernel
theorem d_Screen_signAt_44 : decode prog_7_method_4_code 44 = .ok (.getfield 50, 3) := by decide +kernel
theorem d_Screen_signAt_47 : decode prog_7_method_4_code 47 = .ok (.isub, 1) := by decide +kernel
theorem d_Screen_signAt_48 : decode prog_7_method_4_code 48 = .ok (.iload_n 3, 1) := by decide +kernel
theorem d_Screen_signAt_49 : decode prog_7_method_4_code 49 = .ok (.invokevirtual 53, 3) := by decide +kernel
theorem d_Screen_signAt_52 : decode prog_7_method_4_code 52 = .ok (.goto 4, 3) := by decide +kernel
theorem d_Screen_signAt_55 : decode prog_7_method_4_code 55 = .ok (.iconst 0, 1) := by decide +kernel
theorem d_Screen_signAt_56 : decode prog_7_method_4_code 56 = .ok (.istore 6, 2) := by decide +kernel
theorem d_Screen_signAt_58 : decode prog_7_method_4_code 58 = .ok (.iload 6, 2) := by decide +kernel
theorem d_Screen_signAt_60 : decode prog_7_method_4_code 60 = .ok (.ifCond .eq 14, 3) := by decide +kernel
theorem d_Screen_signAt_63 : decode prog_7_method_4_code 63 = .ok (.aload 5, 2) := by decide +kernel
theorem d_Screen_signAt_65 : decode prog_7_method_4_code 65 = .ok (.invokevirtual 57, 3) := by decide +kernel
theorem d_Screen_signAt_68 : decode prog_7_method_4_code 68 = .ok (.ifCond .eq 6, 3) := by decide +kernel
theorem d_Screen_signAt_71 : decode prog_7_method_4_code 71 = .ok (.iload 6, 2) := by decide +kernel
theorem d_Screen_signAt_73 : decode prog_7_method_4_code 73 = .ok (.ireturn, 1) := by decide +kernel
theorem d_Screen_signAt_74 : decode prog_7_method_4_code 74 = .ok (.iinc 4 (-1), 3) := by decide +kernel
theorem d_Screen_signAt_77 : decode prog_7_method_4_code 77 = .ok (.goto (-66), 3) := by decide +kernel
theorem d_Screen_signAt_80 : decode prog_7_method_4_code 80 = .ok (.bipush 32, 2) := by decide +kernel
theorem d_Screen_signAt_82 : decode prog_7_method_4_code 82 = .ok (.ireturn, 1) := by decide +kernel
set_option maxRecDepth 100000 in
set_option maxHeartbeats 4000000 in
theorem cm_Screen_signAt {l : Launch} {S0 : State} {b : Nat} {D : va_G} {dT : Nat → ClassId} (hE : vEnv S0 b D dT) {dE mO : Nat} (hJ : vJ S0 dE mO) {h0 : vH} {a ps ea n cap : Nat} {md : Int32} {f : Nat → Option Nat} {g : Nat → Nat} {u1 u2 u4 u5 u6 u7 : Value} {row col lg : Int32} {gc : Nat → Int32} {on : Nat → Bool} (hn : n ≤ cap) (hc : cap < 2 ^ 20) (hf : ∀ k, k < n → f k = some (g k)) (hP : ∀ k, k < n → pcI dT h0 (g k) row col lg (gc k) (on k)) (ka : h0 a = some (.inr (9, [u1, u2, .ref ps, u4, u5, u6, u7]))) (kl : h0 ps = some (.inr (2, [.ref ea, .int (nI n), .int md]))) (ke : h0 ea = some (.inl (dT 4, cap, .inr (.inr (.inr (.inr f)))))) : vMi l S0 D vcl GT y_Screen_signAt prog_7_method_4_code 7 (some .int) 5 108 0 0 [.ref a, .int row, .int col, .int lg] h0 (fun r h' => h' = h0 ∧ r = sc2 gc on n) := by
  unfold vMi
  refine vM_ofQ hE.1 (by decide) (Nat.le_of_ble_eq_true rfl) (fun p e s m args below meth c ls Q hQ C hr hlk hnm X hl => ?_)
  have C : vC p s m _ c _ _ "MenuScreens$Screen" GT D vcl (vty dT) := C
  have hx := C.1.1
  have hb := C.1.2.1
  obtain ⟨H, eH⟩ : ∃ z, z = s.heap := ⟨_, rfl⟩
  obtain ⟨locs, elocs⟩ : ∃ z : List Loc, z = [] := ⟨_, rfl⟩
  rw [← eH, ← elocs] at X
  rw [← eH, ← elocs]
  clear eH elocs
  have hl : lv_has ls 7 [(0, .ref a), (1, .int row), (2, .int col), (3, .int lg)] := hl
  refine lv_aload_n hx hb d_Screen_signAt_0 rfl (lv_at hl 0 rfl) ?_
  refine mv_get C X ka 2 f_6_12_9 (v := .ref ps) rfl d_Screen_signAt_1 ?_
  refine mv_bi X (mv_rV (rest := []) (As := []) gt_good C X k_6_37 (cm_ArrayList_size hE kl) kl rfl rfl ⟨Nat.le_of_ble_eq_true rfl, Nat.le_of_ble_eq_true rfl⟩ rfl hl.1 rfl (Nat.le_of_ble_eq_true rfl) d_Screen_signAt_4 ⟨Nat.zero_le _, Nat.zero_le _⟩) (fun r1 hN H locs hp X => ?_)
  obtain ⟨eh, er⟩ := hp
  replace eh := eh.symm
  replace er := er.symm
  subst eh er
  refine lv_iconst (v := 1) hx hb d_Screen_signAt_7 (by decide) ?_
  refine lv_isub hx hb d_Screen_signAt_8 ?_
  refine lv_istore (lv' := [(4, .int ((nI n) - 1)), (0, .ref a), (1, .int row), (2, .int col), (3, .int lg)]) hx hb d_Screen_signAt_9 hl (by decide) rfl (fun ls hl => ?_)
  have lp : ∀ (n_lp : Nat) (k : Nat) (i : Int32) (ls : Array Slot) (H : Heap) (locs : List Loc), (i = nI k - 1) → (k ≤ n) → (sc2 gc on n = sc2 gc on k) → (k) < n_lp → vO S0 D vcl h0 s H locs → lv_has ls 7 [(0, .ref a), (1, .int row), (2, .int col), (3, .int lg), (4, .int i)] → W p l e (vRm 5 108 0 0) s m args below meth c H locs 0 0 Q (F0 m 11 ls []) := by
    intro n_lp
    induction n_lp with
    | zero => intros; exact absurd (by assumption) (Nat.not_lt_zero _)
    | succ n_lp ih_lp =>
      intro k i ls H locs ei hk ha hmu_lp X hl
      refine lv_iload hx hb d_Screen_signAt_11 (lv_at hl 4 rfl) ?_
      refine lv_if_lt (tgt := 80) hx hb d_Screen_signAt_13 (by decide) (fun c2 => ?_) (fun c2 => ?_)
      · skip
        refine lv_bipush (v := 32) hx hb d_Screen_signAt_80 (by decide) ?_
        exact mq_iret hQ C X hr rfl hlk (⟨rfl, by
            have : k = 0 := by
              rcases Nat.eq_zero_or_pos k with q | q
              · exact q
              · exact absurd (by rw [← show i = nI (k - 1) from by rw [ei]; exact nI_sub (b := 1) q]; exact c2) (nI_pos (by omega))
            rw [ha, this]; rfl⟩) (by omega) (by omega) d_Screen_signAt_82
      · skip
        have hk1 : 1 ≤ k := by
          rcases Nat.eq_zero_or_pos k with q | q
          · exact absurd (by rw [ei, q]; decide) c2
          · exact q
        have ei1 : i = nI (k - 1) := by rw [ei]; exact nI_sub (b := 1) hk1
        refine lv_aload_n hx hb d_Screen_signAt_16 rfl (lv_at hl 0 rfl) ?_
        refine mv_get C X ka 2 f_6_12_9 (v := .ref ps) rfl d_Screen_signAt_17 ?_
        refine lv_iload hx hb d_Screen_signAt_20 (lv_at hl 4 rfl) ?_
        rw [ei1]
        refine mv_bq X (mv_rV (rest := []) (As := [.int (nI (k - 1))]) gt_good C X k_6_41 (cm_ArrayList_get hE (j := k - 1) (by omega) hn (by omega) kl ke) kl rfl rfl ⟨Nat.le_of_ble_eq_true rfl, Nat.le_of_ble_eq_true rfl⟩ rfl hl.1 rfl (Nat.le_of_ble_eq_true rfl) d_Screen_signAt_22 ⟨Nat.zero_le _, Nat.zero_le _⟩) (fun r3 hN H locs hp X => ?_)
        obtain ⟨eh, er⟩ := hp
        replace eh := eh.symm
        subst eh
        rw [hf (k - 1) (by omega)] at er
        subst er
        change W _ _ _ _ _ _ _ _ _ _ _ _ _ _ _ (F0 _ _ _ (.ref (g (k - 1)) :: _))
        obtain ⟨ro, co, cb, ce, ad, va, op, nu, vd, nw, x1, x2, x3, x4, hcb, hC, hon, hh⟩ := hP (k - 1) (by omega)
        rcases hh with ⟨w1, w2, v1, v2, n1, n2, f1, f2, s1, s2, s3, s4, kq, ⟨kw1, kv1, b1, g1⟩, ⟨kw2, kv2, b2, g2⟩, egc⟩ | ⟨v, W0, nw0, vd0, t1, t2, t3, t4, kq, kv, hs, hW1, hW2, egc⟩
        · skip
          refine mv_castY C X kq rfl hJ.2.2.2.2.2.2.2.1 (gt_4 146 (by decide +kernel) rfl) d_Screen_signAt_25 ?_
          refine lv_astore (lv' := [(5, .ref (g (k - 1))), (0, .ref a), (1, .int row), (2, .int col), (3, .int lg), (4, .int i)]) hx hb d_Screen_signAt_28 hl (by decide) rfl (fun ls hl => ?_)
          refine lv_aload hx hb d_Screen_signAt_30 (lv_at hl 0 rfl) ?_
          refine mv_get C X kq 2 f_6_47_10 (v := .int ro) rfl d_Screen_signAt_32 ?_
          refine lv_iload_n hx hb d_Screen_signAt_35 rfl (lv_at hl 2 rfl) ?_
          refine lv_icmp_ne (tgt := 55) hx hb d_Screen_signAt_36 (by decide) (fun c4 => ?_) (fun c4 => ?_)
          · skip
            refine lv_iconst (v := 0) hx hb d_Screen_signAt_55 (by decide) ?_
            refine lv_istore (lv' := [(6, .int 0), (5, .ref (g (k - 1))), (0, .ref a), (1, .int row), (2, .int col), (3, .int lg), (4, .int i)]) hx hb d_Screen_signAt_56 hl (by decide) rfl (fun ls hl => ?_)
            refine lv_iload hx hb d_Screen_signAt_58 (lv_at hl 0 rfl) ?_
            refine lv_if_eq (tgt := 74) hx hb d_Screen_signAt_60 (by decide) (fun c5 => ?_) (fun z => absurd rfl z)
            refine lv_iinc (v := (i + (-1))) (lv' := [(4, .int (i + (-1))), (6, .int 0), (5, .ref (g (k - 1))), (0, .ref a), (1, .int row), (2, .int col), (3, .int lg)]) hx hb d_Screen_signAt_74 hl (k := 6) rfl rfl (by decide) rfl (fun ls hl => ?_)
            refine lv_goto (tgt := 11) hx hb d_Screen_signAt_77 (by decide) ?_
            exact ih_lp (k - 1) (i + (-1)) ls _ _ (by rw [ei1, ← Int32.sub_eq_add_neg]) (by omega) (by rw [ha, sc2_p hk1, if_neg (fun z => z.1 (by rw [egc, if_neg c4]))]) (by omega) X (lv_sub hl [3, 4, 5, 6, 0] rfl)
          · skip
            refine lv_aload hx hb d_Screen_signAt_39 (lv_at hl 0 rfl) ?_
            refine lv_iload_n hx hb d_Screen_signAt_41 rfl (lv_at hl 3 rfl) ?_
            refine lv_aload hx hb d_Screen_signAt_42 (lv_at hl 0 rfl) ?_
            refine mv_get C X kq 3 f_6_50_10 (v := .int co) rfl d_Screen_signAt_44 ?_
            refine lv_isub hx hb d_Screen_signAt_47 ?_
            refine lv_iload_n hx hb d_Screen_signAt_48 rfl (lv_at hl 4 rfl) ?_
            refine mv_bi X (mv_rU (rest := []) (As := [.int (col - co), .int lg]) gt_good C X ku_6_53_10 (va_Decl.abs (va_Nw.warmD X.1.1 (va_Nw.of rfl (hE.2.1 _ (List.mem_append_right _ (List.mem_append_right _ (List.mem_append_right _ (List.mem_append_right _ (List.mem_append_left _ (List.mem_of_getElem? (i := 148) (by decide +kernel : tables_1_4[148]? = some _))))))))))) (cm_WordPiece_signAt hE hJ b1 b2 g1 g2 kq kw1 kv1 kw2 kv2) kq rfl ⟨Nat.le_of_ble_eq_true rfl, Nat.le_of_ble_eq_true rfl⟩ rfl hl.1 rfl (Nat.le_of_ble_eq_true rfl) d_Screen_signAt_49 ⟨Nat.zero_le _, Nat.zero_le _⟩) (fun r6 hN H locs hp X => ?_)
            obtain ⟨eh, er⟩ := hp
            replace eh := eh.symm
            replace er := er.symm
            subst eh er
            refine lv_goto (tgt := 56) hx hb d_Screen_signAt_52 (by decide) ?_
            refine lv_istore (lv' := [(6, .int (if lg = 1 then wSg f2 n2 (col - co) else wSg f1 n1 (col - co))), (5, .ref (g (k - 1))), (0, .ref a), (1, .int row), (2, .int col), (3, .int lg), (4, .int i)]) hx hb d_Screen_signAt_56 hl (by decide) rfl (fun ls hl => ?_)
            refine lv_iload hx hb d_Screen_signAt_58 (lv_at hl 0 rfl) ?_
            refine lv_if_eq (tgt := 74) hx hb d_Screen_signAt_60 (by decide) (fun c7 => ?_) (fun c7 => ?_)
            · skip
              refine lv_iinc (v := (i + (-1))) (lv' := [(4, .int (i + (-1))), (6, .int (if lg = 1 then wSg f2 n2 (col - co) else wSg f1 n1 (col - co))), (5, .ref (g (k - 1))), (0, .ref a), (1, .int row), (2, .int col), (3, .int lg)]) hx hb d_Screen_signAt_74 hl (k := 6) rfl rfl (by decide) rfl (fun ls hl => ?_)
              refine lv_goto (tgt := 11) hx hb d_Screen_signAt_77 (by decide) ?_
              exact ih_lp (k - 1) (i + (-1)) ls _ _ (by rw [ei1, ← Int32.sub_eq_add_neg]) (by omega) (by rw [ha, sc2_p hk1, if_neg (fun z => z.1 (by rw [egc, if_pos c4]; exact c7))]) (by omega) X (lv_sub hl [3, 4, 5, 6, 0] rfl)
            · skip
              refine lv_aload hx hb d_Screen_signAt_63 (lv_at hl 1 rfl) ?_
              refine mv_bi X (mv_rU (rest := []) (As := []) gt_good C X ku_6_57_10 (va_Decl.of (C.1.2.2.2.2 _ (gt_4 173 (by decide +kernel) rfl)) (C.1.2.2.2.2 _ (gt_4 177 (rfl) rfl))) (cm_Piece_isOn10 hE hcb hC kq) kq rfl ⟨Nat.le_of_ble_eq_true rfl, Nat.le_of_ble_eq_true rfl⟩ rfl hl.1 rfl (Nat.le_of_ble_eq_true rfl) d_Screen_signAt_65 ⟨Nat.zero_le _, Nat.zero_le _⟩) (fun r8 hN H locs hp X => ?_)
              obtain ⟨eh, eon⟩ := hp
              replace eh := eh.symm
              subst eh
              rw [← hon] at eon
              refine lv_if_eq (tgt := 74) hx hb d_Screen_signAt_68 (by decide) (fun c9 => ?_) (fun c9 => ?_)
              · skip
                refine lv_iinc (v := (i + (-1))) (lv' := [(4, .int (i + (-1))), (6, .int (if lg = 1 then wSg f2 n2 (col - co) else wSg f1 n1 (col - co))), (5, .ref (g (k - 1))), (0, .ref a), (1, .int row), (2, .int col), (3, .int lg)]) hx hb d_Screen_signAt_74 hl (k := 6) rfl rfl (by decide) rfl (fun ls hl => ?_)
                refine lv_goto (tgt := 11) hx hb d_Screen_signAt_77 (by decide) ?_
                exact ih_lp (k - 1) (i + (-1)) ls _ _ (by rw [ei1, ← Int32.sub_eq_add_neg]) (by omega) (by rw [ha, sc2_p hk1, if_neg (fun z => by rw [z.2] at eon; exact absurd (eon.symm.trans c9) (by decide))]) (by omega) X (lv_sub hl [3, 4, 5, 6, 0] rfl)
              · skip
                refine lv_iload hx hb d_Screen_signAt_71 (lv_at hl 0 rfl) ?_
                exact mq_iret hQ C X hr rfl hlk (⟨rfl, by rw [ha, sc2_p hk1, if_pos (show ¬ gc (k - 1) = 0 ∧ on (k - 1) = true from ⟨fun z => c7 (by rw [egc, if_pos c4] at z; exact z), bI_n (fun z => c9 (eon.trans z))⟩), egc, if_pos c4]⟩) (by omega) (by omega) d_Screen_signAt_73
        · skip
          refine mv_castY C X kq rfl hJ.2.2.2.2.2.2.2.2.1 (gt_4 146 (by decide +kernel) rfl) d_Screen_signAt_25 ?_
          refine lv_astore (lv' := [(5, .ref (g (k - 1))), (0, .ref a), (1, .int row), (2, .int col), (3, .int lg), (4, .int i)]) hx hb d_Screen_signAt_28 hl (by decide) rfl (fun ls hl => ?_)
          refine lv_aload hx hb d_Screen_signAt_30 (lv_at hl 0 rfl) ?_
          refine mv_get C X kq 2 f_6_47_11 (v := .int ro) rfl d_Screen_signAt_32 ?_
          refine lv_iload_n hx hb d_Screen_signAt_35 rfl (lv_at hl 2 rfl) ?_
          refine lv_icmp_ne (tgt := 55) hx hb d_Screen_signAt_36 (by decide) (fun c10 => ?_) (fun c10 => ?_)
          · skip
            refine lv_iconst (v := 0) hx hb d_Screen_signAt_55 (by decide) ?_
            refine lv_istore (lv' := [(6, .int 0), (5, .ref (g (k - 1))), (0, .ref a), (1, .int row), (2, .int col), (3, .int lg), (4, .int i)]) hx hb d_Screen_signAt_56 hl (by decide) rfl (fun ls hl => ?_)
            refine lv_iload hx hb d_Screen_signAt_58 (lv_at hl 0 rfl) ?_
            refine lv_if_eq (tgt := 74) hx hb d_Screen_signAt_60 (by decide) (fun c11 => ?_) (fun z => absurd rfl z)
            refine lv_iinc (v := (i + (-1))) (lv' := [(4, .int (i + (-1))), (6, .int 0), (5, .ref (g (k - 1))), (0, .ref a), (1, .int row), (2, .int col), (3, .int lg)]) hx hb d_Screen_signAt_74 hl (k := 6) rfl rfl (by decide) rfl (fun ls hl => ?_)
            refine lv_goto (tgt := 11) hx hb d_Screen_signAt_77 (by decide) ?_
            exact ih_lp (k - 1) (i + (-1)) ls _ _ (by rw [ei1, ← Int32.sub_eq_add_neg]) (by omega) (by rw [ha, sc2_p hk1, if_neg (fun z => z.1 (by rw [egc, if_neg c10]))]) (by omega) X (lv_sub hl [3, 4, 5, 6, 0] rfl)
          · skip
            refine lv_aload hx hb d_Screen_signAt_39 (lv_at hl 0 rfl) ?_
            refine lv_iload_n hx hb d_Screen_signAt_41 rfl (lv_at hl 3 rfl) ?_
            refine lv_aload hx hb d_Screen_signAt_42 (lv_at hl 0 rfl) ?_
            refine mv_get C X kq 3 f_6_50_11 (v := .int co) rfl d_Screen_signAt_44 ?_
            refine lv_isub hx hb d_Screen_signAt_47 ?_
            refine lv_iload_n hx hb d_Screen_signAt_48 rfl (lv_at hl 4 rfl) ?_
            refine mv_bi X (mv_rU (rest := []) (As := [.int (col - co), .int lg]) gt_good C X ku_6_53_11 (va_Decl.abs (va_Nw.warmD X.1.1 (va_Nw.of rfl (hE.2.1 _ (List.mem_append_right _ (List.mem_append_right _ (List.mem_append_right _ (List.mem_append_right _ (List.mem_append_left _ (List.mem_of_getElem? (i := 148) (by decide +kernel : tables_1_4[148]? = some _))))))))))) (cm_ValuePiece_signAt hE hs hW1 hW2 kq kv) kq rfl ⟨Nat.le_of_ble_eq_true rfl, Nat.le_of_ble_eq_true rfl⟩ rfl hl.1 rfl (Nat.le_of_ble_eq_true rfl) d_Screen_signAt_49 ⟨Nat.zero_le _, Nat.zero_le _⟩) (fun r12 hN H locs hp X => ?_)
            obtain ⟨eh, er⟩ := hp
            replace eh := eh.symm
            replace er := er.symm
            subst eh er
            refine lv_goto (tgt := 56) hx hb d_Screen_signAt_52 (by decide) ?_
            refine lv_istore (lv' := [(6, .int (if col - co < 0 then 0 else if col - co < nI W0 then dgF vd0 nw0 W0 (col - co).toNatClampNeg else 0)), (5, .ref (g (k - 1))), (0, .ref a), (1, .int row), (2, .int col), (3, .int lg), (4, .int i)]) hx hb d_Screen_signAt_56 hl (by decide) rfl (fun ls hl => ?_)
            refine lv_iload hx hb d_Screen_signAt_58 (lv_at hl 0 rfl) ?_
            refine lv_if_eq (tgt := 74) hx hb d_Screen_signAt_60 (by decide) (fun c13 => ?_) (fun c13 => ?_)
            · skip
              refine lv_iinc (v := (i + (-1))) (lv' := [(4, .int (i + (-1))), (6, .int (if col - co < 0 then 0 else if col - co < nI W0 then dgF vd0 nw0 W0 (col - co).toNatClampNeg else 0)), (5, .ref (g (k - 1))), (0, .ref a), (1, .int row), (2, .int col), (3, .int lg)]) hx hb d_Screen_signAt_74 hl (k := 6) rfl rfl (by decide) rfl (fun ls hl => ?_)
              refine lv_goto (tgt := 11) hx hb d_Screen_signAt_77 (by decide) ?_
              exact ih_lp (k - 1) (i + (-1)) ls _ _ (by rw [ei1, ← Int32.sub_eq_add_neg]) (by omega) (by rw [ha, sc2_p hk1, if_neg (fun z => z.1 (by rw [egc, if_pos c10]; exact c13))]) (by omega) X (lv_sub hl [3, 4, 5, 6, 0] rfl)
            · skip
              refine lv_aload hx hb d_Screen_signAt_63 (lv_at hl 1 rfl) ?_
              refine mv_bi X (mv_rU (rest := []) (As := []) gt_good C X ku_6_57_11 (va_Decl.of (C.1.2.2.2.2 _ (gt_4 173 (by decide +kernel) rfl)) (C.1.2.2.2.2 _ (gt_4 177 (rfl) rfl))) (cm_Piece_isOn11 hE hcb hC kq) kq rfl ⟨Nat.le_of_ble_eq_true rfl, Nat.le_of_ble_eq_true rfl⟩ rfl hl.1 rfl (Nat.le_of_ble_eq_true rfl) d_Screen_signAt_65 ⟨Nat.zero_le _, Nat.zero_le _⟩) (fun r14 hN H locs hp X => ?_)
              obtain ⟨eh, eon⟩ := hp
              replace eh := eh.symm
              subst eh
              rw [← hon] at eon
              refine lv_if_eq (tgt := 74) hx hb d_Screen_signAt_68 (by decide) (fun c15 => ?_) (fun c15 => ?_)
              · skip
                refine lv_iinc (v := (i + (-1))) (lv' := [(4, .int (i + (-1))), (6, .int (if col - co < 0 then 0 else if col - co < nI W0 then dgF vd0 nw0 W0 (col - co).toNatClampNeg else 0)), (5, .ref (g (k - 1))), (0, .ref a), (1, .int row), (2, .int col), (3, .int lg)]) hx hb d_Screen_signAt_74 hl (k := 6) rfl rfl (by decide) rfl (fun ls hl => ?_)
                refine lv_goto (tgt := 11) hx hb d_Screen_signAt_77 (by decide) ?_
                exact ih_lp (k - 1) (i + (-1)) ls _ _ (by rw [ei1, ← Int32.sub_eq_add_neg]) (by omega) (by rw [ha, sc2_p hk1, if_neg (fun z => by rw [z.2] at eon; exact absurd (eon.symm.trans c15) (by decide))]) (by omega) X (lv_sub hl [3, 4, 5, 6, 0] rfl)
              · skip
                refine lv_iload hx hb d_Screen_signAt_71 (lv_at hl 0 rfl) ?_
                exact mq_iret hQ C X hr rfl hlk (⟨rfl, by rw [ha, sc2_p hk1, if_pos (show ¬ gc (k - 1) = 0 ∧ on (k - 1) = true from ⟨fun z => c13 (by rw [egc, if_pos c10] at z; exact z), bI_n (fun z => c15 (eon.trans z))⟩), egc, if_pos c10]⟩) (by omega) (by omega) d_Screen_signAt_73
  exact lp (n + 1) n ((nI n) - 1) ls _ _ rfl (Nat.le_refl _) rfl (Nat.lt_succ_self _) X (lv_sub hl [1, 2, 3, 4, 0] rfl)
