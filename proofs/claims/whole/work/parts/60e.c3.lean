theorem d_Warnings_rankOf_0 : decode prog_10_method_4_code 0 = .ok (.iload_n 1, 1) := by decide +kernel
theorem d_Warnings_rankOf_1 : decode prog_10_method_4_code 1 = .ok (.iconst 1, 1) := by decide +kernel
theorem d_Warnings_rankOf_2 : decode prog_10_method_4_code 2 = .ok (.if_icmp .lt 22, 3) := by decide +kernel
theorem d_Warnings_rankOf_5 : decode prog_10_method_4_code 5 = .ok (.iload_n 1, 1) := by decide +kernel
theorem d_Warnings_rankOf_6 : decode prog_10_method_4_code 6 = .ok (.aload_n 0, 1) := by decide +kernel
theorem d_Warnings_rankOf_7 : decode prog_10_method_4_code 7 = .ok (.getfield 26, 3) := by decide +kernel
theorem d_Warnings_rankOf_10 : decode prog_10_method_4_code 10 = .ok (.if_icmp .gt 14, 3) := by decide +kernel
theorem d_Warnings_rankOf_13 : decode prog_10_method_4_code 13 = .ok (.aload_n 0, 1) := by decide +kernel
theorem d_Warnings_rankOf_14 : decode prog_10_method_4_code 14 = .ok (.getfield 9, 3) := by decide +kernel
theorem d_Warnings_rankOf_17 : decode prog_10_method_4_code 17 = .ok (.iload_n 1, 1) := by decide +kernel
theorem d_Warnings_rankOf_18 : decode prog_10_method_4_code 18 = .ok (.iconst 1, 1) := by decide +kernel
theorem d_Warnings_rankOf_19 : decode prog_10_method_4_code 19 = .ok (.isub, 1) := by decide +kernel
theorem d_Warnings_rankOf_20 : decode prog_10_method_4_code 20 = .ok (.iaload, 1) := by decide +kernel
theorem d_Warnings_rankOf_21 : decode prog_10_method_4_code 21 = .ok (.goto 4, 3) := by decide +kernel
theorem d_Warnings_rankOf_25 : decode prog_10_method_4_code 25 = .ok (.ireturn, 1) := by decide +kernel
set_option maxRecDepth 100000 in
set_option maxHeartbeats 4000000 in
theorem cm_Warnings_rankOf {l : Launch} {S0 : State} {b : Nat} {D : va_G} {dT : Nat → ClassId} (hE : vEnv S0 b D dT) {h0 : vH} {a ar at0 ao n no k : Nat} {la : Int64} {fr : Nat → Int32} (hk1 : 1 ≤ k) (hk2 : k ≤ n) (hn : n ≤ 200) (ka : h0 a = some (.inr (7, [.ref ar, .ref at0, .ref ao, .int (nI n), .int (nI no), .long la]))) (kr : h0 ar = some (.inl (dT 0, 200, .inl fr))) : vMi l S0 D vcl GT y_Warnings_rankOf prog_10_method_4_code 2 (some .int) 0 0 0 0 [.ref a, .int (nI k)] h0 (fun r h' => h' = h0 ∧ r = fr (k - 1)) := by
  unfold vMi
  refine vM_ofQ hE.1 (by decide) (Nat.le_of_ble_eq_true rfl) (fun p e s m args below meth c ls Q hQ C hr hlk hnm X hl => ?_)
  have C : vC p s m _ c _ _ "MenuScreens$Warnings" GT D vcl (vty dT) := C
  have hx := C.1.1
  have hb := C.1.2.1
  obtain ⟨H, eH⟩ : ∃ z, z = s.heap := ⟨_, rfl⟩
  obtain ⟨locs, elocs⟩ : ∃ z : List Loc, z = [] := ⟨_, rfl⟩
  rw [← eH, ← elocs] at X
  rw [← eH, ← elocs]
  clear eH elocs
  have hl : lv_has ls 2 [(0, .ref a), (1, .int (nI k))] := hl
  refine lv_iload_n hx hb d_Warnings_rankOf_0 rfl (lv_at hl 1 rfl) ?_
  refine lv_iconst (v := 1) hx hb d_Warnings_rankOf_1 (by decide) ?_
  refine lv_icmp_lt (tgt := 24) hx hb d_Warnings_rankOf_2 (by decide) (fun z => absurd z (nI_nlt (b := 1) hk1 (by omega))) (fun c1 => ?_)
  refine lv_iload_n hx hb d_Warnings_rankOf_5 rfl (lv_at hl 1 rfl) ?_
  refine lv_aload_n hx hb d_Warnings_rankOf_6 rfl (lv_at hl 0 rfl) ?_
  refine mv_get C X ka 3 f_9_26_7 (v := .int (nI n)) rfl d_Warnings_rankOf_7 ?_
  refine lv_icmp_gt (tgt := 24) hx hb d_Warnings_rankOf_10 (by decide) (fun z => absurd z (nI_nlt (a := n) (by omega) (by omega))) (fun c2 => ?_)
  refine lv_aload_n hx hb d_Warnings_rankOf_13 rfl (lv_at hl 0 rfl) ?_
  refine mv_get C X ka 0 f_9_9_7 (v := .ref ar) rfl d_Warnings_rankOf_14 ?_
  refine lv_iload_n hx hb d_Warnings_rankOf_17 rfl (lv_at hl 1 rfl) ?_
  refine lv_iconst (v := 1) hx hb d_Warnings_rankOf_18 (by decide) ?_
  refine lv_isub hx hb d_Warnings_rankOf_19 ?_
  refine mv_iald C X kr 0 rfl (k - 1) (nI_sub (b := 1) hk1) (by omega) (by omega) d_Warnings_rankOf_20 ?_
  refine lv_goto (tgt := 25) hx hb d_Warnings_rankOf_21 (by decide) ?_
  exact mq_iret hQ C X hr rfl hlk (⟨rfl, rfl⟩) (by omega) (by omega) d_Warnings_rankOf_25
theorem d_Warnings_insertOpen_0 : decode prog_10_method_3_code 0 = .ok (.aload_n 0, 1) := by decide +kernel
theorem d_Warnings_insertOpen_1 : decode prog_10_method_3_code 1 = .ok (.getfield 34, 3) := by decide +kernel
theorem d_Warnings_insertOpen_4 : decode prog_10_method_3_code 4 = .ok (.aload_n 0, 1) := by decide +kernel
theorem d_Warnings_insertOpen_5 : decode prog_10_method_3_code 5 = .ok (.getfield 19, 3) := by decide +kernel
theorem d_Warnings_insertOpen_8 : decode prog_10_method_3_code 8 = .ok (.arraylength, 1) := by decide +kernel
theorem d_Warnings_insertOpen_9 : decode prog_10_method_3_code 9 = .ok (.if_icmp .lt 4, 3) := by decide +kernel
theorem d_Warnings_insertOpen_13 : decode prog_10_method_3_code 13 = .ok (.aload_n 0, 1) := by decide +kernel
theorem d_Warnings_insertOpen_14 : decode prog_10_method_3_code 14 = .ok (.getfield 34, 3) := by decide +kernel
theorem d_Warnings_insertOpen_17 : decode prog_10_method_3_code 17 = .ok (.istore_n 3, 1) := by decide +kernel
theorem d_Warnings_insertOpen_18 : decode prog_10_method_3_code 18 = .ok (.iload_n 3, 1) := by decide +kernel
theorem d_Warnings_insertOpen_19 : decode prog_10_method_3_code 19 = .ok (.ifCond .le 39, 3) := by decide +kernel
theorem d_Warnings_insertOpen_22 : decode prog_10_method_3_code 22 = .ok (.aload_n 0, 1) := by decide +kernel
theorem d_Warnings_insertOpen_23 : decode prog_10_method_3_code 23 = .ok (.aload_n 0, 1) := by decide +kernel
theorem d_Warnings_insertOpen_24 : decode prog_10_method_3_code 24 = .ok (.getfield 19, 3) := by decide +kernel
theorem d_Warnings_insertOpen_27 : decode prog_10_method_3_code 27 = .ok (.iload_n 3, 1) := by decide +kernel
theorem d_Warnings_insertOpen_28 : decode prog_10_method_3_code 28 = .ok (.iconst 1, 1) := by decide +kernel
theorem d_Warnings_insertOpen_29 : decode prog_10_method_3_code 29 = .ok (.isub, 1) := by decide +kernel
theorem d_Warnings_insertOpen_30 : decode prog_10_method_3_code 30 = .ok (.iaload, 1) := by decide +kernel
theorem d_Warnings_insertOpen_31 : decode prog_10_method_3_code 31 = .ok (.invokevirtual 37, 3) := by decide +kernel
theorem d_Warnings_insertOpen_34 : decode prog_10_method_3_code 34 = .ok (.iload_n 2, 1) := by decide +kernel
theorem d_Warnings_insertOpen_35 : decode prog_10_method_3_code 35 = .ok (.if_icmp .ge 23, 3) := by decide +kernel
theorem d_Warnings_insertOpen_38 : decode prog_10_method_3_code 38 = .ok (.aload_n 0, 1) := by decide +kernel
theorem d_Warnings_insertOpen_39 : decode prog_10_method_3_code 39 = .ok (.getfield 19, 3) := by decide +kernel
theorem d_Warnings_insertOpen_42 : decode prog_10_method_3_code 42 = .ok (.iload_n 3, 1) := by decide +kernel
theorem d_Warnings_insertOpen_43 : decode prog_10_method_3_code 43 = .ok (.aload_n 0, 1) := by decide +kernel
theorem d_Warnings_insertOpen_44 : decode prog_10_method_3_code 44 = .ok (.getfield 19, 3) := by decide +kernel
theorem d_Warnings_insertOpen_47 : decode prog_10_method_3_code 47 = .ok (.iload_n 3, 1) := by decide +kernel
theorem d_Warnings_insertOpen_48 : decode prog_10_method_3_code 48 = .ok (.iconst 1, 1) := by decide +kernel
theorem d_Warnings_insertOpen_49 : decode prog_10_method_3_code 49 = .ok (.isub, 1) := by decide +kernel
theorem d_Warnings_insertOpen_50 : decode prog_10_method_3_code 50 = .ok (.iaload, 1) := by decide +kernel
theorem d_Warnings_insertOpen_51 : decode prog_10_method_3_code 51 = .ok (.iastore, 1) := by decide +kernel
theorem d_Warnings_insertOpen_52 : decode prog_10_method_3_code 52 = .ok (.iinc 3 (-1), 3) := by decide +kernel
theorem d_Warnings_insertOpen_55 : decode prog_10_method_3_code 55 = .ok (.goto (-37), 3) := by decide +kernel
theorem d_Warnings_insertOpen_58 : decode prog_10_method_3_code 58 = .ok (.aload_n 0, 1) := by decide +kernel
theorem d_Warnings_insertOpen_59 : decode prog_10_method_3_code 59 = .ok (.getfield 19, 3) := by decide +kernel
theorem d_Warnings_insertOpen_62 : decode prog_10_method_3_code 62 = .ok (.iload_n 3, 1) := by decide +kernel
theorem d_Warnings_insertOpen_63 : decode prog_10_method_3_code 63 = .ok (.iload_n 1, 1) := by decide +kernel
theorem d_Warnings_insertOpen_64 : decode prog_10_method_3_code 64 = .ok (.iastore, 1) := by decide +kernel
theorem d_Warnings_insertOpen_65 : decode prog_10_method_3_code 65 = .ok (.aload_n 0, 1) := by decide +kernel
theorem d_Warnings_insertOpen_66 : decode prog_10_method_3_code 66 = .ok (.dup, 1) := by decide +kernel
theorem d_Warnings_insertOpen_67 : decode prog_10_method_3_code 67 = .ok (.getfield 34, 3) := by decide +kernel
theorem d_Warnings_insertOpen_70 : decode prog_10_method_3_code 70 = .ok (.iconst 1, 1) := by decide +kernel
theorem d_Warnings_insertOpen_71 : decode prog_10_method_3_code 71 = .ok (.iadd, 1) := by decide +kernel
theorem d_Warnings_insertOpen_72 : decode prog_10_method_3_code 72 = .ok (.putfield 34, 3) := by decide +kernel
theorem d_Warnings_insertOpen_75 : decode prog_10_method_3_code 75 = .ok (.return_, 1) := by decide +kernel
set_option maxRecDepth 100000 in
set_option maxHeartbeats 4000000 in
theorem cm_Warnings_insertOpen {l : Launch} {S0 : State} {b : Nat} {D : va_G} {dT : Nat → ClassId} (hE : vEnv S0 b D dT) {h0 : vH} {a ar at0 ao n no : Nat} {la : Int64} {fr fo : Nat → Int32} {ft : Nat → Int64} {x0 : Nat} {rk : Int32} {op : Nat → Nat} (hro : ar ≠ ao) (hno : no < 200) (hn : n ≤ 200) (hop : ∀ j, j < no → fo j = nI (op j) ∧ 1 ≤ op j ∧ op j ≤ n) (ka : h0 a = some (.inr (7, [.ref ar, .ref at0, .ref ao, .int (nI n), .int (nI no), .long la]))) (wa : S0.heap.size ≤ a) (kr : h0 ar = some (.inl (dT 0, 200, .inl fr))) (wr : S0.heap.size ≤ ar) (kt : h0 at0 = some (.inl (dT 1, 200, .inr (.inl ft)))) (wt : S0.heap.size ≤ at0) (ko : h0 ao = some (.inl (dT 0, 200, .inl fo))) (wo : S0.heap.size ≤ ao) : vMv l S0 D vcl GT y_Warnings_insertOpen prog_10_method_3_code 4 none 1 21 0 0 [.ref a, .int (nI x0), .int rk] h0 (fun h' => ∃ f2 pl, h' = vup (vup h0 ao (.inl (dT 0, 200, .inl f2))) a (.inr (7, [.ref ar, .ref at0, .ref ao, .int (nI n), .int (nI (no + 1)), .long la])) ∧ (pl ≤ no ∧ (∀ j, j < pl → f2 j = fo j) ∧ f2 pl = nI x0 ∧ (∀ j, pl < j → j ≤ no → f2 j = fo (j - 1)) ∧ (∀ j, pl ≤ j → j < no → fr (op j - 1) < rk) ∧ (0 < pl → ¬ fr (op (pl - 1) - 1) < rk))) := by
  unfold vMv
  refine vM_ofQ hE.1 (by decide) (Nat.le_of_ble_eq_true rfl) (fun p e s m args below meth c ls Q hQ C hr hlk hnm X hl => ?_)
  have C : vC p s m _ c _ _ "MenuScreens$Warnings" GT D vcl (vty dT) := C
  have hx := C.1.1
  have hb := C.1.2.1
  obtain ⟨H, eH⟩ : ∃ z, z = s.heap := ⟨_, rfl⟩
  obtain ⟨locs, elocs⟩ : ∃ z : List Loc, z = [] := ⟨_, rfl⟩
  rw [← eH, ← elocs] at X
  rw [← eH, ← elocs]
  clear eH elocs
  have hl : lv_has ls 4 [(0, .ref a), (1, .int (nI x0)), (2, .int rk)] := hl
  refine lv_aload_n hx hb d_Warnings_insertOpen_0 rfl (lv_at hl 0 rfl) ?_
  refine mv_get C X ka 4 f_9_34_7 (v := .int (nI no)) rfl d_Warnings_insertOpen_1 ?_
  refine lv_aload_n hx hb d_Warnings_insertOpen_4 rfl (lv_at hl 0 rfl) ?_
  refine mv_get C X ka 2 f_9_19_7 (v := .ref ao) rfl d_Warnings_insertOpen_5 ?_
  refine mv_alen C X ko 0 rfl d_Warnings_insertOpen_8 ?_
  refine lv_icmp_lt (tgt := 13) hx hb d_Warnings_insertOpen_9 (by decide) (fun c1 => ?_) (fun z => absurd (nI_lt hno (by decide)) z)
  refine lv_aload_n hx hb d_Warnings_insertOpen_13 rfl (lv_at hl 0 rfl) ?_
  refine mv_get C X ka 4 f_9_34_7 (v := .int (nI no)) rfl d_Warnings_insertOpen_14 ?_
  refine lv_istore_n (lv' := [(3, .int (nI no)), (0, .ref a), (1, .int (nI x0)), (2, .int rk)]) hx hb d_Warnings_insertOpen_17 rfl hl (by decide) rfl (fun ls hl => ?_)
  rw [← vup_id ko] at X
  have lp : ∀ (n_lp : Nat) (pl : Nat) (f : Nat → Int32) (i : Int32) (ls : Array Slot) (H : Heap) (locs : List Loc), (i = nI pl) → (pl ≤ no) → (∀ j, j < pl → f j = fo j) → (∀ j, pl < j → j ≤ no → f j = fo (j - 1)) → (∀ j, pl ≤ j → j < no → fr (op j - 1) < rk) → (pl) < n_lp → vO S0 D vcl (vup h0 ao (.inl (dT 0, 200, .inl f))) s H locs → lv_has ls 4 [(0, .ref a), (1, .int (nI x0)), (2, .int rk), (3, .int i)] → W p l e (vRm 1 21 0 0) s m args below meth c H locs 0 0 Q (F0 m 18 ls []) := by
    intro n_lp
    induction n_lp with
    | zero => intros; exact absurd (by assumption) (Nat.not_lt_zero _)
    | succ n_lp ih_lp =>
      intro pl f i ls H locs ei hp1 hf1 hf2 hf3 hmu_lp X hl
      refine lv_iload_n hx hb d_Warnings_insertOpen_18 rfl (lv_at hl 3 rfl) ?_
      refine lv_if_le (tgt := 58) hx hb d_Warnings_insertOpen_19 (by decide) (fun c2 => ?_) (fun c2 => ?_)
      · skip
        refine lv_aload_n hx hb d_Warnings_insertOpen_58 rfl (lv_at hl 0 rfl) ?_
        refine mv_get C X ((vup_n _ _ (vne_oa ka ko)).trans ka) 2 f_9_19_7 (v := .ref ao) rfl d_Warnings_insertOpen_59 ?_
        refine lv_iload_n hx hb d_Warnings_insertOpen_62 rfl (lv_at hl 3 rfl) ?_
        refine lv_iload_n hx hb d_Warnings_insertOpen_63 rfl (lv_at hl 1 rfl) ?_
        refine mv_iast C X (vup_s _ _ _) wo 0 rfl pl ei (by omega) (by omega) d_Warnings_insertOpen_64 (fun H locs X => ?_)
        rw [vup_u] at X
        have X : vO S0 D vcl (vup h0 ao (.inl (dT 0, 200, .inl (upd f pl (nI x0))))) s H locs := X
        refine lv_aload_n hx hb d_Warnings_insertOpen_65 rfl (lv_at hl 0 rfl) ?_
        refine lv_dup hx hb d_Warnings_insertOpen_66 rfl ?_
        refine mv_get C X ((vup_n _ _ (vne_oa ka ko)).trans ka) 4 f_9_34_7 (v := .int (nI no)) rfl d_Warnings_insertOpen_67 ?_
        refine lv_iconst (v := 1) hx hb d_Warnings_insertOpen_70 (by decide) ?_
        refine lv_iadd hx hb d_Warnings_insertOpen_71 ?_
        rw [nI_1]
        refine mv_put C X ((vup_n _ _ (vne_oa ka ko)).trans ka) wa 4 p_9_34_7 rfl rfl (Nat.le_of_ble_eq_true rfl) d_Warnings_insertOpen_72 (fun H locs X => ?_)
        have X : vO S0 D vcl (vup (vup h0 ao (.inl (dT 0, 200, .inl (upd f pl (nI x0))))) a (.inr (7, [.ref ar, .ref at0, .ref ao, .int (nI n), .int (nI (no + 1)), .long la]))) s H locs := X
        exact mq_vret hQ C X hr hlk (⟨(upd f pl (nI x0)), pl, rfl, hp1, fun j hj => by rw [pk_un (by omega)]; exact hf1 j hj, pk_us, fun j h1 h2 => by rw [pk_un (by omega)]; exact hf2 j h1 h2, hf3, fun q => absurd q (by have : pl = 0 := by
              rcases Nat.eq_zero_or_pos pl with q | q
              · exact q
              · exact absurd (by rw [← ei]; exact c2) (nI_nle q (by omega))
            omega)⟩) (by omega) (by omega) d_Warnings_insertOpen_75
      · skip
        have hp0 : 1 ≤ pl := by
          rcases Nat.eq_zero_or_pos pl with q | q
          · exact absurd (by rw [ei, q]; decide) c2
          · exact q
        obtain ⟨o1, o2, o3⟩ := hop (pl - 1) (by omega)
        have ei1 : i - 1 = nI (pl - 1) := by rw [ei]; exact nI_sub (b := 1) hp0
        refine lv_aload_n hx hb d_Warnings_insertOpen_22 rfl (lv_at hl 0 rfl) ?_
        refine lv_aload_n hx hb d_Warnings_insertOpen_23 rfl (lv_at hl 0 rfl) ?_
        refine mv_get C X ((vup_n _ _ (vne_oa ka ko)).trans ka) 2 f_9_19_7 (v := .ref ao) rfl d_Warnings_insertOpen_24 ?_
        refine lv_iload_n hx hb d_Warnings_insertOpen_27 rfl (lv_at hl 3 rfl) ?_
        refine lv_iconst (v := 1) hx hb d_Warnings_insertOpen_28 (by decide) ?_
        refine lv_isub hx hb d_Warnings_insertOpen_29 ?_
        refine mv_iald C X (vup_s _ _ _) 0 rfl (pl - 1) ei1 (by omega) (by omega) d_Warnings_insertOpen_30 ?_
        rw [hf1 _ (by omega), o1]
        refine mv_bi X (mv_rV (rest := []) (As := [.int (nI (op (pl - 1)))]) gt_good C X k_9_37 (cm_Warnings_rankOf hE o2 o3 hn ((vup_n _ _ (vne_oa ka ko)).trans ka) ((vup_n _ _ hro).trans kr)) ((vup_n _ _ (vne_oa ka ko)).trans ka) rfl rfl ⟨Nat.le_of_ble_eq_true rfl, Nat.le_of_ble_eq_true rfl⟩ rfl hl.1 rfl (Nat.le_of_ble_eq_true rfl) d_Warnings_insertOpen_31 ⟨Nat.zero_le _, Nat.zero_le _⟩) (fun r3 hN H locs hp X => ?_)
        obtain ⟨eh, er⟩ := hp
        replace eh := eh.symm
        replace er := er.symm
        subst eh er
        refine lv_iload_n hx hb d_Warnings_insertOpen_34 rfl (lv_at hl 2 rfl) ?_
        refine lv_icmp_ge (tgt := 58) hx hb d_Warnings_insertOpen_35 (by decide) (fun c4 => ?_) (fun c4 => ?_)
        · skip
          refine lv_aload_n hx hb d_Warnings_insertOpen_58 rfl (lv_at hl 0 rfl) ?_
          refine mv_get C X ((vup_n _ _ (vne_oa ka ko)).trans ka) 2 f_9_19_7 (v := .ref ao) rfl d_Warnings_insertOpen_59 ?_
          refine lv_iload_n hx hb d_Warnings_insertOpen_62 rfl (lv_at hl 3 rfl) ?_
          refine lv_iload_n hx hb d_Warnings_insertOpen_63 rfl (lv_at hl 1 rfl) ?_
          refine mv_iast C X (vup_s _ _ _) wo 0 rfl pl ei (by omega) (by omega) d_Warnings_insertOpen_64 (fun H locs X => ?_)
          rw [vup_u] at X
          have X : vO S0 D vcl (vup h0 ao (.inl (dT 0, 200, .inl (upd f pl (nI x0))))) s H locs := X
          refine lv_aload_n hx hb d_Warnings_insertOpen_65 rfl (lv_at hl 0 rfl) ?_
          refine lv_dup hx hb d_Warnings_insertOpen_66 rfl ?_
          refine mv_get C X ((vup_n _ _ (vne_oa ka ko)).trans ka) 4 f_9_34_7 (v := .int (nI no)) rfl d_Warnings_insertOpen_67 ?_
          refine lv_iconst (v := 1) hx hb d_Warnings_insertOpen_70 (by decide) ?_
          refine lv_iadd hx hb d_Warnings_insertOpen_71 ?_
          rw [nI_1]
          refine mv_put C X ((vup_n _ _ (vne_oa ka ko)).trans ka) wa 4 p_9_34_7 rfl rfl (Nat.le_of_ble_eq_true rfl) d_Warnings_insertOpen_72 (fun H locs X => ?_)
          have X : vO S0 D vcl (vup (vup h0 ao (.inl (dT 0, 200, .inl (upd f pl (nI x0))))) a (.inr (7, [.ref ar, .ref at0, .ref ao, .int (nI n), .int (nI (no + 1)), .long la]))) s H locs := X
          exact mq_vret hQ C X hr hlk (⟨(upd f pl (nI x0)), pl, rfl, hp1, fun j hj => by rw [pk_un (by omega)]; exact hf1 j hj, pk_us, fun j h1 h2 => by rw [pk_un (by omega)]; exact hf2 j h1 h2, hf3, fun _ => Int32.not_lt.mpr c4⟩) (by omega) (by omega) d_Warnings_insertOpen_75
        · skip
          refine lv_aload_n hx hb d_Warnings_insertOpen_38 rfl (lv_at hl 0 rfl) ?_
          refine mv_get C X ((vup_n _ _ (vne_oa ka ko)).trans ka) 2 f_9_19_7 (v := .ref ao) rfl d_Warnings_insertOpen_39 ?_
          refine lv_iload_n hx hb d_Warnings_insertOpen_42 rfl (lv_at hl 3 rfl) ?_
          refine lv_aload_n hx hb d_Warnings_insertOpen_43 rfl (lv_at hl 0 rfl) ?_
          refine mv_get C X ((vup_n _ _ (vne_oa ka ko)).trans ka) 2 f_9_19_7 (v := .ref ao) rfl d_Warnings_insertOpen_44 ?_
          refine lv_iload_n hx hb d_Warnings_insertOpen_47 rfl (lv_at hl 3 rfl) ?_
          refine lv_iconst (v := 1) hx hb d_Warnings_insertOpen_48 (by decide) ?_
          refine lv_isub hx hb d_Warnings_insertOpen_49 ?_
          refine mv_iald C X (vup_s _ _ _) 0 rfl (pl - 1) ei1 (by omega) (by omega) d_Warnings_insertOpen_50 ?_
          refine mv_iast C X (vup_s _ _ _) wo 0 rfl pl ei (by omega) (by omega) d_Warnings_insertOpen_51 (fun H locs X => ?_)
          rw [vup_u] at X
          have X : vO S0 D vcl (vup h0 ao (.inl (dT 0, 200, .inl (upd f pl (f (pl - 1)))))) s H locs := X
          refine lv_iinc (v := (i + (-1))) (lv' := [(3, .int (i + (-1))), (0, .ref a), (1, .int (nI x0)), (2, .int rk)]) hx hb d_Warnings_insertOpen_52 hl (k := 3) rfl rfl (by decide) rfl (fun ls hl => ?_)
          refine lv_goto (tgt := 18) hx hb d_Warnings_insertOpen_55 (by decide) ?_
          exact ih_lp (pl - 1) (upd f pl (f (pl - 1))) (i + (-1)) ls _ _ (by rw [ei, show nI pl + -1 = nI (pl - 1) from nI_sub (b := 1) hp0]) (by omega) (fun j hj => by rw [pk_un (by omega)]; exact hf1 j (by omega)) (fun j h1 h2 => by
              by_cases z : j = pl
              · rw [z, pk_us]; exact hf1 _ (by omega)
              · rw [pk_un z]; exact hf2 j (by omega) h2) (fun j h1 h2 => by
              by_cases z : j = pl - 1
              · rw [z]; exact Int32.not_le.mp c4
              · exact hf3 j (by omega) h2) (by omega) X (lv_sub hl [1, 2, 3, 0] rfl)
  exact lp (no + 1) no fo (nI no) ls _ _ rfl (Nat.le_refl _) (fun j hj => rfl) (fun j h1 h2 => by omega) (fun j h1 h2 => by omega) (Nat.lt_succ_self _) X (lv_sub hl [1, 2, 3, 0] rfl)
