theorem d_Warnings_rankOf_0 : decode prog_10_method_4_code 0 = .ok (.iload_n 1, 1) := by decide +kernel
theorem d_Warnings_rankOf_1 : decode prog_10_method_4_code 1 = .ok (.iconst 1, 1) := by decide +kernel
theorem d_Warnings_rankOf_2 : decode prog_10_method_4_code 2 = .ok (.if_icmp .lt 22, 3) := by decide +kernel
theorem d_Warnings_rankOf_5 : decode prog_10_method_4_code 5 = .ok (.iload_n 1, 1) := by decide +kernel
theorem d_Warnings_rankOf_6 : decode prog_10_method_4_code 6 = .ok (.aload_n 0, 1) := by decide +kernel
theorem d_Warnings_rankOf_7 : decode prog_10_method_4_code 7 = .ok (.getfield 26, 3) := by decide +kernel
theorem d_Warnings_rankOf_10 : decode prog_10_method_4_code 10 = .ok (.if_icmp .gt 14, 3) := by decide +kernel
theorem d_Warnings_rankOf_13 : decode prog_10_method_4_code 13 = .ok (.aload_n 0, 1) := by decide +kernel
theorem d_Warnings_rankOf_14 : decode prog_10_method_4_code 14 = .ok (.getfield 9, 3) := by decide +kernel
theorem d_Warnings_rankOf_17 : decode prog_10_method_4_code 17 = .ok (.iload_n 1, 1) := by decide +kernel
theorem d_Warnings_rankOf_18 : decode prog_10_method_4_code 18 = .ok (.iconst 1, 1) := by decide +kernel
theorem d_Warnings_rankOf_19 : decode prog_10_method_4_code 19 = .ok (.isub, 1) := by decide +kernel
theorem d_Warnings_rankOf_20 : decode prog_10_method_4_code 20 = .ok (.iaload, 1) := by decide +kernel
theorem d_Warnings_rankOf_21 : decode prog_10_method_4_code 21 = .ok (.goto 4, 3) := by decide +kernel
theorem d_Warnings_rankOf_25 : decode prog_10_method_4_code 25 = .ok (.ireturn, 1) := by decide +kernel
set_option maxRecDepth 100000 in
set_option maxHeartbeats 4000000 in
theorem cm_Warnings_rankOf {l : Launch} {S0 : State} {b : Nat} {D : va_G} {dT : Nat → ClassId} (hE : vEnv S0 b D dT) {h0 : vH} {a ar at0 ao n no k : Nat} {la : Int64} {fr : Nat → Int32} (hk1 : 1 ≤ k) (hk2 : k ≤ n) (hn : n ≤ 200) (ka : h0 a = some (.inr (7, [.ref ar, .ref at0, .ref ao, .int (nI n), .int (nI no), .long la]))) (kr : h0 ar = some (.inl (dT 0, 200, .inl fr))) : vMi l S0 D vcl GT y_Warnings_rankOf prog_10_method_4_code 2 (some .int) 0 0 0 0 [.ref a, .int (nI k)] h0 (fun r h' => h' = h0 ∧ r = fr (k - 1)) := by
  unfold vMi
  refine vM_ofQ hE.1 (by decide) (Nat.le_of_ble_eq_true rfl) (fun p e s m args below meth c ls Q hQ C hr hlk hnm X hl => ?_)
  have C : vC p s m _ c _ _ "MenuScreens$Warnings" GT D vcl (vty dT) := C
  have hx := C.1.1
  have hb := C.1.2.1
  obtain ⟨H, eH⟩ : ∃ z, z = s.heap := ⟨_, rfl⟩
  obtain ⟨locs, elocs⟩ : ∃ z : List Loc, z = [] := ⟨_, rfl⟩
  rw [← eH, ← elocs] at X
  rw [← eH, ← elocs]
  clear eH elocs
  have hl : lv_has ls 2 [(0, .ref a), (1, .int (nI k))] := hl
  refine lv_iload_n hx hb d_Warnings_rankOf_0 rfl (lv_at hl 1 rfl) ?_
  refine lv_iconst (v := 1) hx hb d_Warnings_rankOf_1 (by decide) ?_
  refine lv_icmp_lt (tgt := 24) hx hb d_Warnings_rankOf_2 (by decide) (fun z => absurd z (nI_nlt (b := 1) hk1 (by omega))) (fun c1 => ?_)
  refine lv_iload_n hx hb d_Warnings_rankOf_5 rfl (lv_at hl 1 rfl) ?_
  refine lv_aload_n hx hb d_Warnings_rankOf_6 rfl (lv_at hl 0 rfl) ?_
  refine mv_get C X ka 3 f_9_26_7 (v := .int (nI n)) rfl d_Warnings_rankOf_7 ?_
  refine lv_icmp_gt (tgt := 24) hx hb d_Warnings_rankOf_10 (by decide) (fun z => absurd z (nI_nlt (a := n) (by omega) (by omega))) (fun c2 => ?_)
  refine lv_aload_n hx hb d_Warnings_rankOf_13 rfl (lv_at hl 0 rfl) ?_
  refine mv_get C X ka 0 f_9_9_7 (v := .ref ar) rfl d_Warnings_rankOf_14 ?_
  refine lv_iload_n hx hb d_Warnings_rankOf_17 rfl (lv_at hl 1 rfl) ?_
  refine lv_iconst (v := 1) hx hb d_Warnings_rankOf_18 (by decide) ?_
  refine lv_isub hx hb d_Warnings_rankOf_19 ?_
  refine mv_iald C X kr 0 rfl (k - 1) (nI_sub (b := 1) hk1) (by omega) (by omega) d_Warnings_rankOf_20 ?_
  refine lv_goto (tgt := 25) hx hb d_Warnings_rankOf_21 (by decide) ?_
  exact mq_iret hQ C X hr rfl hlk (⟨rfl, rfl⟩) (by omega) (by omega) d_Warnings_rankOf_25
theorem d_Warnings_insertOpen_0 : decode prog_10_method_3_code 0 = .ok (.aload_n 0, 1) := by decide +kernel
theorem d_Warnings_insertOpen_1 : decode prog_10_method_3_code 1 = .ok (.getfield 34, 3) := by decide +kernel
theorem d_Warnings_insertOpen_4 : decode prog_10_method_3_code 4 = .ok (.aload_n 0, 1) := by decide +kernel
theorem d_Warnings_insertOpen_5 : decode prog_10_method_3_code 5 = .ok (.getfield 19, 3) := by decide +kernel
theorem d_Warnings_insertOpen_8 : decode prog_10_method_3_code 8 = .ok (.arraylength, 1) := by decide +kernel
theorem d_Warnings_insertOpen_9 : decode prog_10_method_3_code 9 = .ok (.if_icmp .lt 4, 3) := by decide +kernel
theorem d_Warnings_insertOpen_13 : decode prog_10_method_3_code 13 = .ok (.aload_n 0, 1) := by decide +kernel
theorem d_Warnings_insertOpen_14 : decode prog_10_method_3_code 14 = .ok (.getfield 34, 3) := by decide +kernel
theorem d_Warnings_insertOpen_17 : decode prog_10_method_3_code 17 = .ok (.istore_n 3, 1) := by decide +kernel
theorem d_Warnings_insertOpen_18 : decode prog_10_method_3_code 18 = .ok (.iload_n 3, 1) := by decide +kernel
theorem d_Warnings_insertOpen_19 : decode prog_10_method_3_code 19 = .ok (.ifCond .le 39, 3) := by decide +kernel
theorem d_Warnings_insertOpen_22 : decode prog_10_method_3_code 22 = .ok (.aload_n 0, 1) := by decide +kernel
theorem d_Warnings_insertOpen_23 : decode prog_10_method_3_code 23 = .ok (.aload_n 0, 1) := by decide +kernel
theorem d_Warnings_insertOpen_24 : decode prog_10_method_3_code 24 = .ok (.getfield 19, 3) := by decide +kernel
theorem d_Warnings_insertOpen_27 : decode prog_10_method_3_code 27 = .ok (.iload_n 3, 1) := by decide +kernel
theorem d_Warnings_insertOpen_28 : decode prog_10_method_3_code 28 = .ok (.iconst 1, 1) := by decide +kernel
theorem d_Warnings_insertOpen_29 : decode prog_10_method_3_code 29 = .ok (.isub, 1) := by decide +kernel
theorem d_Warnings_insertOpen_30 : decode prog_10_method_3_code 30 = .ok (.iaload, 1) := by decide +kernel
theorem d_Warnings_insertOpen_31 : decode prog_10_method_3_code 31 = .ok (.invokevirtual 37, 3) := by decide +kernel
theorem d_Warnings_insertOpen_34 : decode prog_10_method_3_code 34 = .ok (.iload_n 2, 1) := by decide +kernel
theorem d_Warnings_insertOpen_35 : decode prog_10_method_3_code 35 = .ok (.if_icmp .ge 23, 3) := by decide +kernel
theorem d_Warnings_insertOpen_38 : decode prog_10_method_3_code 38 = .ok (.aload_n 0, 1) := by decide +kernel
theorem d_Warnings_insertOpen_39 : decode prog_10_method_3_code 39 = .ok (.getfield 19, 3) := by decide +kernel
theorem d_Warnings_insertOpen_42 : decode prog_10_method_3_code 42 = .ok (.iload_n 3, 1) := by decide +kernel
theorem d_Warnings_insertOpen_43 : decode prog_10_method_3_code 43 = .ok (.aload_n 0, 1) := by decide +kernel
theorem d_Warnings_insertOpen_44 : decode prog_10_method_3_code 44 = .ok (.getfield 19, 3) := by decide +kernel
theorem d_Warnings_insertOpen_47 : decode prog_10_method_3_code 47 = .ok (.iload_n 3, 1) := by decide +kernel
theorem d_Warnings_insertOpen_48 : decode prog_10_method_3_code 48 = .ok (.iconst 1, 1) := by decide +kernel
theorem d_Warnings_insertOpen_49 : decode prog_10_method_3_code 49 = .ok (.isub, 1) := by decide +kernel
theorem d_Warnings_insertOpen_50 : decode prog_10_method_3_code 50 = .ok (.iaload, 1) := by decide +kernel
theorem d_Warnings_insertOpen_51 : decode prog_10_method_3_code 51 = .ok (.iastore, 1) := by decide +kernel
theorem d_Warnings_insertOpen_52 : decode prog_10_method_3_code 52 = .ok (.iinc 3 (-1), 3) := by decide +kernel
theorem d_Warnings_insertOpen_55 : decode prog_10_method_3_code 55 = .ok (.goto (-37), 3) := by decide +kernel
theorem d_Warnings_insertOpen_58 : decode prog_10_method_3_code 58 = .ok (.aload_n 0, 1) := by decide +kernel
theorem d_Warnings_insertOpen_59 : decode prog_10_method_3_code 59 = .ok (.getfield 19, 3) := by decide +kernel
theorem d_Warnings_insertOpen_62 : decode prog_10_method_3_code 62 = .ok (.iload_n 3, 1) := by decide +kernel
theorem d_Warnings_insertOpen_63 : decode prog_10_method_3_code 63 = .ok (.iload_n 1, 1) := by decide +kernel
theorem d_Warnings_insertOpen_64 : decode prog_10_method_3_code 64 = .ok (.iastore, 1) := by decide +kernel
theorem d_Warnings_insertOpen_65 : decode prog_10_method_3_code 65 = .ok (.aload_n 0, 1) := by decide +kernel
theorem d_Warnings_insertOpen_66 : decode prog_10_method_3_code 66 = .ok (.dup, 1) := by decide +kernel
theorem d_Warnings_insertOpen_67 : decode prog_10_method_3_code 67 = .ok (.getfield 34, 3) := by decide +kernel
theorem d_Warnings_insertOpen_70 : decode prog_10_method_3_code 70 = .ok (.iconst 1, 1) := by decide +kernel
theorem d_Warnings_insertOpen_71 : decode prog_10_method_3_code 71 = .ok (.iadd, 1) := by decide +kernel
theorem d_Warnings_insertOpen_72 : decode prog_10_method_3_code 72 = .ok (.putfield 34, 3) := by decide +kernel
theorem d_Warnings_insertOpen_75 : decode prog_10_method_3_code 75 = .ok (.return_, 1) := by decide +kernel
set_option maxRecDepth 100000 in
set_option maxHeartbeats 4000000 in
theorem cm_Warnings_insertOpen {l : Launch} {S0 : State} {b : Nat} {D : va_G} {dT : Nat → ClassId} (hE : vEnv S0 b D dT) {h0 : vH} {a ar at0 ao n no : Nat} {la : Int64} {fr fo : Nat → Int32} {ft : Nat → Int64} {x0 : Nat} {rk : Int32} {op : Nat → Nat} (hro : ar ≠ ao) (hno : no < 200) (hn : n ≤ 200) (hop : ∀ j, j < no → fo j = nI (op j) ∧ 1 ≤ op j ∧ op j ≤ n) (ka : h0 a = some (.inr (7, [.ref ar, .ref at0, .ref ao, .int (nI n), .int (nI no), .long la]))) (wa : S0.heap.size ≤ a) (kr : h0 ar = some (.inl (dT 0, 200, .inl fr))) (wr : S0.heap.size ≤ ar) (kt : h0 at0 = some (.inl (dT 1, 200, .inr (.inl ft)))) (wt : S0.heap.size ≤ at0) (ko : h0 ao = some (.inl (dT 0, 200, .inl fo))) (wo : S0.heap.size ≤ ao) : vMv l S0 D vcl GT y_Warnings_insertOpen prog_10_method_3_code 4 none 1 21 0 0 [.ref a, .int (nI x0), .int rk] h0 (fun h' => ∃ f2 pl, h' = vup (vup h0 ao (.inl (dT 0, 200, .inl f2))) a (.inr (7, [.ref ar, .ref at0, .ref ao, .int (nI n), .int (nI (no + 1)), .long la])) ∧ (pl ≤ no ∧ (∀ j, j < pl → f2 j = fo j) ∧ f2 pl = nI x0 ∧ (∀ j, pl < j → j ≤ no → f2 j = fo (j - 1)) ∧ (∀ j, pl ≤ j → j < no → fr (op j - 1) < rk) ∧ (0 < pl → ¬ fr (op (pl - 1) - 1) < rk))) := by
  unfold vMv
  refine vM_ofQ hE.1 (by decide) (Nat.le_of_ble_eq_true rfl) (fun p e s m args below meth c ls Q hQ C hr hlk hnm X hl => ?_)
  have C : vC p s m _ c _ _ "MenuScreens$Warnings" GT D vcl (vty dT) := C
  have hx := C.1.1
  have hb := C.1.2.1
  obtain ⟨H, eH⟩ : ∃ z, z = s.heap := ⟨_, rfl⟩
  obtain ⟨locs, elocs⟩ : ∃ z : List Loc, z = [] := ⟨_, rfl⟩
  rw [← eH, ← elocs] at X
  rw [← eH, ← elocs]
  clear eH elocs
  have hl : lv_has ls 4 [(0, .ref a), (1, .int (nI x0)), (2, .int rk)] := hl
  refine lv_aload_n hx hb d_Warnings_insertOpen_0 rfl (lv_at hl 0 rfl) ?_
  refine mv_get C X ka 4 f_9_34_7 (v := .int (nI no)) rfl d_Warnings_insertOpen_1 ?_
  refine lv_aload_n hx hb d_Warnings_insertOpen_4 rfl (lv_at hl 0 rfl) ?_
  refine mv_get C X ka 2 f_9_19_7 (v := .ref ao) rfl d_Warnings_insertOpen_5 ?_
  refine mv_alen C X ko 0 rfl d_Warnings_insertOpen_8 ?_
  refine lv_icmp_lt (tgt := 13) hx hb d_Warnings_insertOpen_9 (by decide) (fun c1 => ?_) (fun z => absurd (nI_lt hno (by decide)) z)
  refine lv_aload_n hx hb d_Warnings_insertOpen_13 rfl (lv_at hl 0 rfl) ?_
  refine mv_get C X ka 4 f_9_34_7 (v := .int (nI no)) rfl d_Warnings_insertOpen_14 ?_
  refine lv_istore_n (lv' := [(3, .int (nI no)), (0, .ref a), (1, .int (nI x0)), (2, .int rk)]) hx hb d_Warnings_insertOpen_17 rfl hl (by decide) rfl (fun ls hl => ?_)
  rw [← vup_id ko] at X
  have lp : ∀ (n_lp : Nat) (pl : Nat) (f : Nat → Int32) (i : Int32) (ls : Array Slot) (H : Heap) (locs : List Loc), (i = nI pl) → (pl ≤ no) → (∀ j, j < pl → f j = fo j) → (∀ j, pl < j → j ≤ no → f j = fo (j - 1)) → (∀ j, pl ≤ j → j < no → fr (op j - 1) < rk) → (pl) < n_lp → vO S0 D vcl (vup h0 ao (.inl (dT 0, 200, .inl f))) s H locs → lv_has ls 4 [(0, .ref a), (1, .int (nI x0)), (2, .int rk), (3, .int i)] → W p l e (vRm 1 21 0 0) s m args below meth c H locs 0 0 Q (F0 m 18 ls []) := by
    intro n_lp
    induction n_lp with
    | zero => intros; exact absurd (by assumption) (Nat.not_lt_zero _)
    | succ n_lp ih_lp =>
      intro pl f i ls H locs ei hp1 hf1 hf2 hf3 hmu_lp X hl
      refine lv_iload_n hx hb d_Warnings_insertOpen_18 rfl (lv_at hl 3 rfl) ?_
      refine lv_if_le (tgt := 58) hx hb d_Warnings_insertOpen_19 (by decide) (fun c2 => ?_) (fun c2 => ?_)
      · skip
        have hp00 : ¬ 0 < pl := fun q => absurd (by rw [← ei]; exact c2) (nI_nle q (by omega))
        refine lv_aload_n hx hb d_Warnings_insertOpen_58 rfl (lv_at hl 0 rfl) ?_
        refine mv_get C X ((vup_n _ _ (vne_oa ka ko)).trans ka) 2 f_9_19_7 (v := .ref ao) rfl d_Warnings_insertOpen_59 ?_
        refine lv_iload_n hx hb d_Warnings_insertOpen_62 rfl (lv_at hl 3 rfl) ?_
        refine lv_iload_n hx hb d_Warnings_insertOpen_63 rfl (lv_at hl 1 rfl) ?_
        refine mv_iast C X (vup_s _ _ _) wo 0 rfl pl ei (by omega) (by omega) d_Warnings_insertOpen_64 (fun H locs X => ?_)
        rw [vup_u] at X
        have X : vO S0 D vcl (vup h0 ao (.inl (dT 0, 200, .inl (upd f pl (nI x0))))) s H locs := X
        refine lv_aload_n hx hb d_Warnings_insertOpen_65 rfl (lv_at hl 0 rfl) ?_
        refine lv_dup hx hb d_Warnings_insertOpen_66 rfl ?_
        refine mv_get C X ((vup_n _ _ (vne_oa ka ko)).trans ka) 4 f_9_34_7 (v := .int (nI no)) rfl d_Warnings_insertOpen_67 ?_
        refine lv_iconst (v := 1) hx hb d_Warnings_insertOpen_70 (by decide) ?_
        refine lv_iadd hx hb d_Warnings_insertOpen_71 ?_
        rw [nI_1]
        refine mv_put C X ((vup_n _ _ (vne_oa ka ko)).trans ka) wa 4 p_9_34_7 rfl rfl (Nat.le_of_ble_eq_true rfl) d_Warnings_insertOpen_72 (fun H locs X => ?_)
        have X : vO S0 D vcl (vup (vup h0 ao (.inl (dT 0, 200, .inl (upd f pl (nI x0))))) a (.inr (7, [.ref ar, .ref at0, .ref ao, .int (nI n), .int (nI (no + 1)), .long la]))) s H locs := X
        exact mq_vret hQ C X hr hlk (⟨(upd f pl (nI x0)), pl, rfl, hp1, fun j hj => by rw [pk_un (by omega)]; exact hf1 j hj, pk_us, fun j h1 h2 => by rw [pk_un (by omega)]; exact hf2 j h1 h2, hf3, fun q => absurd q hp00⟩) (by omega) (by omega) d_Warnings_insertOpen_75
      · skip
        have hp0 : 1 ≤ pl := by
          rcases Nat.eq_zero_or_pos pl with q | q
          · exact absurd (by rw [ei, q]; decide) c2
          · exact q
        obtain ⟨o1, o2, o3⟩ := hop (pl - 1) (by omega)
        have ei1 : i - 1 = nI (pl - 1) := by rw [ei]; exact nI_sub (b := 1) hp0
        refine lv_aload_n hx hb d_Warnings_insertOpen_22 rfl (lv_at hl 0 rfl) ?_
        refine lv_aload_n hx hb d_Warnings_insertOpen_23 rfl (lv_at hl 0 rfl) ?_
        refine mv_get C X ((vup_n _ _ (vne_oa ka ko)).trans ka) 2 f_9_19_7 (v := .ref ao) rfl d_Warnings_insertOpen_24 ?_
        refine lv_iload_n hx hb d_Warnings_insertOpen_27 rfl (lv_at hl 3 rfl) ?_
        refine lv_iconst (v := 1) hx hb d_Warnings_insertOpen_28 (by decide) ?_
        refine lv_isub hx hb d_Warnings_insertOpen_29 ?_
        refine mv_iald C X (vup_s _ _ _) 0 rfl (pl - 1) ei1 (by omega) (by omega) d_Warnings_insertOpen_30 ?_
        rw [hf1 _ (by omega), o1]
        refine mv_bi X (mv_rV (rest := []) (As := [.int (nI (op (pl - 1)))]) gt_good C X k_9_37 (cm_Warnings_rankOf hE o2 o3 hn ((vup_n _ _ (vne_oa ka ko)).trans ka) ((vup_n _ _ hro).trans kr)) ((vup_n _ _ (vne_oa ka ko)).trans ka) rfl rfl ⟨Nat.le_of_ble_eq_true rfl, Nat.le_of_ble_eq_true rfl⟩ rfl hl.1 rfl (Nat.le_of_ble_eq_true rfl) d_Warnings_insertOpen_31 ⟨Nat.zero_le _, Nat.zero_le _⟩) (fun r3 hN H locs hp X => ?_)
        obtain ⟨eh, er⟩ := hp
        replace eh := eh.symm
        replace er := er.symm
        subst eh er
        refine lv_iload_n hx hb d_Warnings_insertOpen_34 rfl (lv_at hl 2 rfl) ?_
        refine lv_icmp_ge (tgt := 58) hx hb d_Warnings_insertOpen_35 (by decide) (fun c4 => ?_) (fun c4 => ?_)
        · skip
          refine lv_aload_n hx hb d_Warnings_insertOpen_58 rfl (lv_at hl 0 rfl) ?_
          refine mv_get C X ((vup_n _ _ (vne_oa ka ko)).trans ka) 2 f_9_19_7 (v := .ref ao) rfl d_Warnings_insertOpen_59 ?_
          refine lv_iload_n hx hb d_Warnings_insertOpen_62 rfl (lv_at hl 3 rfl) ?_
          refine lv_iload_n hx hb d_Warnings_insertOpen_63 rfl (lv_at hl 1 rfl) ?_
          refine mv_iast C X (vup_s _ _ _) wo 0 rfl pl ei (by omega) (by omega) d_Warnings_insertOpen_64 (fun H locs X => ?_)
          rw [vup_u] at X
          have X : vO S0 D vcl (vup h0 ao (.inl (dT 0, 200, .inl (upd f pl (nI x0))))) s H locs := X
          refine lv_aload_n hx hb d_Warnings_insertOpen_65 rfl (lv_at hl 0 rfl) ?_
          refine lv_dup hx hb d_Warnings_insertOpen_66 rfl ?_
          refine mv_get C X ((vup_n _ _ (vne_oa ka ko)).trans ka) 4 f_9_34_7 (v := .int (nI no)) rfl d_Warnings_insertOpen_67 ?_
          refine lv_iconst (v := 1) hx hb d_Warnings_insertOpen_70 (by decide) ?_
          refine lv_iadd hx hb d_Warnings_insertOpen_71 ?_
          rw [nI_1]
          refine mv_put C X ((vup_n _ _ (vne_oa ka ko)).trans ka) wa 4 p_9_34_7 rfl rfl (Nat.le_of_ble_eq_true rfl) d_Warnings_insertOpen_72 (fun H locs X => ?_)
          have X : vO S0 D vcl (vup (vup h0 ao (.inl (dT 0, 200, .inl (upd f pl (nI x0))))) a (.inr (7, [.ref ar, .ref at0, .ref ao, .int (nI n), .int (nI (no + 1)), .long la]))) s H locs := X
          exact mq_vret hQ C X hr hlk (⟨(upd f pl (nI x0)), pl, rfl, hp1, fun j hj => by rw [pk_un (by omega)]; exact hf1 j hj, pk_us, fun j h1 h2 => by rw [pk_un (by omega)]; exact hf2 j h1 h2, hf3, fun _ => Int32.not_lt.mpr c4⟩) (by omega) (by omega) d_Warnings_insertOpen_75
        · skip
          refine lv_aload_n hx hb d_Warnings_insertOpen_38 rfl (lv_at hl 0 rfl) ?_
          refine mv_get C X ((vup_n _ _ (vne_oa ka ko)).trans ka) 2 f_9_19_7 (v := .ref ao) rfl d_Warnings_insertOpen_39 ?_
          refine lv_iload_n hx hb d_Warnings_insertOpen_42 rfl (lv_at hl 3 rfl) ?_
          refine lv_aload_n hx hb d_Warnings_insertOpen_43 rfl (lv_at hl 0 rfl) ?_
          refine mv_get C X ((vup_n _ _ (vne_oa ka ko)).trans ka) 2 f_9_19_7 (v := .ref ao) rfl d_Warnings_insertOpen_44 ?_
          refine lv_iload_n hx hb d_Warnings_insertOpen_47 rfl (lv_at hl 3 rfl) ?_
          refine lv_iconst (v := 1) hx hb d_Warnings_insertOpen_48 (by decide) ?_
          refine lv_isub hx hb d_Warnings_insertOpen_49 ?_
          refine mv_iald C X (vup_s _ _ _) 0 rfl (pl - 1) ei1 (by omega) (by omega) d_Warnings_insertOpen_50 ?_
          refine mv_iast C X (vup_s _ _ _) wo 0 rfl pl ei (by omega) (by omega) d_Warnings_insertOpen_51 (fun H locs X => ?_)
          rw [vup_u] at X
          have X : vO S0 D vcl (vup h0 ao (.inl (dT 0, 200, .inl (upd f pl (f (pl - 1)))))) s H locs := X
          refine lv_iinc (v := (i + (-1))) (lv' := [(3, .int (i + (-1))), (0, .ref a), (1, .int (nI x0)), (2, .int rk)]) hx hb d_Warnings_insertOpen_52 hl (k := 3) rfl rfl (by decide) rfl (fun ls hl => ?_)
          refine lv_goto (tgt := 18) hx hb d_Warnings_insertOpen_55 (by decide) ?_
          exact ih_lp (pl - 1) (upd f pl (f (pl - 1))) (i + (-1)) ls _ _ (by rw [ei]; exact nI_m1 hp0) (by omega) (fun j hj => by rw [pk_un (by omega)]; exact hf1 j (by omega)) (fun j h1 h2 => by
              by_cases z : j = pl
              · rw [z, pk_us]; exact hf1 _ (by omega)
              · rw [pk_un z]; exact hf2 j (by omega) h2) (fun j h1 h2 => by
              by_cases z : j = pl - 1
              · rw [z]; exact Int32.not_le.mp c4
              · exact hf3 j (by omega) h2) (by omega) X (lv_sub hl [1, 2, 3, 0] rfl)
  exact lp (no + 1) no fo (nI no) ls _ _ rfl (Nat.le_refl _) (fun j hj => rfl) (fun j h1 h2 => by omega) (fun j h1 h2 => by omega) (Nat.lt_succ_self _) X (lv_sub hl [1, 2, 3, 0] rfl)
theorem d_Warnings_add_0 : decode prog_10_method_2_code 0 = .ok (.iload_n 1, 1) := by decide +kernel
theorem d_Warnings_add_1 : decode prog_10_method_2_code 1 = .ok (.ifCond .lt 18, 3) := by decide +kernel
theorem d_Warnings_add_4 : decode prog_10_method_2_code 4 = .ok (.iload_n 1, 1) := by decide +kernel
theorem d_Warnings_add_5 : decode prog_10_method_2_code 5 = .ok (.bipush 99, 2) := by decide +kernel
theorem d_Warnings_add_7 : decode prog_10_method_2_code 7 = .ok (.if_icmp .gt 12, 3) := by decide +kernel
theorem d_Warnings_add_10 : decode prog_10_method_2_code 10 = .ok (.lload_n 2, 1) := by decide +kernel
theorem d_Warnings_add_11 : decode prog_10_method_2_code 11 = .ok (.aload_n 0, 1) := by decide +kernel
theorem d_Warnings_add_12 : decode prog_10_method_2_code 12 = .ok (.getfield 22, 3) := by decide +kernel
theorem d_Warnings_add_15 : decode prog_10_method_2_code 15 = .ok (.lcmp, 1) := by decide +kernel
theorem d_Warnings_add_16 : decode prog_10_method_2_code 16 = .ok (.ifCond .ge 6, 3) := by decide +kernel
theorem d_Warnings_add_19 : decode prog_10_method_2_code 19 = .ok (.bipush (-2), 2) := by decide +kernel
theorem d_Warnings_add_21 : decode prog_10_method_2_code 21 = .ok (.ireturn, 1) := by decide +kernel
theorem d_Warnings_add_22 : decode prog_10_method_2_code 22 = .ok (.aload_n 0, 1) := by decide +kernel
theorem d_Warnings_add_23 : decode prog_10_method_2_code 23 = .ok (.getfield 26, 3) := by decide +kernel
theorem d_Warnings_add_26 : decode prog_10_method_2_code 26 = .ok (.sipush 200, 3) := by decide +kernel
theorem d_Warnings_add_29 : decode prog_10_method_2_code 29 = .ok (.if_icmp .lt 6, 3) := by decide +kernel
theorem d_Warnings_add_32 : decode prog_10_method_2_code 32 = .ok (.bipush (-4), 2) := by decide +kernel
theorem d_Warnings_add_34 : decode prog_10_method_2_code 34 = .ok (.ireturn, 1) := by decide +kernel
theorem d_Warnings_add_35 : decode prog_10_method_2_code 35 = .ok (.aload_n 0, 1) := by decide +kernel
theorem d_Warnings_add_36 : decode prog_10_method_2_code 36 = .ok (.getfield 9, 3) := by decide +kernel
theorem d_Warnings_add_39 : decode prog_10_method_2_code 39 = .ok (.aload_n 0, 1) := by decide +kernel
theorem d_Warnings_add_40 : decode prog_10_method_2_code 40 = .ok (.getfield 26, 3) := by decide +kernel
theorem d_Warnings_add_43 : decode prog_10_method_2_code 43 = .ok (.iload_n 1, 1) := by decide +kernel
theorem d_Warnings_add_44 : decode prog_10_method_2_code 44 = .ok (.iastore, 1) := by decide +kernel
theorem d_Warnings_add_45 : decode prog_10_method_2_code 45 = .ok (.aload_n 0, 1) := by decide +kernel
theorem d_Warnings_add_46 : decode prog_10_method_2_code 46 = .ok (.getfield 15, 3) := by decide +kernel
theorem d_Warnings_add_49 : decode prog_10_method_2_code 49 = .ok (.aload_n 0, 1) := by decide +kernel
theorem d_Warnings_add_50 : decode prog_10_method_2_code 50 = .ok (.getfield 26, 3) := by decide +kernel
theorem d_Warnings_add_53 : decode prog_10_method_2_code 53 = .ok (.lload_n 2, 1) := by decide +kernel
theorem d_Warnings_add_54 : decode prog_10_method_2_code 54 = .ok (.lastore, 1) := by decide +kernel
theorem d_Warnings_add_55 : decode prog_10_method_2_code 55 = .ok (.aload_n 0, 1) := by decide +kernel
theorem d_Warnings_add_56 : decode prog_10_method_2_code 56 = .ok (.lload_n 2, 1) := by decide +kernel
theorem d_Warnings_add_57 : decode prog_10_method_2_code 57 = .ok (.putfield 22, 3) := by decide +kernel
theorem d_Warnings_add_60 : decode prog_10_method_2_code 60 = .ok (.aload_n 0, 1) := by decide +kernel
theorem d_Warnings_add_61 : decode prog_10_method_2_code 61 = .ok (.dup, 1) := by decide +kernel
theorem d_Warnings_add_62 : decode prog_10_method_2_code 62 = .ok (.getfield 26, 3) := by decide +kernel
theorem d_Warnings_add_65 : decode prog_10_method_2_code 65 = .ok (.iconst 1, 1) := by decide +kernel
theorem d_Warnings_add_66 : decode prog_10_method_2_code 66 = .ok (.iadd, 1) := by decide +kernel
theorem d_Warnings_add_67 : decode prog_10_method_2_code 67 = .ok (.putfield 26, 3) := by decide +kernel
theorem d_Warnings_add_70 : decode prog_10_method_2_code 70 = .ok (.aload_n 0, 1) := by decide +kernel
theorem d_Warnings_add_71 : decode prog_10_method_2_code 71 = .ok (.aload_n 0, 1) := by decide +kernel
theorem d_Warnings_add_72 : decode prog_10_method_2_code 72 = .ok (.getfield 26, 3) := by decide +kernel
theorem d_Warnings_add_75 : decode prog_10_method_2_code 75 = .ok (.iload_n 1, 1) := by decide +kernel
theorem d_Warnings_add_76 : decode prog_10_method_2_code 76 = .ok (.invokevirtual 30, 3) := by decide +kernel
theorem d_Warnings_add_79 : decode prog_10_method_2_code 79 = .ok (.aload_n 0, 1) := by decide +kernel
theorem d_Warnings_add_80 : decode prog_10_method_2_code 80 = .ok (.getfield 26, 3) := by decide +kernel
theorem d_Warnings_add_83 : decode prog_10_method_2_code 83 = .ok (.ireturn, 1) := by decide +kernel
set_option maxRecDepth 100000 in
set_option maxHeartbeats 4000000 in
theorem cm_Warnings_add {l : Launch} {S0 : State} {b : Nat} {D : va_G} {dT : Nat → ClassId} (hE : vEnv S0 b D dT) {h0 : vH} {a ar at0 ao n no : Nat} {la : Int64} {fr fo : Nat → Int32} {ft : Nat → Int64} {p1 : Int32} {p2 : Int64} {op : Nat → Nat} (hro : ar ≠ ao) (hn : n ≤ 200) (hno : no ≤ n) (hop : ∀ j, j < no → fo j = nI (op j) ∧ 1 ≤ op j ∧ op j ≤ n) (ka : h0 a = some (.inr (7, [.ref ar, .ref at0, .ref ao, .int (nI n), .int (nI no), .long la]))) (wa : S0.heap.size ≤ a) (kr : h0 ar = some (.inl (dT 0, 200, .inl fr))) (wr : S0.heap.size ≤ ar) (kt : h0 at0 = some (.inl (dT 1, 200, .inr (.inl ft)))) (wt : S0.heap.size ≤ at0) (ko : h0 ao = some (.inl (dT 0, 200, .inl fo))) (wo : S0.heap.size ≤ ao) : vMi l S0 D vcl GT y_Warnings_add prog_10_method_2_code 4 (some .int) 2 44 0 0 [.ref a, .int p1, .long p2] h0 (fun r h' => ((p1 < 0 ∨ 99 < p1 ∨ p2 < la) ∧ r = -2 ∧ h' = h0) ∨ ((¬ p1 < 0 ∧ ¬ 99 < p1 ∧ ¬ p2 < la) ∧ (n = 200 ∧ r = -4 ∧ h' = h0 ∨ n < 200 ∧ r = nI (n + 1) ∧ ∃ f2 pl, h' = vup (vup (vup (vup (vup h0 ar (.inl (dT 0, 200, .inl (upd fr n p1)))) at0 (.inl (dT 1, 200, .inr (.inl (vp_updL ft n p2))))) a (.inr (7, [.ref ar, .ref at0, .ref ao, .int (nI (n + 1)), .int (nI no), .long p2]))) ao (.inl (dT 0, 200, .inl f2))) a (.inr (7, [.ref ar, .ref at0, .ref ao, .int (nI (n + 1)), .int (nI (no + 1)), .long p2])) ∧ (pl ≤ no ∧ (∀ j, j < pl → f2 j = fo j) ∧ f2 pl = nI (n + 1) ∧ (∀ j, pl < j → j ≤ no → f2 j = fo (j - 1)) ∧ (∀ j, pl ≤ j → j < no → upd fr n p1 (op j - 1) < p1) ∧ (0 < pl → ¬ upd fr n p1 (op (pl - 1) - 1) < p1))))) := by
  unfold vMi
  refine vM_ofQ hE.1 (by decide) (Nat.le_of_ble_eq_true rfl) (fun p e s m args below meth c ls Q hQ C hr hlk hnm X hl => ?_)
  have C : vC p s m _ c _ _ "MenuScreens$Warnings" GT D vcl (vty dT) := C
  have hx := C.1.1
  have hb := C.1.2.1
  obtain ⟨H, eH⟩ : ∃ z, z = s.heap := ⟨_, rfl⟩
  obtain ⟨locs, elocs⟩ : ∃ z : List Loc, z = [] := ⟨_, rfl⟩
  rw [← eH, ← elocs] at X
  rw [← eH, ← elocs]
  clear eH elocs
  have hl : lv_has ls 4 [(0, .ref a), (1, .int p1), (2, .long p2)] := hl
  refine lv_iload_n hx hb d_Warnings_add_0 rfl (lv_at hl 1 rfl) ?_
  refine lv_if_lt (tgt := 19) hx hb d_Warnings_add_1 (by decide) (fun c1 => ?_) (fun c1 => ?_)
  · skip
    refine lv_bipush (v := (-2)) hx hb d_Warnings_add_19 (by decide) ?_
    exact mq_iret hQ C X hr rfl hlk (Or.inl ⟨Or.inl c1, rfl, rfl⟩) (by omega) (by omega) d_Warnings_add_21
  · skip
    refine lv_iload_n hx hb d_Warnings_add_4 rfl (lv_at hl 1 rfl) ?_
    refine lv_bipush (v := 99) hx hb d_Warnings_add_5 (by decide) ?_
    refine lv_icmp_gt (tgt := 19) hx hb d_Warnings_add_7 (by decide) (fun c2 => ?_) (fun c2 => ?_)
    · skip
      refine lv_bipush (v := (-2)) hx hb d_Warnings_add_19 (by decide) ?_
      exact mq_iret hQ C X hr rfl hlk (Or.inl ⟨Or.inr (Or.inl c2), rfl, rfl⟩) (by omega) (by omega) d_Warnings_add_21
    · skip
      refine lv_lload_n hx hb d_Warnings_add_10 rfl (lv_at hl 2 rfl) ?_
      refine lv_aload_n hx hb d_Warnings_add_11 rfl (lv_at hl 0 rfl) ?_
      refine mv_get C X ka 5 f_9_22_7 (v := .long la) rfl d_Warnings_add_12 ?_
      refine W.lcmp hx hb d_Warnings_add_15 ?_
      refine lv_if_ge (tgt := 22) hx hb d_Warnings_add_16 (by decide) (fun c3 => ?_) (fun c3 => ?_)
      · skip
        refine lv_aload_n hx hb d_Warnings_add_22 rfl (lv_at hl 0 rfl) ?_
        refine mv_get C X ka 3 f_9_26_7 (v := .int (nI n)) rfl d_Warnings_add_23 ?_
        refine lv_sipush (v := 200) hx hb d_Warnings_add_26 (by decide) ?_
        refine lv_icmp_lt (tgt := 35) hx hb d_Warnings_add_29 (by decide) (fun c4 => ?_) (fun c4 => ?_)
        · skip
          have hn2 : n < 200 := by
            have := (nI_ltI (a := n) (b := 200) (by omega) (by decide)).mp c4
            exact this
          have hop2 : ∀ j, j < no → fo j = nI (op j) ∧ 1 ≤ op j ∧ op j ≤ n + 1 := fun j hj => ⟨(hop j hj).1, (hop j hj).2.1, by have := (hop j hj).2.2; omega⟩
          refine lv_aload_n hx hb d_Warnings_add_35 rfl (lv_at hl 0 rfl) ?_
          refine mv_get C X ka 0 f_9_9_7 (v := .ref ar) rfl d_Warnings_add_36 ?_
          refine lv_aload_n hx hb d_Warnings_add_39 rfl (lv_at hl 0 rfl) ?_
          refine mv_get C X ka 3 f_9_26_7 (v := .int (nI n)) rfl d_Warnings_add_40 ?_
          refine lv_iload_n hx hb d_Warnings_add_43 rfl (lv_at hl 1 rfl) ?_
          refine mv_iast C X kr wr 0 rfl n rfl (by omega) (by omega) d_Warnings_add_44 (fun H locs X => ?_)
          have X : vO S0 D vcl (vup h0 ar (.inl (dT 0, 200, .inl (upd fr n p1)))) s H locs := X
          refine lv_aload_n hx hb d_Warnings_add_45 rfl (lv_at hl 0 rfl) ?_
          refine mv_get C X ((vup_n _ _ (vne_oa ka kr)).trans ka) 1 f_9_15_7 (v := .ref at0) rfl d_Warnings_add_46 ?_
          refine lv_aload_n hx hb d_Warnings_add_49 rfl (lv_at hl 0 rfl) ?_
          refine mv_get C X ((vup_n _ _ (vne_oa ka kr)).trans ka) 3 f_9_26_7 (v := .int (nI n)) rfl d_Warnings_add_50 ?_
          refine lv_lload_n hx hb d_Warnings_add_53 rfl (lv_at hl 2 rfl) ?_
          refine mv_last C X ((vup_n _ _ (Ne.symm (vne_t kr kt))).trans kt) wt 1 rfl n rfl (by omega) (by omega) d_Warnings_add_54 (fun H locs X => ?_)
          have X : vO S0 D vcl (vup (vup h0 ar (.inl (dT 0, 200, .inl (upd fr n p1)))) at0 (.inl (dT 1, 200, .inr (.inl (vp_updL ft n p2))))) s H locs := X
          refine lv_aload_n hx hb d_Warnings_add_55 rfl (lv_at hl 0 rfl) ?_
          refine lv_lload_n hx hb d_Warnings_add_56 rfl (lv_at hl 2 rfl) ?_
          refine mv_put C X ((vup_n _ _ (vne_oa ka kt)).trans ((vup_n _ _ (vne_oa ka kr)).trans ka)) wa 5 p_9_22_7 rfl rfl (Nat.le_of_ble_eq_true rfl) d_Warnings_add_57 (fun H locs X => ?_)
          have X : vO S0 D vcl (vup (vup (vup h0 ar (.inl (dT 0, 200, .inl (upd fr n p1)))) at0 (.inl (dT 1, 200, .inr (.inl (vp_updL ft n p2))))) a (.inr (7, [.ref ar, .ref at0, .ref ao, .int (nI n), .int (nI no), .long p2]))) s H locs := X
          refine lv_aload_n hx hb d_Warnings_add_60 rfl (lv_at hl 0 rfl) ?_
          refine lv_dup hx hb d_Warnings_add_61 rfl ?_
          refine mv_get C X (vup_s _ _ _) 3 f_9_26_7 (v := .int (nI n)) rfl d_Warnings_add_62 ?_
          refine lv_iconst (v := 1) hx hb d_Warnings_add_65 (by decide) ?_
          refine lv_iadd hx hb d_Warnings_add_66 ?_
          rw [nI_1]
          refine mv_put C X (vup_s _ _ _) wa 3 p_9_26_7 rfl rfl (Nat.le_of_ble_eq_true rfl) d_Warnings_add_67 (fun H locs X => ?_)
          rw [vup_u] at X
          have X : vO S0 D vcl (vup (vup (vup h0 ar (.inl (dT 0, 200, .inl (upd fr n p1)))) at0 (.inl (dT 1, 200, .inr (.inl (vp_updL ft n p2))))) a (.inr (7, [.ref ar, .ref at0, .ref ao, .int (nI (n + 1)), .int (nI no), .long p2]))) s H locs := X
          refine lv_aload_n hx hb d_Warnings_add_70 rfl (lv_at hl 0 rfl) ?_
          refine lv_aload_n hx hb d_Warnings_add_71 rfl (lv_at hl 0 rfl) ?_
          refine mv_get C X (vup_s _ _ _) 3 f_9_26_7 (v := .int (nI (n + 1))) rfl d_Warnings_add_72 ?_
          refine lv_iload_n hx hb d_Warnings_add_75 rfl (lv_at hl 1 rfl) ?_
          refine mv_bv X (mv_rV (rest := []) (As := [.int (nI (n + 1)), .int p1]) gt_good C X k_9_30 (cm_Warnings_insertOpen hE hro (by omega) (by omega) hop2 (vup_s _ _ _) wa ((vup_n _ _ (Ne.symm (vne_oa ka kr))).trans ((vup_n _ _ (vne_t kr kt)).trans (vup_s _ _ _))) wr ((vup_n _ _ (Ne.symm (vne_oa ka kt))).trans (vup_s _ _ _)) wt ((vup_n _ _ (Ne.symm (vne_oa ka ko))).trans ((vup_n _ _ (vne_t ko kt)).trans ((vup_n _ _ (Ne.symm hro)).trans ko))) wo) (vup_s _ _ _) rfl rfl ⟨Nat.le_of_ble_eq_true rfl, Nat.le_of_ble_eq_true rfl⟩ rfl hl.1 rfl (Nat.le_of_ble_eq_true rfl) d_Warnings_add_76 ⟨Nat.zero_le _, Nat.zero_le _⟩) (fun hN H locs hp X => ?_)
          obtain ⟨f2, pl, eh, hI⟩ := hp
          replace eh := eh.symm
          subst eh
          have X : vO S0 D vcl (vup (vup (vup (vup (vup h0 ar (.inl (dT 0, 200, .inl (upd fr n p1)))) at0 (.inl (dT 1, 200, .inr (.inl (vp_updL ft n p2))))) a (.inr (7, [.ref ar, .ref at0, .ref ao, .int (nI (n + 1)), .int (nI no), .long p2]))) ao (.inl (dT 0, 200, .inl f2))) a (.inr (7, [.ref ar, .ref at0, .ref ao, .int (nI (n + 1)), .int (nI (no + 1)), .long p2]))) s H locs := X
          refine lv_aload_n hx hb d_Warnings_add_79 rfl (lv_at hl 0 rfl) ?_
          refine mv_get C X (vup_s _ _ _) 3 f_9_26_7 (v := .int (nI (n + 1))) rfl d_Warnings_add_80 ?_
          exact mq_iret hQ C X hr rfl hlk (Or.inr ⟨⟨c1, c2, Int64.not_lt.mpr ((lg_cmp_ge _ _).mp c3)⟩, Or.inr ⟨hn2, rfl, f2, pl, rfl, hI⟩⟩) (by omega) (by omega) d_Warnings_add_83
        · skip
          refine lv_bipush (v := (-4)) hx hb d_Warnings_add_32 (by decide) ?_
          exact mq_iret hQ C X hr rfl hlk (Or.inr ⟨⟨c1, c2, Int64.not_lt.mpr ((lg_cmp_ge _ _).mp c3)⟩, Or.inl ⟨by
              have := (nI_leI (a := 200) (b := n) (by decide) (by omega)).mp (Int32.not_lt.mp c4)
              omega, rfl, rfl⟩⟩) (by omega) (by omega) d_Warnings_add_34
      · skip
        refine lv_bipush (v := (-2)) hx hb d_Warnings_add_19 (by decide) ?_
        exact mq_iret hQ C X hr rfl hlk (Or.inl ⟨Or.inr (Or.inr (Int64.not_le.mp (fun z => c3 ((lg_cmp_ge _ _).mpr z)))), rfl, rfl⟩) (by omega) (by omega) d_Warnings_add_21
theorem d_Warnings_openAt_0 : decode prog_10_method_5_code 0 = .ok (.iload_n 1, 1) := by decide +kernel
theorem d_Warnings_openAt_1 : decode prog_10_method_5_code 1 = .ok (.ifCond .lt 20, 3) := by decide +kernel
theorem d_Warnings_openAt_4 : decode prog_10_method_5_code 4 = .ok (.iload_n 1, 1) := by decide +kernel
theorem d_Warnings_openAt_5 : decode prog_10_method_5_code 5 = .ok (.aload_n 0, 1) := by decide +kernel
theorem d_Warnings_openAt_6 : decode prog_10_method_5_code 6 = .ok (.getfield 34, 3) := by decide +kernel
theorem d_Warnings_openAt_9 : decode prog_10_method_5_code 9 = .ok (.if_icmp .ge 12, 3) := by decide +kernel
theorem d_Warnings_openAt_12 : decode prog_10_method_5_code 12 = .ok (.aload_n 0, 1) := by decide +kernel
theorem d_Warnings_openAt_13 : decode prog_10_method_5_code 13 = .ok (.getfield 19, 3) := by decide +kernel
theorem d_Warnings_openAt_16 : decode prog_10_method_5_code 16 = .ok (.iload_n 1, 1) := by decide +kernel
theorem d_Warnings_openAt_17 : decode prog_10_method_5_code 17 = .ok (.iaload, 1) := by decide +kernel
theorem d_Warnings_openAt_18 : decode prog_10_method_5_code 18 = .ok (.goto 4, 3) := by decide +kernel
theorem d_Warnings_openAt_21 : decode prog_10_method_5_code 21 = .ok (.iconst 0, 1) := by decide +kernel
theorem d_Warnings_openAt_22 : decode prog_10_method_5_code 22 = .ok (.ireturn, 1) := by decide +kernel
set_option maxRecDepth 100000 in
set_option maxHeartbeats 4000000 in
theorem cm_Warnings_openAt {l : Launch} {S0 : State} {b : Nat} {D : va_G} {dT : Nat → ClassId} (hE : vEnv S0 b D dT) {h0 : vH} {a ar at0 ao n no : Nat} {la : Int64} {fo : Nat → Int32} {p1 : Int32} (hno : no ≤ 200) (ka : h0 a = some (.inr (7, [.ref ar, .ref at0, .ref ao, .int (nI n), .int (nI no), .long la]))) (ko : h0 ao = some (.inl (dT 0, 200, .inl fo))) : vMi l S0 D vcl GT y_Warnings_openAt prog_10_method_5_code 2 (some .int) 0 0 0 0 [.ref a, .int p1] h0 (fun r h' => h' = h0 ∧ ((p1 < 0 ∨ nI no ≤ p1) ∧ r = 0 ∨ ∃ j, j < no ∧ p1 = nI j ∧ r = fo j)) := by
  unfold vMi
  refine vM_ofQ hE.1 (by decide) (Nat.le_of_ble_eq_true rfl) (fun p e s m args below meth c ls Q hQ C hr hlk hnm X hl => ?_)
  have C : vC p s m _ c _ _ "MenuScreens$Warnings" GT D vcl (vty dT) := C
  have hx := C.1.1
  have hb := C.1.2.1
  obtain ⟨H, eH⟩ : ∃ z, z = s.heap := ⟨_, rfl⟩
  obtain ⟨locs, elocs⟩ : ∃ z : List Loc, z = [] := ⟨_, rfl⟩
  rw [← eH, ← elocs] at X
  rw [← eH, ← elocs]
  clear eH elocs
  have hl : lv_has ls 2 [(0, .ref a), (1, .int p1)] := hl
  refine lv_iload_n hx hb d_Warnings_openAt_0 rfl (lv_at hl 1 rfl) ?_
  refine lv_if_lt (tgt := 21) hx hb d_Warnings_openAt_1 (by decide) (fun c1 => ?_) (fun c1 => ?_)
  · skip
    refine lv_iconst (v := 0) hx hb d_Warnings_openAt_21 (by decide) ?_
    exact mq_iret hQ C X hr rfl hlk (⟨rfl, Or.inl ⟨Or.inl c1, rfl⟩⟩) (by omega) (by omega) d_Warnings_openAt_22
  · skip
    refine lv_iload_n hx hb d_Warnings_openAt_4 rfl (lv_at hl 1 rfl) ?_
    refine lv_aload_n hx hb d_Warnings_openAt_5 rfl (lv_at hl 0 rfl) ?_
    refine mv_get C X ka 4 f_9_34_7 (v := .int (nI no)) rfl d_Warnings_openAt_6 ?_
    refine lv_icmp_ge (tgt := 21) hx hb d_Warnings_openAt_9 (by decide) (fun c2 => ?_) (fun c2 => ?_)
    · skip
      refine lv_iconst (v := 0) hx hb d_Warnings_openAt_21 (by decide) ?_
      exact mq_iret hQ C X hr rfl hlk (⟨rfl, Or.inl ⟨Or.inr c2, rfl⟩⟩) (by omega) (by omega) d_Warnings_openAt_22
    · skip
      obtain ⟨j, hj, ej⟩ := ix_lt c1 (Int32.not_le.mp c2) (by omega)
      refine lv_aload_n hx hb d_Warnings_openAt_12 rfl (lv_at hl 0 rfl) ?_
      refine mv_get C X ka 2 f_9_19_7 (v := .ref ao) rfl d_Warnings_openAt_13 ?_
      refine lv_iload_n hx hb d_Warnings_openAt_16 rfl (lv_at hl 1 rfl) ?_
      refine mv_iald C X ko 0 rfl j ej (by omega) (by omega) d_Warnings_openAt_17 ?_
      refine lv_goto (tgt := 22) hx hb d_Warnings_openAt_18 (by decide) ?_
      exact mq_iret hQ C X hr rfl hlk (⟨rfl, Or.inr ⟨j, hj, ej, rfl⟩⟩) (by omega) (by omega) d_Warnings_openAt_22
theorem d_Warnings_placeInOpen_0 : decode prog_10_method_7_code 0 = .ok (.iconst 0, 1) := by decide +kernel
theorem d_Warnings_placeInOpen_1 : decode prog_10_method_7_code 1 = .ok (.istore_n 2, 1) := by decide +kernel
theorem d_Warnings_placeInOpen_2 : decode prog_10_method_7_code 2 = .ok (.iload_n 2, 1) := by decide +kernel
theorem d_Warnings_placeInOpen_3 : decode prog_10_method_7_code 3 = .ok (.aload_n 0, 1) := by decide +kernel
theorem d_Warnings_placeInOpen_4 : decode prog_10_method_7_code 4 = .ok (.getfield 34, 3) := by decide +kernel
theorem d_Warnings_placeInOpen_7 : decode prog_10_method_7_code 7 = .ok (.if_icmp .ge 21, 3) := by decide +kernel
theorem d_Warnings_placeInOpen_10 : decode prog_10_method_7_code 10 = .ok (.aload_n 0, 1) := by decide +kernel
theorem d_Warnings_placeInOpen_11 : decode prog_10_method_7_code 11 = .ok (.getfield 19, 3) := by decide +kernel
theorem d_Warnings_placeInOpen_14 : decode prog_10_method_7_code 14 = .ok (.iload_n 2, 1) := by decide +kernel
theorem d_Warnings_placeInOpen_15 : decode prog_10_method_7_code 15 = .ok (.iaload, 1) := by decide +kernel
theorem d_Warnings_placeInOpen_16 : decode prog_10_method_7_code 16 = .ok (.iload_n 1, 1) := by decide +kernel
theorem d_Warnings_placeInOpen_17 : decode prog_10_method_7_code 17 = .ok (.if_icmp .ne 5, 3) := by decide +kernel
theorem d_Warnings_placeInOpen_20 : decode prog_10_method_7_code 20 = .ok (.iload_n 2, 1) := by decide +kernel
theorem d_Warnings_placeInOpen_21 : decode prog_10_method_7_code 21 = .ok (.ireturn, 1) := by decide +kernel
theorem d_Warnings_placeInOpen_22 : decode prog_10_method_7_code 22 = .ok (.iinc 2 1, 3) := by decide +kernel
theorem d_Warnings_placeInOpen_25 : decode prog_10_method_7_code 25 = .ok (.goto (-23), 3) := by decide +kernel
theorem d_Warnings_placeInOpen_28 : decode prog_10_method_7_code 28 = .ok (.iconst (-1), 1) := by decide +kernel
theorem d_Warnings_placeInOpen_29 : decode prog_10_method_7_code 29 = .ok (.ireturn, 1) := by decide +kernel
set_option maxRecDepth 100000 in
set_option maxHeartbeats 4000000 in
theorem cm_Warnings_placeInOpen {l : Launch} {S0 : State} {b : Nat} {D : va_G} {dT : Nat → ClassId} (hE : vEnv S0 b D dT) {h0 : vH} {a ar at0 ao n no : Nat} {la : Int64} {fo : Nat → Int32} {p1 : Int32} (hno : no ≤ 200) (ka : h0 a = some (.inr (7, [.ref ar, .ref at0, .ref ao, .int (nI n), .int (nI no), .long la]))) (ko : h0 ao = some (.inl (dT 0, 200, .inl fo))) : vMi l S0 D vcl GT y_Warnings_placeInOpen prog_10_method_7_code 3 (some .int) 0 0 0 0 [.ref a, .int p1] h0 (fun r h' => h' = h0 ∧ ((∃ j, j < no ∧ r = nI j ∧ fo j = p1 ∧ ∀ i, i < j → ¬ fo i = p1) ∨ r = -1 ∧ ∀ j, j < no → ¬ fo j = p1)) := by
  unfold vMi
  refine vM_ofQ hE.1 (by decide) (Nat.le_of_ble_eq_true rfl) (fun p e s m args below meth c ls Q hQ C hr hlk hnm X hl => ?_)
  have C : vC p s m _ c _ _ "MenuScreens$Warnings" GT D vcl (vty dT) := C
  have hx := C.1.1
  have hb := C.1.2.1
  obtain ⟨H, eH⟩ : ∃ z, z = s.heap := ⟨_, rfl⟩
  obtain ⟨locs, elocs⟩ : ∃ z : List Loc, z = [] := ⟨_, rfl⟩
  rw [← eH, ← elocs] at X
  rw [← eH, ← elocs]
  clear eH elocs
  have hl : lv_has ls 3 [(0, .ref a), (1, .int p1)] := hl
  refine lv_iconst (v := 0) hx hb d_Warnings_placeInOpen_0 (by decide) ?_
  refine lv_istore_n (lv' := [(2, .int 0), (0, .ref a), (1, .int p1)]) hx hb d_Warnings_placeInOpen_1 rfl hl (by decide) rfl (fun ls hl => ?_)
  have lp : ∀ (n_lp : Nat) (k : Nat) (i : Int32) (ls : Array Slot), (i = nI k) → (k ≤ no) → (∀ j, j < k → ¬ fo j = p1) → (no - k) < n_lp → lv_has ls 3 [(0, .ref a), (1, .int p1), (2, .int i)] → W p l e (vRm 0 0 0 0) s m args below meth c H locs 0 0 Q (F0 m 2 ls []) := by
    intro n_lp
    induction n_lp with
    | zero => intros; exact absurd (by assumption) (Nat.not_lt_zero _)
    | succ n_lp ih_lp =>
      intro k i ls ei hk hf hmu_lp hl
      refine lv_iload_n hx hb d_Warnings_placeInOpen_2 rfl (lv_at hl 2 rfl) ?_
      refine lv_aload_n hx hb d_Warnings_placeInOpen_3 rfl (lv_at hl 0 rfl) ?_
      refine mv_get C X ka 4 f_9_34_7 (v := .int (nI no)) rfl d_Warnings_placeInOpen_4 ?_
      refine lv_icmp_ge (tgt := 28) hx hb d_Warnings_placeInOpen_7 (by decide) (fun c1 => ?_) (fun c1 => ?_)
      · skip
        refine lv_iconst (v := (-1)) hx hb d_Warnings_placeInOpen_28 (by decide) ?_
        exact mq_iret hQ C X hr rfl hlk (⟨rfl, Or.inr ⟨rfl, fun j hj => hf j (by have := (nI_leI (a := no) (b := k) (by omega) (by omega)).mp (by rw [← ei]; exact c1); omega)⟩⟩) (by omega) (by omega) d_Warnings_placeInOpen_29
      · skip
        have hkn : k < no := by
          rcases Nat.lt_or_ge k no with q | q
          · exact q
          · exact absurd (by rw [ei]; exact nI_le q (by omega)) c1
        refine lv_aload_n hx hb d_Warnings_placeInOpen_10 rfl (lv_at hl 0 rfl) ?_
        refine mv_get C X ka 2 f_9_19_7 (v := .ref ao) rfl d_Warnings_placeInOpen_11 ?_
        refine lv_iload_n hx hb d_Warnings_placeInOpen_14 rfl (lv_at hl 2 rfl) ?_
        refine mv_iald C X ko 0 rfl k ei (by omega) (by decide) d_Warnings_placeInOpen_15 ?_
        refine lv_iload_n hx hb d_Warnings_placeInOpen_16 rfl (lv_at hl 1 rfl) ?_
        refine lv_icmp_ne (tgt := 22) hx hb d_Warnings_placeInOpen_17 (by decide) (fun c2 => ?_) (fun c2 => ?_)
        · skip
          refine lv_iinc (v := (i + 1)) (lv' := [(2, .int (i + 1)), (0, .ref a), (1, .int p1)]) hx hb d_Warnings_placeInOpen_22 hl (k := 2) rfl rfl (by decide) rfl (fun ls hl => ?_)
          refine lv_goto (tgt := 2) hx hb d_Warnings_placeInOpen_25 (by decide) ?_
          exact ih_lp (k + 1) (i + 1) ls  (by rw [ei]; exact nI_1 k) (by omega) (fun j hj => by
              by_cases z : j = k
              · rw [z]; exact c2
              · exact hf j (by omega)) (by omega) (lv_sub hl [1, 2, 0] rfl)
        · skip
          refine lv_iload_n hx hb d_Warnings_placeInOpen_20 rfl (lv_at hl 2 rfl) ?_
          exact mq_iret hQ C X hr rfl hlk (⟨rfl, Or.inl ⟨k, hkn, ei, c2, hf⟩⟩) (by omega) (by omega) d_Warnings_placeInOpen_21
  exact lp (no - 0 + 1) 0 0 ls  rfl (Nat.zero_le _) (fun j hj => absurd hj (Nat.not_lt_zero _)) (Nat.lt_succ_self _) (lv_sub hl [1, 2, 0] rfl)
theorem d_Warnings_signAt_0 : decode prog_10_method_8_code 0 = .ok (.aload_n 0, 1) := by decide +kernel
theorem d_Warnings_signAt_1 : decode prog_10_method_8_code 1 = .ok (.getfield 34, 3) := by decide +kernel
theorem d_Warnings_signAt_4 : decode prog_10_method_8_code 4 = .ok (.ifCond .ne 5, 3) := by decide +kernel
theorem d_Warnings_signAt_7 : decode prog_10_method_8_code 7 = .ok (.iconst 0, 1) := by decide +kernel
theorem d_Warnings_signAt_8 : decode prog_10_method_8_code 8 = .ok (.ireturn, 1) := by decide +kernel
theorem d_Warnings_signAt_9 : decode prog_10_method_8_code 9 = .ok (.aload_n 0, 1) := by decide +kernel
theorem d_Warnings_signAt_10 : decode prog_10_method_8_code 10 = .ok (.aload_n 0, 1) := by decide +kernel
theorem d_Warnings_signAt_11 : decode prog_10_method_8_code 11 = .ok (.getfield 19, 3) := by decide +kernel
theorem d_Warnings_signAt_14 : decode prog_10_method_8_code 14 = .ok (.iconst 0, 1) := by decide +kernel
theorem d_Warnings_signAt_15 : decode prog_10_method_8_code 15 = .ok (.iaload, 1) := by decide +kernel
theorem d_Warnings_signAt_16 : decode prog_10_method_8_code 16 = .ok (.invokevirtual 37, 3) := by decide +kernel
theorem d_Warnings_signAt_19 : decode prog_10_method_8_code 19 = .ok (.istore_n 2, 1) := by decide +kernel
theorem d_Warnings_signAt_20 : decode prog_10_method_8_code 20 = .ok (.iload_n 1, 1) := by decide +kernel
theorem d_Warnings_signAt_21 : decode prog_10_method_8_code 21 = .ok (.ifCond .ne 6, 3) := by decide +kernel
theorem d_Warnings_signAt_24 : decode prog_10_method_8_code 24 = .ok (.bipush 33, 2) := by decide +kernel
theorem d_Warnings_signAt_26 : decode prog_10_method_8_code 26 = .ok (.ireturn, 1) := by decide +kernel
theorem d_Warnings_signAt_27 : decode prog_10_method_8_code 27 = .ok (.iload_n 1, 1) := by decide +kernel
theorem d_Warnings_signAt_28 : decode prog_10_method_8_code 28 = .ok (.iconst 1, 1) := by decide +kernel
theorem d_Warnings_signAt_29 : decode prog_10_method_8_code 29 = .ok (.if_icmp .ne 11, 3) := by decide +kernel
theorem d_Warnings_signAt_32 : decode prog_10_method_8_code 32 = .ok (.bipush 48, 2) := by decide +kernel
theorem d_Warnings_signAt_34 : decode prog_10_method_8_code 34 = .ok (.iload_n 2, 1) := by decide +kernel
theorem d_Warnings_signAt_35 : decode prog_10_method_8_code 35 = .ok (.bipush 10, 2) := by decide +kernel
theorem d_Warnings_signAt_37 : decode prog_10_method_8_code 37 = .ok (.idiv, 1) := by decide +kernel
theorem d_Warnings_signAt_38 : decode prog_10_method_8_code 38 = .ok (.iadd, 1) := by decide +kernel
theorem d_Warnings_signAt_39 : decode prog_10_method_8_code 39 = .ok (.ireturn, 1) := by decide +kernel
theorem d_Warnings_signAt_40 : decode prog_10_method_8_code 40 = .ok (.iload_n 1, 1) := by decide +kernel
theorem d_Warnings_signAt_41 : decode prog_10_method_8_code 41 = .ok (.iconst 2, 1) := by decide +kernel
theorem d_Warnings_signAt_42 : decode prog_10_method_8_code 42 = .ok (.if_icmp .ne 13, 3) := by decide +kernel
theorem d_Warnings_signAt_45 : decode prog_10_method_8_code 45 = .ok (.bipush 48, 2) := by decide +kernel
theorem d_Warnings_signAt_47 : decode prog_10_method_8_code 47 = .ok (.iload_n 2, 1) := by decide +kernel
theorem d_Warnings_signAt_48 : decode prog_10_method_8_code 48 = .ok (.bipush 10, 2) := by decide +kernel
theorem d_Warnings_signAt_50 : decode prog_10_method_8_code 50 = .ok (.irem, 1) := by decide +kernel
theorem d_Warnings_signAt_51 : decode prog_10_method_8_code 51 = .ok (.iadd, 1) := by decide +kernel
theorem d_Warnings_signAt_52 : decode prog_10_method_8_code 52 = .ok (.goto 4, 3) := by decide +kernel
theorem d_Warnings_signAt_55 : decode prog_10_method_8_code 55 = .ok (.iconst 0, 1) := by decide +kernel
theorem d_Warnings_signAt_56 : decode prog_10_method_8_code 56 = .ok (.ireturn, 1) := by decide +kernel
set_option maxRecDepth 100000 in
set_option maxHeartbeats 4000000 in
theorem cm_Warnings_signAt {l : Launch} {S0 : State} {b : Nat} {D : va_G} {dT : Nat → ClassId} (hE : vEnv S0 b D dT) {h0 : vH} {a ar at0 ao n no k : Nat} {la : Int64} {fr fo : Nat → Int32} {p1 : Int32} (hno : no ≤ 200) (hn : n ≤ 200) (hk : 0 < no → fo 0 = nI k ∧ 1 ≤ k ∧ k ≤ n) (ka : h0 a = some (.inr (7, [.ref ar, .ref at0, .ref ao, .int (nI n), .int (nI no), .long la]))) (kr : h0 ar = some (.inl (dT 0, 200, .inl fr))) (ko : h0 ao = some (.inl (dT 0, 200, .inl fo))) : vMi l S0 D vcl GT y_Warnings_signAt prog_10_method_8_code 3 (some .int) 1 21 0 0 [.ref a, .int p1] h0 (fun r h' => h' = h0 ∧ r = (if no = 0 then 0 else if p1 = 0 then 33 else if p1 = 1 then 48 + fr (k - 1) / 10 else if p1 = 2 then 48 + (fr (k - 1) - fr (k - 1) / 10 * 10) else 0)) := by
  unfold vMi
  refine vM_ofQ hE.1 (by decide) (Nat.le_of_ble_eq_true rfl) (fun p e s m args below meth c ls Q hQ C hr hlk hnm X hl => ?_)
  have C : vC p s m _ c _ _ "MenuScreens$Warnings" GT D vcl (vty dT) := C
  have hx := C.1.1
  have hb := C.1.2.1
  obtain ⟨H, eH⟩ : ∃ z, z = s.heap := ⟨_, rfl⟩
  obtain ⟨locs, elocs⟩ : ∃ z : List Loc, z = [] := ⟨_, rfl⟩
  rw [← eH, ← elocs] at X
  rw [← eH, ← elocs]
  clear eH elocs
  have hl : lv_has ls 3 [(0, .ref a), (1, .int p1)] := hl
  refine lv_aload_n hx hb d_Warnings_signAt_0 rfl (lv_at hl 0 rfl) ?_
  refine mv_get C X ka 4 f_9_34_7 (v := .int (nI no)) rfl d_Warnings_signAt_1 ?_
  refine lv_if_ne (tgt := 9) hx hb d_Warnings_signAt_4 (by decide) (fun c1 => ?_) (fun c1 => ?_)
  · skip
    have hn0 : ¬ no = 0 := fun z => c1 (by rw [z]; rfl)
    obtain ⟨o1, o2, o3⟩ := hk (by omega)
    refine lv_aload_n hx hb d_Warnings_signAt_9 rfl (lv_at hl 0 rfl) ?_
    refine lv_aload_n hx hb d_Warnings_signAt_10 rfl (lv_at hl 0 rfl) ?_
    refine mv_get C X ka 2 f_9_19_7 (v := .ref ao) rfl d_Warnings_signAt_11 ?_
    refine lv_iconst (v := 0) hx hb d_Warnings_signAt_14 (by decide) ?_
    refine mv_iald C X ko 0 rfl 0 rfl (by decide) (by decide) d_Warnings_signAt_15 ?_
    rw [o1]
    refine mv_bi X (mv_rV (rest := []) (As := [.int (nI k)]) gt_good C X k_9_37 (cm_Warnings_rankOf hE o2 o3 hn ka kr) ka rfl rfl ⟨Nat.le_of_ble_eq_true rfl, Nat.le_of_ble_eq_true rfl⟩ rfl hl.1 rfl (Nat.le_of_ble_eq_true rfl) d_Warnings_signAt_16 ⟨Nat.zero_le _, Nat.zero_le _⟩) (fun r2 hN H locs hp X => ?_)
    obtain ⟨eh, er⟩ := hp
    replace eh := eh.symm
    replace er := er.symm
    subst eh er
    refine lv_istore_n (lv' := [(2, .int (fr (k - 1))), (0, .ref a), (1, .int p1)]) hx hb d_Warnings_signAt_19 rfl hl (by decide) rfl (fun ls hl => ?_)
    refine lv_iload_n hx hb d_Warnings_signAt_20 rfl (lv_at hl 2 rfl) ?_
    refine lv_if_ne (tgt := 27) hx hb d_Warnings_signAt_21 (by decide) (fun c3 => ?_) (fun c3 => ?_)
    · skip
      refine lv_iload_n hx hb d_Warnings_signAt_27 rfl (lv_at hl 2 rfl) ?_
      refine lv_iconst (v := 1) hx hb d_Warnings_signAt_28 (by decide) ?_
      refine lv_icmp_ne (tgt := 40) hx hb d_Warnings_signAt_29 (by decide) (fun c4 => ?_) (fun c4 => ?_)
      · skip
        refine lv_iload_n hx hb d_Warnings_signAt_40 rfl (lv_at hl 2 rfl) ?_
        refine lv_iconst (v := 2) hx hb d_Warnings_signAt_41 (by decide) ?_
        refine lv_icmp_ne (tgt := 55) hx hb d_Warnings_signAt_42 (by decide) (fun c5 => ?_) (fun c5 => ?_)
        · skip
          refine lv_iconst (v := 0) hx hb d_Warnings_signAt_55 (by decide) ?_
          exact mq_iret hQ C X hr rfl hlk (⟨rfl, by rw [if_neg hn0, if_neg c3, if_neg c4, if_neg c5]⟩) (by omega) (by omega) d_Warnings_signAt_56
        · skip
          refine lv_bipush (v := 48) hx hb d_Warnings_signAt_45 (by decide) ?_
          refine lv_iload_n hx hb d_Warnings_signAt_47 rfl (lv_at hl 0 rfl) ?_
          refine lv_bipush (v := 10) hx hb d_Warnings_signAt_48 (by decide) ?_
          refine lv_irem hx hb d_Warnings_signAt_50 (by decide) ?_
          refine lv_iadd hx hb d_Warnings_signAt_51 ?_
          refine lv_goto (tgt := 56) hx hb d_Warnings_signAt_52 (by decide) ?_
          exact mq_iret hQ C X hr rfl hlk (⟨rfl, by rw [if_neg hn0, if_neg c3, if_neg c4, if_pos c5]⟩) (by omega) (by omega) d_Warnings_signAt_56
      · skip
        refine lv_bipush (v := 48) hx hb d_Warnings_signAt_32 (by decide) ?_
        refine lv_iload_n hx hb d_Warnings_signAt_34 rfl (lv_at hl 0 rfl) ?_
        refine lv_bipush (v := 10) hx hb d_Warnings_signAt_35 (by decide) ?_
        refine lv_idiv hx hb d_Warnings_signAt_37 (by decide) ?_
        refine lv_iadd hx hb d_Warnings_signAt_38 ?_
        exact mq_iret hQ C X hr rfl hlk (⟨rfl, by rw [if_neg hn0, if_neg c3, if_pos c4]⟩) (by omega) (by omega) d_Warnings_signAt_39
    · skip
      refine lv_bipush (v := 33) hx hb d_Warnings_signAt_24 (by decide) ?_
      exact mq_iret hQ C X hr rfl hlk (⟨rfl, by rw [if_neg hn0, if_pos c3]⟩) (by omega) (by omega) d_Warnings_signAt_26
  · skip
    refine lv_iconst (v := 0) hx hb d_Warnings_signAt_7 (by decide) ?_
    exact mq_iret hQ C X hr rfl hlk (⟨rfl, by rw [if_pos (nI_eqI (b := 0) (by omega) (by decide) c1)]⟩) (by omega) (by omega) d_Warnings_signAt_8
theorem d_Warnings_close_0 : decode prog_10_method_6_code 0 = .ok (.aload_n 0, 1) := by decide +kernel
theorem d_Warnings_close_1 : decode prog_10_method_6_code 1 = .ok (.iload_n 1, 1) := by decide +kernel
theorem d_Warnings_close_2 : decode prog_10_method_6_code 2 = .ok (.invokevirtual 41, 3) := by decide +kernel
theorem d_Warnings_close_5 : decode prog_10_method_6_code 5 = .ok (.istore_n 2, 1) := by decide +kernel
theorem d_Warnings_close_6 : decode prog_10_method_6_code 6 = .ok (.iload_n 2, 1) := by decide +kernel
theorem d_Warnings_close_7 : decode prog_10_method_6_code 7 = .ok (.ifCond .lt 16, 3) := by decide +kernel
theorem d_Warnings_close_10 : decode prog_10_method_6_code 10 = .ok (.iload_n 1, 1) := by decide +kernel
theorem d_Warnings_close_11 : decode prog_10_method_6_code 11 = .ok (.iconst 1, 1) := by decide +kernel
theorem d_Warnings_close_12 : decode prog_10_method_6_code 12 = .ok (.if_icmp .lt 11, 3) := by decide +kernel
theorem d_Warnings_close_15 : decode prog_10_method_6_code 15 = .ok (.iload_n 1, 1) := by decide +kernel
theorem d_Warnings_close_16 : decode prog_10_method_6_code 16 = .ok (.aload_n 0, 1) := by decide +kernel
theorem d_Warnings_close_17 : decode prog_10_method_6_code 17 = .ok (.getfield 26, 3) := by decide +kernel
theorem d_Warnings_close_20 : decode prog_10_method_6_code 20 = .ok (.if_icmp .le 5, 3) := by decide +kernel
theorem d_Warnings_close_23 : decode prog_10_method_6_code 23 = .ok (.iconst (-1), 1) := by decide +kernel
theorem d_Warnings_close_24 : decode prog_10_method_6_code 24 = .ok (.ireturn, 1) := by decide +kernel
theorem d_Warnings_close_25 : decode prog_10_method_6_code 25 = .ok (.aload_n 0, 1) := by decide +kernel
theorem d_Warnings_close_26 : decode prog_10_method_6_code 26 = .ok (.getfield 22, 3) := by decide +kernel
theorem d_Warnings_close_29 : decode prog_10_method_6_code 29 = .ok (.aload_n 0, 1) := by decide +kernel
theorem d_Warnings_close_30 : decode prog_10_method_6_code 30 = .ok (.getfield 15, 3) := by decide +kernel
theorem d_Warnings_close_33 : decode prog_10_method_6_code 33 = .ok (.iload_n 1, 1) := by decide +kernel
theorem d_Warnings_close_34 : decode prog_10_method_6_code 34 = .ok (.iconst 1, 1) := by decide +kernel
theorem d_Warnings_close_35 : decode prog_10_method_6_code 35 = .ok (.isub, 1) := by decide +kernel
theorem d_Warnings_close_36 : decode prog_10_method_6_code 36 = .ok (.laload, 1) := by decide +kernel
theorem d_Warnings_close_37 : decode prog_10_method_6_code 37 = .ok (.lsub, 1) := by decide +kernel
theorem d_Warnings_close_38 : decode prog_10_method_6_code 38 = .ok (.ldc2_w 44, 3) := by decide +kernel
theorem d_Warnings_close_41 : decode prog_10_method_6_code 41 = .ok (.lcmp, 1) := by decide +kernel
theorem d_Warnings_close_42 : decode prog_10_method_6_code 42 = .ok (.ifCond .ge 6, 3) := by decide +kernel
theorem d_Warnings_close_45 : decode prog_10_method_6_code 45 = .ok (.bipush (-3), 2) := by decide +kernel
theorem d_Warnings_close_47 : decode prog_10_method_6_code 47 = .ok (.ireturn, 1) := by decide +kernel
theorem d_Warnings_close_48 : decode prog_10_method_6_code 48 = .ok (.aload_n 0, 1) := by decide +kernel
theorem d_Warnings_close_49 : decode prog_10_method_6_code 49 = .ok (.dup, 1) := by decide +kernel
theorem d_Warnings_close_50 : decode prog_10_method_6_code 50 = .ok (.getfield 34, 3) := by decide +kernel
theorem d_Warnings_close_53 : decode prog_10_method_6_code 53 = .ok (.iconst 1, 1) := by decide +kernel
theorem d_Warnings_close_54 : decode prog_10_method_6_code 54 = .ok (.isub, 1) := by decide +kernel
theorem d_Warnings_close_55 : decode prog_10_method_6_code 55 = .ok (.putfield 34, 3) := by decide +kernel
theorem d_Warnings_close_58 : decode prog_10_method_6_code 58 = .ok (.iload_n 2, 1) := by decide +kernel
theorem d_Warnings_close_59 : decode prog_10_method_6_code 59 = .ok (.istore_n 3, 1) := by decide +kernel
theorem d_Warnings_close_60 : decode prog_10_method_6_code 60 = .ok (.iload_n 3, 1) := by decide +kernel
theorem d_Warnings_close_61 : decode prog_10_method_6_code 61 = .ok (.aload_n 0, 1) := by decide +kernel
theorem d_Warnings_close_62 : decode prog_10_method_6_code 62 = .ok (.getfield 34, 3) := by decide +kernel
theorem d_Warnings_close_65 : decode prog_10_method_6_code 65 = .ok (.if_icmp .ge 23, 3) := by decide +kernel
theorem d_Warnings_close_68 : decode prog_10_method_6_code 68 = .ok (.aload_n 0, 1) := by decide +kernel
theorem d_Warnings_close_69 : decode prog_10_method_6_code 69 = .ok (.getfield 19, 3) := by decide +kernel
theorem d_Warnings_close_72 : decode prog_10_method_6_code 72 = .ok (.iload_n 3, 1) := by decide +kernel
theorem d_Warnings_close_73 : decode prog_10_method_6_code 73 = .ok (.aload_n 0, 1) := by decide +kernel
theorem d_Warnings_close_74 : decode prog_10_method_6_code 74 = .ok (.getfield 19, 3) := by decide +kernel
theorem d_Warnings_close_77 : decode prog_10_method_6_code 77 = .ok (.iload_n 3, 1) := by decide +kernel
theorem d_Warnings_close_78 : decode prog_10_method_6_code 78 = .ok (.iconst 1, 1) := by decide +kernel
theorem d_Warnings_close_79 : decode prog_10_method_6_code 79 = .ok (.iadd, 1) := by decide +kernel
theorem d_Warnings_close_80 : decode prog_10_method_6_code 80 = .ok (.iaload, 1) := by decide +kernel
theorem d_Warnings_close_81 : decode prog_10_method_6_code 81 = .ok (.iastore, 1) := by decide +kernel
theorem d_Warnings_close_82 : decode prog_10_method_6_code 82 = .ok (.iinc 3 1, 3) := by decide +kernel
theorem d_Warnings_close_85 : decode prog_10_method_6_code 85 = .ok (.goto (-25), 3) := by decide +kernel
theorem d_Warnings_close_88 : decode prog_10_method_6_code 88 = .ok (.aload_n 0, 1) := by decide +kernel
theorem d_Warnings_close_89 : decode prog_10_method_6_code 89 = .ok (.getfield 34, 3) := by decide +kernel
theorem d_Warnings_close_92 : decode prog_10_method_6_code 92 = .ok (.ireturn, 1) := by decide +kernel
set_option maxRecDepth 100000 in
set_option maxHeartbeats 4000000 in
theorem cm_Warnings_close {l : Launch} {S0 : State} {b : Nat} {D : va_G} {dT : Nat → ClassId} (hE : vEnv S0 b D dT) {h0 : vH} {a ar at0 ao n no : Nat} {la : Int64} {fr fo : Nat → Int32} {ft : Nat → Int64} {p1 : Int32} {op : Nat → Nat} (hro : ar ≠ ao) (hn : n ≤ 200) (hno : no ≤ n) (hop : ∀ j, j < no → fo j = nI (op j) ∧ 1 ≤ op j ∧ op j ≤ n) (ka : h0 a = some (.inr (7, [.ref ar, .ref at0, .ref ao, .int (nI n), .int (nI no), .long la]))) (wa : S0.heap.size ≤ a) (kr : h0 ar = some (.inl (dT 0, 200, .inl fr))) (wr : S0.heap.size ≤ ar) (kt : h0 at0 = some (.inl (dT 1, 200, .inr (.inl ft)))) (wt : S0.heap.size ≤ at0) (ko : h0 ao = some (.inl (dT 0, 200, .inl fo))) (wo : S0.heap.size ≤ ao) : vMi l S0 D vcl GT y_Warnings_close prog_10_method_6_code 4 (some .int) 1 22 0 0 [.ref a, .int p1] h0 (fun r h' => ((∀ j, j < no → ¬ fo j = p1) ∧ r = -1 ∧ h' = h0) ∨ ∃ pl, pl < no ∧ p1 = nI (op pl) ∧ (la - ft (op pl - 1) < 30 ∧ r = -3 ∧ h' = h0 ∨ ¬ la - ft (op pl - 1) < 30 ∧ r = nI (no - 1) ∧ ∃ f2, h' = vup (vup h0 a (.inr (7, [.ref ar, .ref at0, .ref ao, .int (nI n), .int (nI (no - 1)), .long la]))) ao (.inl (dT 0, 200, .inl f2)) ∧ (∀ j, pl ≤ j → j < no - 1 → f2 j = fo (j + 1)) ∧ ∀ j, j < pl → f2 j = fo j)) := by
  unfold vMi
  refine vM_ofQ hE.1 (by decide) (Nat.le_of_ble_eq_true rfl) (fun p e s m args below meth c ls Q hQ C hr hlk hnm X hl => ?_)
  have C : vC p s m _ c _ _ "MenuScreens$Warnings" GT D vcl (vty dT) := C
  have hx := C.1.1
  have hb := C.1.2.1
  obtain ⟨H, eH⟩ : ∃ z, z = s.heap := ⟨_, rfl⟩
  obtain ⟨locs, elocs⟩ : ∃ z : List Loc, z = [] := ⟨_, rfl⟩
  rw [← eH, ← elocs] at X
  rw [← eH, ← elocs]
  clear eH elocs
  have hl : lv_has ls 4 [(0, .ref a), (1, .int p1)] := hl
  refine lv_aload_n hx hb d_Warnings_close_0 rfl (lv_at hl 0 rfl) ?_
  refine lv_iload_n hx hb d_Warnings_close_1 rfl (lv_at hl 1 rfl) ?_
  refine mv_bi X (mv_rV (rest := []) (As := [.int p1]) gt_good C X k_9_41 (cm_Warnings_placeInOpen hE (by omega) ka ko) ka rfl rfl ⟨Nat.le_of_ble_eq_true rfl, Nat.le_of_ble_eq_true rfl⟩ rfl hl.1 rfl (Nat.le_of_ble_eq_true rfl) d_Warnings_close_2 ⟨Nat.zero_le _, Nat.zero_le _⟩) (fun r1 hN H locs hp X => ?_)
  obtain ⟨eh, hpl⟩ := hp
  replace eh := eh.symm
  subst eh
  refine lv_istore_n (lv' := [(2, .int r1), (0, .ref a), (1, .int p1)]) hx hb d_Warnings_close_5 rfl hl (by decide) rfl (fun ls hl => ?_)
  refine lv_iload_n hx hb d_Warnings_close_6 rfl (lv_at hl 0 rfl) ?_
  rcases hpl with ⟨pl, hpl1, hpl2, hpl3, hpl4⟩ | ⟨hpl1, hpl2⟩
  · skip
    obtain ⟨o1, o2, o3⟩ := hop pl hpl1
    have ep : p1 = nI (op pl) := by rw [← hpl3]; exact o1
    refine lv_if_lt (tgt := 23) hx hb d_Warnings_close_7 (by decide) (fun z => absurd z (by rw [hpl2]; exact nI_pos (by omega))) (fun c2 => ?_)
    refine lv_iload_n hx hb d_Warnings_close_10 rfl (lv_at hl 2 rfl) ?_
    refine lv_iconst (v := 1) hx hb d_Warnings_close_11 (by decide) ?_
    refine lv_icmp_lt (tgt := 23) hx hb d_Warnings_close_12 (by decide) (fun z => absurd z (by rw [ep]; exact nI_nlt (b := 1) o2 (by omega))) (fun c3 => ?_)
    refine lv_iload_n hx hb d_Warnings_close_15 rfl (lv_at hl 2 rfl) ?_
    refine lv_aload_n hx hb d_Warnings_close_16 rfl (lv_at hl 1 rfl) ?_
    refine mv_get C X ka 3 f_9_26_7 (v := .int (nI n)) rfl d_Warnings_close_17 ?_
    refine lv_icmp_le (tgt := 25) hx hb d_Warnings_close_20 (by decide) (fun c4 => ?_) (fun z => absurd (by rw [ep]; exact nI_le o3 (by omega)) z)
    refine lv_aload_n hx hb d_Warnings_close_25 rfl (lv_at hl 1 rfl) ?_
    refine mv_get C X ka 5 f_9_22_7 (v := .long la) rfl d_Warnings_close_26 ?_
    refine lv_aload_n hx hb d_Warnings_close_29 rfl (lv_at hl 1 rfl) ?_
    refine mv_get C X ka 1 f_9_15_7 (v := .ref at0) rfl d_Warnings_close_30 ?_
    refine lv_iload_n hx hb d_Warnings_close_33 rfl (lv_at hl 2 rfl) ?_
    refine lv_iconst (v := 1) hx hb d_Warnings_close_34 (by decide) ?_
    refine lv_isub hx hb d_Warnings_close_35 ?_
    refine mv_lald C X kt 1 rfl (op pl - 1) (by rw [ep]; exact nI_sub (b := 1) o2) (by omega) (by omega) d_Warnings_close_36 ?_
    refine lv_lsub hx hb d_Warnings_close_37 ?_
    refine lv_ldc2 (v := 30) hx hb C.1.2.2.2.1 (C.1.2.2.2.2 _ (gt_4 214 (by decide +kernel) rfl)) d_Warnings_close_38 ?_
    refine W.lcmp hx hb d_Warnings_close_41 ?_
    refine lv_if_ge (tgt := 48) hx hb d_Warnings_close_42 (by decide) (fun c5 => ?_) (fun c5 => ?_)
    · skip
      refine lv_aload_n hx hb d_Warnings_close_48 rfl (lv_at hl 1 rfl) ?_
      refine lv_dup hx hb d_Warnings_close_49 rfl ?_
      refine mv_get C X ka 4 f_9_34_7 (v := .int (nI no)) rfl d_Warnings_close_50 ?_
      refine lv_iconst (v := 1) hx hb d_Warnings_close_53 (by decide) ?_
      refine lv_isub hx hb d_Warnings_close_54 ?_
      rw [show nI no - 1 = nI (no - 1) from nI_sub (b := 1) (by omega)]
      refine mv_put C X ka wa 4 p_9_34_7 rfl rfl (Nat.le_of_ble_eq_true rfl) d_Warnings_close_55 (fun H locs X => ?_)
      have X : vO S0 D vcl (vup h0 a (.inr (7, [.ref ar, .ref at0, .ref ao, .int (nI n), .int (nI (no - 1)), .long la]))) s H locs := X
      refine lv_iload_n hx hb d_Warnings_close_58 rfl (lv_at hl 0 rfl) ?_
      refine lv_istore_n (lv' := [(3, .int r1), (2, .int r1), (0, .ref a), (1, .int p1)]) hx hb d_Warnings_close_59 rfl hl (by decide) rfl (fun ls hl => ?_)
      rw [← vup_id ((vup_n _ _ (Ne.symm (vne_oa ka ko))).trans ko)] at X
      have lp : ∀ (n_lp : Nat) (k : Nat) (f : Nat → Int32) (i : Int32) (ls : Array Slot) (H : Heap) (locs : List Loc), (i = nI k) → (pl ≤ k) → (k ≤ no - 1) → (∀ j, pl ≤ j → j < k → f j = fo (j + 1)) → (∀ j, (j < pl ∨ k ≤ j) → f j = fo j) → (no - 1 - k) < n_lp → vO S0 D vcl (vup (vup h0 a (.inr (7, [.ref ar, .ref at0, .ref ao, .int (nI n), .int (nI (no - 1)), .long la]))) ao (.inl (dT 0, 200, .inl f))) s H locs → lv_has ls 4 [(0, .ref a), (3, .int i)] → W p l e (vRm 1 22 0 0) s m args below meth c H locs 0 0 Q (F0 m 60 ls []) := by
        intro n_lp
        induction n_lp with
        | zero => intros; exact absurd (by assumption) (Nat.not_lt_zero _)
        | succ n_lp ih_lp =>
          intro k f i ls H locs ei hk1 hk2 hf1 hf2 hmu_lp X hl
          refine lv_iload_n hx hb d_Warnings_close_60 rfl (lv_at hl 1 rfl) ?_
          refine lv_aload_n hx hb d_Warnings_close_61 rfl (lv_at hl 0 rfl) ?_
          refine mv_get C X ((vup_n _ _ (vne_oa ka ko)).trans (vup_s _ _ _)) 4 f_9_34_7 (v := .int (nI (no - 1))) rfl d_Warnings_close_62 ?_
          refine lv_icmp_ge (tgt := 88) hx hb d_Warnings_close_65 (by decide) (fun c6 => ?_) (fun c6 => ?_)
          · skip
            refine lv_aload_n hx hb d_Warnings_close_88 rfl (lv_at hl 0 rfl) ?_
            refine mv_get C X ((vup_n _ _ (vne_oa ka ko)).trans (vup_s _ _ _)) 4 f_9_34_7 (v := .int (nI (no - 1))) rfl d_Warnings_close_89 ?_
            exact mq_iret hQ C X hr rfl hlk (Or.inr ⟨pl, hpl1, ep, Or.inr ⟨Int64.not_lt.mpr ((lg_cmp_ge _ _).mp c5), rfl, f, rfl, fun j h1 h2 => hf1 j h1 (by have := (nI_leI (a := no - 1) (b := k) (by omega) (by omega)).mp (by rw [← ei]; exact c6); omega), fun j h1 => hf2 j (Or.inl h1)⟩⟩) (by omega) (by omega) d_Warnings_close_92
          · skip
            have hkn : k < no - 1 := by
              rcases Nat.lt_or_ge k (no - 1) with q | q
              · exact q
              · exact absurd (by rw [ei]; exact nI_le q (by omega)) c6
            refine lv_aload_n hx hb d_Warnings_close_68 rfl (lv_at hl 0 rfl) ?_
            refine mv_get C X ((vup_n _ _ (vne_oa ka ko)).trans (vup_s _ _ _)) 2 f_9_19_7 (v := .ref ao) rfl d_Warnings_close_69 ?_
            refine lv_iload_n hx hb d_Warnings_close_72 rfl (lv_at hl 1 rfl) ?_
            refine lv_aload_n hx hb d_Warnings_close_73 rfl (lv_at hl 0 rfl) ?_
            refine mv_get C X ((vup_n _ _ (vne_oa ka ko)).trans (vup_s _ _ _)) 2 f_9_19_7 (v := .ref ao) rfl d_Warnings_close_74 ?_
            refine lv_iload_n hx hb d_Warnings_close_77 rfl (lv_at hl 1 rfl) ?_
            refine lv_iconst (v := 1) hx hb d_Warnings_close_78 (by decide) ?_
            refine lv_iadd hx hb d_Warnings_close_79 ?_
            refine mv_iald C X (vup_s _ _ _) 0 rfl (k + 1) (by rw [ei]; exact nI_1 k) (by omega) (by omega) d_Warnings_close_80 ?_
            refine mv_iast C X (vup_s _ _ _) wo 0 rfl k ei (by omega) (by omega) d_Warnings_close_81 (fun H locs X => ?_)
            rw [vup_u] at X
            have X : vO S0 D vcl (vup (vup h0 a (.inr (7, [.ref ar, .ref at0, .ref ao, .int (nI n), .int (nI (no - 1)), .long la]))) ao (.inl (dT 0, 200, .inl (upd f k (f (k + 1)))))) s H locs := X
            refine lv_iinc (v := (i + 1)) (lv' := [(3, .int (i + 1)), (0, .ref a)]) hx hb d_Warnings_close_82 hl (k := 1) rfl rfl (by decide) rfl (fun ls hl => ?_)
            refine lv_goto (tgt := 60) hx hb d_Warnings_close_85 (by decide) ?_
            exact ih_lp (k + 1) (upd f k (f (k + 1))) (i + 1) ls _ _ (by rw [ei]; exact nI_1 k) (by omega) (by omega) (fun j h1 h2 => by
                by_cases z : j = k
                · rw [z, pk_us]; exact hf2 _ (by omega)
                · rw [pk_un z]; exact hf1 j h1 (by omega)) (fun j h1 => by rw [pk_un (by omega)]; exact hf2 j (by omega)) (by omega) X (lv_sub hl [1, 0] rfl)
      exact lp (no - 1 - pl + 1) pl fo r1 ls _ _ hpl2 (Nat.le_refl _) (by omega) (fun j h1 h2 => by omega) (fun j h1 => rfl) (Nat.lt_succ_self _) X (lv_sub hl [2, 0] rfl)
    · skip
      refine lv_bipush (v := (-3)) hx hb d_Warnings_close_45 (by decide) ?_
      exact mq_iret hQ C X hr rfl hlk (Or.inr ⟨pl, hpl1, ep, Or.inl ⟨Int64.not_le.mp (fun z => c5 ((lg_cmp_ge _ _).mpr z)), rfl, rfl⟩⟩) (by omega) (by omega) d_Warnings_close_47
  · skip
    refine lv_if_lt (tgt := 23) hx hb d_Warnings_close_7 (by decide) (fun c7 => ?_) (fun z => absurd (by rw [hpl1]; decide) z)
    refine lv_iconst (v := (-1)) hx hb d_Warnings_close_23 (by decide) ?_
    exact mq_iret hQ C X hr rfl hlk (Or.inl ⟨hpl2, rfl, rfl⟩) (by omega) (by omega) d_Warnings_close_24
