theorem d_Line_wordCount_0 : decode prog_3_method_4_code 0 = .ok (.aload_n 0, 1) := by decide +kernel
theorem d_Line_wordCount_1 : decode prog_3_method_4_code 1 = .ok (.getfield 24, 3) := by decide +kernel
theorem d_Line_wordCount_4 : decode prog_3_method_4_code 4 = .ok (.ireturn, 1) := by decide +kernel
set_option maxRecDepth 100000 in
set_option maxHeartbeats 4000000 in
theorem cm_Line_wordCount {l : Launch} {S0 : State} {b : Nat} {D : va_G} {dT : Nat → ClassId} (hE : vEnv S0 b D dT) {h0 : vH} {a as1 ae1 t cw : Nat} (ka : h0 a = some (.inr (6, [.ref as1, .ref ae1, .ref t, .int (nI cw)]))) : vMi l S0 D vcl GT y_Line_wordCount prog_3_method_4_code 1 (some .int) 0 0 0 0 [.ref a] h0 (fun r h' => h' = h0 ∧ r = nI cw) := by
  unfold vMi
  refine vM_ofQ hE.1 (by decide) (Nat.le_of_ble_eq_true rfl) (fun p e s m args below meth c ls Q hQ C hr hlk hnm X hl => ?_)
  have C : vC p s m _ c _ _ "MenuScreens$Line" GT D vcl (vty dT) := C
  have hx := C.1.1
  have hb := C.1.2.1
  obtain ⟨H, eH⟩ : ∃ z, z = s.heap := ⟨_, rfl⟩
  obtain ⟨locs, elocs⟩ : ∃ z : List Loc, z = [] := ⟨_, rfl⟩
  rw [← eH, ← elocs] at X
  rw [← eH, ← elocs]
  clear eH elocs
  have hl : lv_has ls 1 [(0, .ref a)] := hl
  refine lv_aload_n hx hb d_Line_wordCount_0 rfl (lv_at hl 0 rfl) ?_
  refine mv_get C X ka 3 f_2_24_6 (v := .int (nI cw)) rfl d_Line_wordCount_1 ?_
  exact mq_iret hQ C X hr rfl hlk (⟨rfl, rfl⟩) (by omega) (by omega) d_Line_wordCount_4
theorem d_Line_wordAtT_0 : decode prog_3_method_5_code 0 = .ok (.iload_n 1, 1) := by decide +kernel
theorem d_Line_wordAtT_1 : decode prog_3_method_5_code 1 = .ok (.ifCond .lt 33, 3) := by decide +kernel
theorem d_Line_wordAtT_4 : decode prog_3_method_5_code 4 = .ok (.iload_n 1, 1) := by decide +kernel
theorem d_Line_wordAtT_5 : decode prog_3_method_5_code 5 = .ok (.aload_n 0, 1) := by decide +kernel
theorem d_Line_wordAtT_6 : decode prog_3_method_5_code 6 = .ok (.getfield 24, 3) := by decide +kernel
theorem d_Line_wordAtT_9 : decode prog_3_method_5_code 9 = .ok (.if_icmp .ge 25, 3) := by decide +kernel
theorem d_Line_wordAtT_12 : decode prog_3_method_5_code 12 = .ok (.aload_n 0, 1) := by decide +kernel
theorem d_Line_wordAtT_13 : decode prog_3_method_5_code 13 = .ok (.getfield 20, 3) := by decide +kernel
theorem d_Line_wordAtT_16 : decode prog_3_method_5_code 16 = .ok (.aload_n 0, 1) := by decide +kernel
theorem d_Line_wordAtT_17 : decode prog_3_method_5_code 17 = .ok (.getfield 11, 3) := by decide +kernel
theorem d_Line_wordAtT_20 : decode prog_3_method_5_code 20 = .ok (.iload_n 1, 1) := by decide +kernel
theorem d_Line_wordAtT_21 : decode prog_3_method_5_code 21 = .ok (.iaload, 1) := by decide +kernel
theorem d_Line_wordAtT_22 : decode prog_3_method_5_code 22 = .ok (.aload_n 0, 1) := by decide +kernel
theorem d_Line_wordAtT_23 : decode prog_3_method_5_code 23 = .ok (.getfield 15, 3) := by decide +kernel
theorem d_Line_wordAtT_26 : decode prog_3_method_5_code 26 = .ok (.iload_n 1, 1) := by decide +kernel
theorem d_Line_wordAtT_27 : decode prog_3_method_5_code 27 = .ok (.iaload, 1) := by decide +kernel
theorem d_Line_wordAtT_28 : decode prog_3_method_5_code 28 = .ok (.invokevirtual 42, 3) := by decide +kernel
theorem d_Line_wordAtT_31 : decode prog_3_method_5_code 31 = .ok (.goto 5, 3) := by decide +kernel
theorem d_Line_wordAtT_36 : decode prog_3_method_5_code 36 = .ok (.areturn, 1) := by decide +kernel
set_option maxRecDepth 100000 in
set_option maxHeartbeats 4000000 in
theorem cm_Line_wordAtT {l : Launch} {S0 : State} {b : Nat} {D : va_G} {dT : Nat → ClassId} (hE : vEnv S0 b D dT) {dE mO : Nat} (hJ : vJ S0 dE mO) {h0 : vH} {a as1 ae1 t tv cw N en bg j : Nat} {f fs fe f8 : Nat → Int32} {z2 z3 : Value} (hW : lnW f en bg cw fs fe) (hb0 : bg ≤ en) (he : en ≤ N) (hN : N ≤ 4000) (hg : ∀ k, k < N → f8 k = f k ∧ ∃ c0, 0 < c0 ∧ c0 < 128 ∧ f k = nI c0) (hj : j < cw) (ka : h0 a = some (.inr (6, [.ref as1, .ref ae1, .ref t, .int (nI cw)]))) (k1 : h0 as1 = some (.inl (dT 0, 6, .inl fs))) (k2 : h0 ae1 = some (.inl (dT 0, 6, .inl fe))) (kt : h0 t = some (.inr (0, [.ref tv, .int 0, z2, z3]))) (ktv : h0 tv = some (.inl (dT 2, N, .inl f8))) (wtv : S0.heap.size ≤ tv) : vMq l S0 D vcl GT y_Line_wordAt prog_3_method_5_code 2 (some (.object "java/lang/String")) 5 122 2 (4 + (wP f en bg (j + 1) - nF f en (wP f en bg j))) [.ref a, .int (nI j)] h0 (fun r h' => ∃ q qa u2 u3 g, r = some q ∧ vfx (fun _ => False) h0 h' ∧ (h' q = some (.inr (0, [.ref qa, .int 0, u2, u3])) ∧ h' qa = some (.inl (dT 2, wP f en bg (j + 1) - nF f en (wP f en bg j), .inl g))) ∧ (0 < nF f en (wP f en bg j) → h0 q = none ∧ h0 qa = none) ∧ ∀ k, k < wP f en bg (j + 1) - nF f en (wP f en bg j) → g k = f (nF f en (wP f en bg j) + k)) := by
  unfold vMq
  refine vM_ofQ hE.1 (by decide) (Nat.le_of_ble_eq_true rfl) (fun p e s m args below meth c ls Q hQ C hr hlk hnm X hl => ?_)
  have C : vC p s m _ c _ _ "MenuScreens$Line" GT D vcl (vty dT) := C
  have hx := C.1.1
  have hb := C.1.2.1
  obtain ⟨H, eH⟩ : ∃ z, z = s.heap := ⟨_, rfl⟩
  obtain ⟨locs, elocs⟩ : ∃ z : List Loc, z = [] := ⟨_, rfl⟩
  rw [← eH, ← elocs] at X
  rw [← eH, ← elocs]
  clear eH elocs
  have hl : lv_has ls 2 [(0, .ref a), (1, .int (nI j))] := hl
  have hj6 : j < 6 := by have := hW.1; omega
  have hcw6 : cw ≤ 6 := hW.1
  obtain ⟨es, ee⟩ := hW.2.2.2 j hj
  have hw := hW.2.1 j hj
  obtain ⟨G0, eG0⟩ : ∃ z, nF f en (wP f en bg j) = z := ⟨_, rfl⟩
  obtain ⟨T0, eT0⟩ : ∃ z, wP f en bg (j + 1) = z := ⟨_, rfl⟩
  have hFT : G0 < T0 := by rw [← eG0, ← eT0]; exact of_decide_eq_true hw
  have hTN : T0 ≤ N := by rw [← eT0]; exact Nat.le_trans (wP_in hb0 (j + 1)).2 he
  rw [eG0] at es
  rw [eT0] at ee
  refine lv_iload_n hx hb d_Line_wordAtT_0 rfl (lv_at hl 1 rfl) ?_
  refine lv_if_lt (tgt := 34) hx hb d_Line_wordAtT_1 (by decide) (fun z => absurd z (nI_pos (by omega))) (fun c1 => ?_)
  refine lv_iload_n hx hb d_Line_wordAtT_4 rfl (lv_at hl 1 rfl) ?_
  refine lv_aload_n hx hb d_Line_wordAtT_5 rfl (lv_at hl 0 rfl) ?_
  refine mv_get C X ka 3 f_2_24_6 (v := .int (nI cw)) rfl d_Line_wordAtT_6 ?_
  refine lv_icmp_ge (tgt := 34) hx hb d_Line_wordAtT_9 (by decide) (fun z => absurd z (nI_ge (a := j) (b := cw) hj (by omega))) (fun c2 => ?_)
  refine lv_aload_n hx hb d_Line_wordAtT_12 rfl (lv_at hl 0 rfl) ?_
  refine mv_get C X ka 2 f_2_20_6 (v := .ref t) rfl d_Line_wordAtT_13 ?_
  refine lv_aload_n hx hb d_Line_wordAtT_16 rfl (lv_at hl 0 rfl) ?_
  refine mv_get C X ka 0 f_2_11_6 (v := .ref as1) rfl d_Line_wordAtT_17 ?_
  refine lv_iload_n hx hb d_Line_wordAtT_20 rfl (lv_at hl 1 rfl) ?_
  refine mv_iald C X k1 0 rfl j rfl (by omega) (by decide) d_Line_wordAtT_21 ?_
  refine lv_aload_n hx hb d_Line_wordAtT_22 rfl (lv_at hl 0 rfl) ?_
  refine mv_get C X ka 1 f_2_15_6 (v := .ref ae1) rfl d_Line_wordAtT_23 ?_
  refine lv_iload_n hx hb d_Line_wordAtT_26 rfl (lv_at hl 1 rfl) ?_
  refine mv_iald C X k2 0 rfl j rfl (by omega) (by decide) d_Line_wordAtT_27 ?_
  rw [es, ee]
  refine mv_bq X (mv_rV (rest := []) (As := [.int (nI G0), .int (nI T0)]) gt_good C X k_2_42 (cm_String_substring hE hJ hFT hTN (by omega) (fitB_tx hg) kt ktv wtv) kt rfl rfl ⟨Nat.le_of_ble_eq_true rfl, Nat.le_of_ble_eq_true rfl⟩ rfl hl.1 rfl (Nat.le_of_ble_eq_true rfl) d_Line_wordAtT_28 ⟨by show 0 + 2 ≤ 2; omega, by show 0 + (4 + (T0 - G0)) ≤ (4 + (wP f en bg (j + 1) - nF f en (wP f en bg j))); omega⟩) (fun r3 hN H locs hp X => ?_)
  obtain ⟨q, qa, u2, u3, g, er, fr, hs, hz, eg⟩ := hp
  subst er
  change W _ _ _ _ _ _ _ _ _ _ _ _ _ _ _ (F0 _ _ _ (.ref q :: _))
  refine lv_goto (tgt := 36) hx hb d_Line_wordAtT_31 (by decide) ?_
  exact mq_aret (r := some q) hQ C X hr (Or.inl ⟨_, rfl⟩) hlk (⟨q, qa, u2, u3, g, rfl, fr, by rw [eG0, eT0]; exact hs, by rw [eG0]; exact hz, by rw [eG0, eT0]; exact fun k hk => (eg k hk).trans (hg (G0 + k) (by omega)).1⟩) (by omega) (by omega) d_Line_wordAtT_36
theorem d_Line_wordAtF_0 : decode prog_3_method_5_code 0 = .ok (.iload_n 1, 1) := by decide +kernel
theorem d_Line_wordAtF_1 : decode prog_3_method_5_code 1 = .ok (.ifCond .lt 33, 3) := by decide +kernel
theorem d_Line_wordAtF_4 : decode prog_3_method_5_code 4 = .ok (.iload_n 1, 1) := by decide +kernel
theorem d_Line_wordAtF_5 : decode prog_3_method_5_code 5 = .ok (.aload_n 0, 1) := by decide +kernel
theorem d_Line_wordAtF_6 : decode prog_3_method_5_code 6 = .ok (.getfield 24, 3) := by decide +kernel
theorem d_Line_wordAtF_9 : decode prog_3_method_5_code 9 = .ok (.if_icmp .ge 25, 3) := by decide +kernel
theorem d_Line_wordAtF_34 : decode prog_3_method_5_code 34 = .ok (.ldc 18, 2) := by decide +kernel
theorem d_Line_wordAtF_36 : decode prog_3_method_5_code 36 = .ok (.areturn, 1) := by decide +kernel
set_option maxRecDepth 100000 in
set_option maxHeartbeats 4000000 in
theorem cm_Line_wordAtF {l : Launch} {S0 : State} {b : Nat} {D : va_G} {dT : Nat → ClassId} (hE : vEnv S0 b D dT) {h0 : vH} {a as1 ae1 t cw j : Nat} (hcw : cw ≤ 6) (hj6 : j < 6) (hj : cw ≤ j) {lt : Nat} {tx : String} (hlt : vk_R "MenuScreens$Line" 18 tx lt S0) (ka : h0 a = some (.inr (6, [.ref as1, .ref ae1, .ref t, .int (nI cw)]))) : vMq l S0 D vcl GT y_Line_wordAt prog_3_method_5_code 2 (some (.object "java/lang/String")) 0 0 0 0 [.ref a, .int (nI j)] h0 (fun r h' => h' = h0 ∧ r = some lt) := by
  unfold vMq
  refine vM_ofQ hE.1 (by decide) (Nat.le_of_ble_eq_true rfl) (fun p e s m args below meth c ls Q hQ C hr hlk hnm X hl => ?_)
  have C : vC p s m _ c _ _ "MenuScreens$Line" GT D vcl (vty dT) := C
  have hx := C.1.1
  have hb := C.1.2.1
  obtain ⟨H, eH⟩ : ∃ z, z = s.heap := ⟨_, rfl⟩
  obtain ⟨locs, elocs⟩ : ∃ z : List Loc, z = [] := ⟨_, rfl⟩
  rw [← eH, ← elocs] at X
  rw [← eH, ← elocs]
  clear eH elocs
  have hl : lv_has ls 2 [(0, .ref a), (1, .int (nI j))] := hl
  refine lv_iload_n hx hb d_Line_wordAtF_0 rfl (lv_at hl 1 rfl) ?_
  refine lv_if_lt (tgt := 34) hx hb d_Line_wordAtF_1 (by decide) (fun z => absurd z (nI_pos (by omega))) (fun c1 => ?_)
  refine lv_iload_n hx hb d_Line_wordAtF_4 rfl (lv_at hl 1 rfl) ?_
  refine lv_aload_n hx hb d_Line_wordAtF_5 rfl (lv_at hl 0 rfl) ?_
  refine mv_get C X ka 3 f_2_24_6 (v := .int (nI cw)) rfl d_Line_wordAtF_6 ?_
  refine lv_icmp_ge (tgt := 34) hx hb d_Line_wordAtF_9 (by decide) (fun c2 => ?_) (fun z => absurd (nI_le hj (by omega)) z)
  refine mv_ldcS C X hlt d_Line_wordAtF_34 ?_
  exact mq_aret (r := some lt) hQ C X hr (Or.inl ⟨_, rfl⟩) hlk (⟨rfl, rfl⟩) (by omega) (by omega) d_Line_wordAtF_36
theorem d_Line_nameAtT_0 : decode prog_3_method_6_code 0 = .ok (.iload_n 1, 1) := by decide +kernel
theorem d_Line_nameAtT_1 : decode prog_3_method_6_code 1 = .ok (.ifCond .lt 29, 3) := by decide +kernel
theorem d_Line_nameAtT_4 : decode prog_3_method_6_code 4 = .ok (.iload_n 1, 1) := by decide +kernel
theorem d_Line_nameAtT_5 : decode prog_3_method_6_code 5 = .ok (.aload_n 0, 1) := by decide +kernel
theorem d_Line_nameAtT_6 : decode prog_3_method_6_code 6 = .ok (.getfield 24, 3) := by decide +kernel
theorem d_Line_nameAtT_9 : decode prog_3_method_6_code 9 = .ok (.if_icmp .ge 21, 3) := by decide +kernel
theorem d_Line_nameAtT_12 : decode prog_3_method_6_code 12 = .ok (.aload_n 0, 1) := by decide +kernel
theorem d_Line_nameAtT_13 : decode prog_3_method_6_code 13 = .ok (.getfield 15, 3) := by decide +kernel
theorem d_Line_nameAtT_16 : decode prog_3_method_6_code 16 = .ok (.iload_n 1, 1) := by decide +kernel
theorem d_Line_nameAtT_17 : decode prog_3_method_6_code 17 = .ok (.iaload, 1) := by decide +kernel
theorem d_Line_nameAtT_18 : decode prog_3_method_6_code 18 = .ok (.aload_n 0, 1) := by decide +kernel
theorem d_Line_nameAtT_19 : decode prog_3_method_6_code 19 = .ok (.getfield 11, 3) := by decide +kernel
theorem d_Line_nameAtT_22 : decode prog_3_method_6_code 22 = .ok (.iload_n 1, 1) := by decide +kernel
theorem d_Line_nameAtT_23 : decode prog_3_method_6_code 23 = .ok (.iaload, 1) := by decide +kernel
theorem d_Line_nameAtT_24 : decode prog_3_method_6_code 24 = .ok (.isub, 1) := by decide +kernel
theorem d_Line_nameAtT_25 : decode prog_3_method_6_code 25 = .ok (.bipush 8, 2) := by decide +kernel
theorem d_Line_nameAtT_27 : decode prog_3_method_6_code 27 = .ok (.if_icmp .le 5, 3) := by decide +kernel
theorem d_Line_nameAtT_30 : decode prog_3_method_6_code 30 = .ok (.lconst 0, 1) := by decide +kernel
theorem d_Line_nameAtT_31 : decode prog_3_method_6_code 31 = .ok (.lreturn, 1) := by decide +kernel
theorem d_Line_nameAtT_32 : decode prog_3_method_6_code 32 = .ok (.lconst 0, 1) := by decide +kernel
theorem d_Line_nameAtT_33 : decode prog_3_method_6_code 33 = .ok (.lstore_n 2, 1) := by decide +kernel
theorem d_Line_nameAtT_34 : decode prog_3_method_6_code 34 = .ok (.aload_n 0, 1) := by decide +kernel
theorem d_Line_nameAtT_35 : decode prog_3_method_6_code 35 = .ok (.getfield 11, 3) := by decide +kernel
theorem d_Line_nameAtT_38 : decode prog_3_method_6_code 38 = .ok (.iload_n 1, 1) := by decide +kernel
theorem d_Line_nameAtT_39 : decode prog_3_method_6_code 39 = .ok (.iaload, 1) := by decide +kernel
theorem d_Line_nameAtT_40 : decode prog_3_method_6_code 40 = .ok (.istore 4, 2) := by decide +kernel
theorem d_Line_nameAtT_42 : decode prog_3_method_6_code 42 = .ok (.iload 4, 2) := by decide +kernel
theorem d_Line_nameAtT_44 : decode prog_3_method_6_code 44 = .ok (.aload_n 0, 1) := by decide +kernel
theorem d_Line_nameAtT_45 : decode prog_3_method_6_code 45 = .ok (.getfield 15, 3) := by decide +kernel
theorem d_Line_nameAtT_48 : decode prog_3_method_6_code 48 = .ok (.iload_n 1, 1) := by decide +kernel
theorem d_Line_nameAtT_49 : decode prog_3_method_6_code 49 = .ok (.iaload, 1) := by decide +kernel
theorem d_Line_nameAtT_50 : decode prog_3_method_6_code 50 = .ok (.if_icmp .ge 51, 3) := by decide +kernel
theorem d_Line_nameAtT_53 : decode prog_3_method_6_code 53 = .ok (.aload_n 0, 1) := by decide +kernel
theorem d_Line_nameAtT_54 : decode prog_3_method_6_code 54 = .ok (.getfield 20, 3) := by decide +kernel
theorem d_Line_nameAtT_57 : decode prog_3_method_6_code 57 = .ok (.iload 4, 2) := by decide +kernel
theorem d_Line_nameAtT_59 : decode prog_3_method_6_code 59 = .ok (.invokevirtual 34, 3) := by decide +kernel
theorem d_Line_nameAtT_62 : decode prog_3_method_6_code 62 = .ok (.istore 5, 2) := by decide +kernel
theorem d_Line_nameAtT_64 : decode prog_3_method_6_code 64 = .ok (.iload 5, 2) := by decide +kernel
theorem d_Line_nameAtT_66 : decode prog_3_method_6_code 66 = .ok (.bipush 97, 2) := by decide +kernel
theorem d_Line_nameAtT_68 : decode prog_3_method_6_code 68 = .ok (.if_icmp .lt 10, 3) := by decide +kernel
theorem d_Line_nameAtT_71 : decode prog_3_method_6_code 71 = .ok (.iload 5, 2) := by decide +kernel
theorem d_Line_nameAtT_73 : decode prog_3_method_6_code 73 = .ok (.bipush 122, 2) := by decide +kernel
theorem d_Line_nameAtT_75 : decode prog_3_method_6_code 75 = .ok (.if_icmp .le 5, 3) := by decide +kernel
theorem d_Line_nameAtT_78 : decode prog_3_method_6_code 78 = .ok (.lconst 0, 1) := by decide +kernel
theorem d_Line_nameAtT_79 : decode prog_3_method_6_code 79 = .ok (.lreturn, 1) := by decide +kernel
theorem d_Line_nameAtT_80 : decode prog_3_method_6_code 80 = .ok (.lload_n 2, 1) := by decide +kernel
theorem d_Line_nameAtT_81 : decode prog_3_method_6_code 81 = .ok (.ldc2_w 46, 3) := by decide +kernel
theorem d_Line_nameAtT_84 : decode prog_3_method_6_code 84 = .ok (.lmul, 1) := by decide +kernel
theorem d_Line_nameAtT_85 : decode prog_3_method_6_code 85 = .ok (.iload 5, 2) := by decide +kernel
theorem d_Line_nameAtT_87 : decode prog_3_method_6_code 87 = .ok (.bipush 97, 2) := by decide +kernel
theorem d_Line_nameAtT_89 : decode prog_3_method_6_code 89 = .ok (.isub, 1) := by decide +kernel
theorem d_Line_nameAtT_90 : decode prog_3_method_6_code 90 = .ok (.iconst 1, 1) := by decide +kernel
theorem d_Line_nameAtT_91 : decode prog_3_method_6_code 91 = .ok (.iadd, 1) := by decide +kernel
theorem d_Line_nameAtT_92 : decode prog_3_method_6_code 92 = .ok (.i2l, 1) := by decide +kernel
theorem d_Line_nameAtT_93 : decode prog_3_method_6_code 93 = .ok (.ladd, 1) := by decide +kernel
theorem d_Line_nameAtT_94 : decode prog_3_method_6_code 94 = .ok (.lstore_n 2, 1) := by decide +kernel
theorem d_Line_nameAtT_95 : decode prog_3_method_6_code 95 = .ok (.iinc 4 1, 3) := by decide +kernel
theorem d_Line_nameAtT_98 : decode prog_3_method_6_code 98 = .ok (.goto (-56), 3) := by decide +kernel
theorem d_Line_nameAtT_101 : decode prog_3_method_6_code 101 = .ok (.lload_n 2, 1) := by decide +kernel
theorem d_Line_nameAtT_102 : decode prog_3_method_6_code 102 = .ok (.lreturn, 1) := by decide +kernel
set_option maxRecDepth 100000 in
set_option maxHeartbeats 4000000 in
theorem cm_Line_nameAtT {l : Launch} {S0 : State} {b : Nat} {D : va_G} {dT : Nat → ClassId} (hE : vEnv S0 b D dT) {dE mO : Nat} (hJ : vJ S0 dE mO) {h0 : vH} {a as1 ae1 t tv cw N en bg j : Nat} {f fs fe f8 : Nat → Int32} {z2 z3 : Value} (hW : lnW f en bg cw fs fe) (hb0 : bg ≤ en) (he : en ≤ N) (hN : N ≤ 4000) (hg : ∀ k, k < N → f8 k = f k ∧ ∃ c0, 0 < c0 ∧ c0 < 128 ∧ f k = nI c0) (hj : j < cw) (ka : h0 a = some (.inr (6, [.ref as1, .ref ae1, .ref t, .int (nI cw)]))) (k1 : h0 as1 = some (.inl (dT 0, 6, .inl fs))) (k2 : h0 ae1 = some (.inl (dT 0, 6, .inl fe))) (kt : h0 t = some (.inr (0, [.ref tv, .int 0, z2, z3]))) (ktv : h0 tv = some (.inl (dT 2, N, .inl f8))) : vMl l S0 D vcl GT y_Line_nameAt prog_3_method_6_code 6 (some .long) 4 85 0 0 [.ref a, .int (nI j)] h0 (fun r h' => h' = h0 ∧ r = cNa f en bg cw j) := by
  unfold vMl
  refine vM_ofQ hE.1 (by decide) (Nat.le_of_ble_eq_true rfl) (fun p e s m args below meth c ls Q hQ C hr hlk hnm X hl => ?_)
  have C : vC p s m _ c _ _ "MenuScreens$Line" GT D vcl (vty dT) := C
  have hx := C.1.1
  have hb := C.1.2.1
  obtain ⟨H, eH⟩ : ∃ z, z = s.heap := ⟨_, rfl⟩
  obtain ⟨locs, elocs⟩ : ∃ z : List Loc, z = [] := ⟨_, rfl⟩
  rw [← eH, ← elocs] at X
  rw [← eH, ← elocs]
  clear eH elocs
  have hl : lv_has ls 6 [(0, .ref a), (1, .int (nI j))] := hl
  have hj6 : j < 6 := by have := hW.1; omega
  have hcw6 : cw ≤ 6 := hW.1
  obtain ⟨es, ee⟩ := hW.2.2.2 j hj
  have hw := hW.2.1 j hj
  obtain ⟨G0, eG0⟩ : ∃ z, nF f en (wP f en bg j) = z := ⟨_, rfl⟩
  obtain ⟨T0, eT0⟩ : ∃ z, wP f en bg (j + 1) = z := ⟨_, rfl⟩
  have hFT : G0 < T0 := by rw [← eG0, ← eT0]; exact of_decide_eq_true hw
  have hTN : T0 ≤ N := by rw [← eT0]; exact Nat.le_trans (wP_in hb0 (j + 1)).2 he
  rw [eG0] at es
  rw [eT0] at ee
  refine lv_iload_n hx hb d_Line_nameAtT_0 rfl (lv_at hl 1 rfl) ?_
  refine lv_if_lt (tgt := 30) hx hb d_Line_nameAtT_1 (by decide) (fun z => absurd z (nI_pos (by omega))) (fun c1 => ?_)
  refine lv_iload_n hx hb d_Line_nameAtT_4 rfl (lv_at hl 1 rfl) ?_
  refine lv_aload_n hx hb d_Line_nameAtT_5 rfl (lv_at hl 0 rfl) ?_
  refine mv_get C X ka 3 f_2_24_6 (v := .int (nI cw)) rfl d_Line_nameAtT_6 ?_
  refine lv_icmp_ge (tgt := 30) hx hb d_Line_nameAtT_9 (by decide) (fun z => absurd z (nI_ge (a := j) (b := cw) hj (by omega))) (fun c2 => ?_)
  refine lv_aload_n hx hb d_Line_nameAtT_12 rfl (lv_at hl 0 rfl) ?_
  refine mv_get C X ka 1 f_2_15_6 (v := .ref ae1) rfl d_Line_nameAtT_13 ?_
  refine lv_iload_n hx hb d_Line_nameAtT_16 rfl (lv_at hl 1 rfl) ?_
  refine mv_iald C X k2 0 rfl j rfl (by omega) (by decide) d_Line_nameAtT_17 ?_
  refine lv_aload_n hx hb d_Line_nameAtT_18 rfl (lv_at hl 0 rfl) ?_
  refine mv_get C X ka 0 f_2_11_6 (v := .ref as1) rfl d_Line_nameAtT_19 ?_
  refine lv_iload_n hx hb d_Line_nameAtT_22 rfl (lv_at hl 1 rfl) ?_
  refine mv_iald C X k1 0 rfl j rfl (by omega) (by decide) d_Line_nameAtT_23 ?_
  refine lv_isub hx hb d_Line_nameAtT_24 ?_
  rw [ee, es, nI_sub (Nat.le_of_lt hFT)]
  refine lv_bipush (v := 8) hx hb d_Line_nameAtT_25 (by decide) ?_
  refine lv_icmp_le (tgt := 32) hx hb d_Line_nameAtT_27 (by decide) (fun c3 => ?_) (fun c3 => ?_)
  · skip
    refine lv_lconst (v := 0) hx hb d_Line_nameAtT_32 (by decide) ?_
    refine lv_lstore_n (lv' := [(2, .long 0), (0, .ref a), (1, .int (nI j))]) hx hb d_Line_nameAtT_33 rfl hl (by decide) rfl (fun ls hl => ?_)
    refine lv_aload_n hx hb d_Line_nameAtT_34 rfl (lv_at hl 1 rfl) ?_
    refine mv_get C X ka 0 f_2_11_6 (v := .ref as1) rfl d_Line_nameAtT_35 ?_
    refine lv_iload_n hx hb d_Line_nameAtT_38 rfl (lv_at hl 2 rfl) ?_
    refine mv_iald C X k1 0 rfl j rfl (by omega) (by decide) d_Line_nameAtT_39 ?_
    refine lv_istore (lv' := [(4, .int (fs j)), (2, .long 0), (0, .ref a), (1, .int (nI j))]) hx hb d_Line_nameAtT_40 hl (by decide) rfl (fun ls hl => ?_)
    have lp : ∀ (n_lp : Nat) (k : Nat) (i : Int32) (u : Int64) (ls : Array Slot) (H : Heap) (locs : List Loc), (i = nI k) → (G0 ≤ k) → (k ≤ T0) → (u = lN (cdN 32 (ltN f) G0 (k - G0))) → (nmB f G0 (k - G0) = true) → (T0 - k) < n_lp → vO S0 D vcl h0 s H locs → lv_has ls 6 [(0, .ref a), (1, .int (nI j)), (2, .long u), (4, .int i)] → W p l e (vRm 4 85 0 0) s m args below meth c H locs 0 0 Q (F0 m 42 ls []) := by
      intro n_lp
      induction n_lp with
      | zero => intros; exact absurd (by assumption) (Nat.not_lt_zero _)
      | succ n_lp ih_lp =>
        intro k i u ls H locs ei hk1 hk2 eu ha hmu_lp X hl
        refine lv_iload hx hb d_Line_nameAtT_42 (lv_at hl 3 rfl) ?_
        refine lv_aload_n hx hb d_Line_nameAtT_44 rfl (lv_at hl 0 rfl) ?_
        refine mv_get C X ka 1 f_2_15_6 (v := .ref ae1) rfl d_Line_nameAtT_45 ?_
        refine lv_iload_n hx hb d_Line_nameAtT_48 rfl (lv_at hl 1 rfl) ?_
        refine mv_iald C X k2 0 rfl j rfl (by omega) (by decide) d_Line_nameAtT_49 ?_
        refine lv_icmp_ge (tgt := 101) hx hb d_Line_nameAtT_50 (by decide) (fun c4 => ?_) (fun c4 => ?_)
        · skip
          refine lv_lload_n hx hb d_Line_nameAtT_101 rfl (lv_at hl 2 rfl) ?_
          exact mq_lret hQ C X hr hlk (⟨rfl, by
              have hkT : k = T0 := by
                have := (nI_leI (a := T0) (b := k) (by omega) (by omega)).mp (by rw [← ei, ← ee]; exact c4)
                omega
              have h8 : T0 - G0 ≤ 8 := (nI_leI (b := 8) (by omega) (by decide)).mp c3
              rw [hkT] at eu ha
              rw [cNa, if_pos hj, eG0, eT0, nmL, if_pos (by rw [isNm, ha, decide_eq_true (show 0 < T0 - G0 by omega), decide_eq_true h8]; rfl), nmN]; exact eu⟩) (by omega) (by omega) d_Line_nameAtT_102
        · skip
          have hkn : k < T0 := by
            rcases Nat.lt_or_ge k T0 with q | q
            · exact q
            · exact absurd (by rw [ei, ee]; exact nI_le q (by omega)) c4
          obtain ⟨hc4, c0, hc1, hc2, hc3⟩ := hg k (by omega)
          refine lv_aload_n hx hb d_Line_nameAtT_53 rfl (lv_at hl 0 rfl) ?_
          refine mv_get C X ka 2 f_2_20_6 (v := .ref t) rfl d_Line_nameAtT_54 ?_
          refine lv_iload hx hb d_Line_nameAtT_57 (lv_at hl 3 rfl) ?_
          rw [ei]
          refine mv_bi X (mv_rV (rest := []) (As := [.int (nI k)]) gt_good C X k_2_34 (cm_String_charAt hE hJ (by omega) (j := k) (by omega) (hc4.trans hc3) hc2 kt ktv) kt rfl rfl ⟨Nat.le_of_ble_eq_true rfl, Nat.le_of_ble_eq_true rfl⟩ rfl hl.1 rfl (Nat.le_of_ble_eq_true rfl) d_Line_nameAtT_59 ⟨Nat.zero_le _, Nat.zero_le _⟩) (fun r5 hN H locs hp X => ?_)
          obtain ⟨eh, er⟩ := hp
          replace eh := eh.symm
          replace er := er.symm
          subst eh er
          refine lv_istore (lv' := [(5, .int (nI c0)), (0, .ref a), (1, .int (nI j)), (2, .long u), (4, .int i)]) hx hb d_Line_nameAtT_62 hl (by decide) rfl (fun ls hl => ?_)
          refine lv_iload hx hb d_Line_nameAtT_64 (lv_at hl 0 rfl) ?_
          refine lv_bipush (v := 97) hx hb d_Line_nameAtT_66 (by decide) ?_
          refine lv_icmp_lt (tgt := 78) hx hb d_Line_nameAtT_68 (by decide) (fun c6 => ?_) (fun c6 => ?_)
          · skip
            refine lv_lconst (v := 0) hx hb d_Line_nameAtT_78 (by decide) ?_
            exact mq_lret hQ C X hr hlk (⟨rfl, by
                have hb1 : nmB f G0 (T0 - G0) = false := nmB_f (k := k - G0) (by omega) (by rw [show G0 + (k - G0) = k by omega]; exact fun z => absurd z.1 (by rw [hc3]; exact Int32.not_le.mpr c6))
                rw [cNa, if_pos hj, eG0, eT0, nmL, if_neg (by rw [isNm, hb1, Bool.and_false]; simp)]⟩) (by omega) (by omega) d_Line_nameAtT_79
          · skip
            refine lv_iload hx hb d_Line_nameAtT_71 (lv_at hl 0 rfl) ?_
            refine lv_bipush (v := 122) hx hb d_Line_nameAtT_73 (by decide) ?_
            refine lv_icmp_le (tgt := 80) hx hb d_Line_nameAtT_75 (by decide) (fun c7 => ?_) (fun c7 => ?_)
            · skip
              have h97 : 97 ≤ c0 := (nI_leI (a := 97) (by decide) (by omega)).mp (Int32.not_lt.mp c6)
              have h122 : c0 ≤ 122 := (nI_leI (b := 122) (by omega) (by decide)).mp c7
              refine lv_lload_n hx hb d_Line_nameAtT_80 rfl (lv_at hl 3 rfl) ?_
              refine lv_ldc2 (v := 32) hx hb C.1.2.2.2.1 (C.1.2.2.2.2 _ (gt_3 35 (by decide +kernel) rfl)) d_Line_nameAtT_81 ?_
              refine lv_lmul hx hb d_Line_nameAtT_84 ?_
              refine lv_iload hx hb d_Line_nameAtT_85 (lv_at hl 0 rfl) ?_
              refine lv_bipush (v := 97) hx hb d_Line_nameAtT_87 (by decide) ?_
              refine lv_isub hx hb d_Line_nameAtT_89 ?_
              refine lv_iconst (v := 1) hx hb d_Line_nameAtT_90 (by decide) ?_
              refine lv_iadd hx hb d_Line_nameAtT_91 ?_
              refine lv_i2l (v := ((((nI c0) - 97) + 1) : Int32).toInt64) hx hb d_Line_nameAtT_92 rfl ?_
              refine lv_ladd hx hb d_Line_nameAtT_93 ?_
              refine lv_lstore_n (lv' := [(2, .long ((u * 32) + (((((nI c0) - 97) + 1) : Int32).toInt64))), (5, .int (nI c0)), (0, .ref a), (1, .int (nI j)), (4, .int i)]) hx hb d_Line_nameAtT_94 rfl hl (by decide) rfl (fun ls hl => ?_)
              refine lv_iinc (v := (i + 1)) (lv' := [(4, .int (i + 1)), (2, .long ((u * 32) + (((((nI c0) - 97) + 1) : Int32).toInt64))), (5, .int (nI c0)), (0, .ref a), (1, .int (nI j))]) hx hb d_Line_nameAtT_95 hl (k := 4) rfl rfl (by decide) rfl (fun ls hl => ?_)
              refine lv_goto (tgt := 42) hx hb d_Line_nameAtT_98 (by decide) ?_
              exact ih_lp (k + 1) (i + 1) ((u * 32) + (((((nI c0) - 97) + 1) : Int32).toInt64)) ls _ _ (by rw [ei]; exact nI_1 k) (by omega) (by omega) (by rw [eu, cdN_s hk1, ltN, hc3, nI_clamp (by omega), show (nI c0 - 97 + 1 : Int32) = nI (c0 - 96) from by rw [show nI c0 - 97 = nI (c0 - 97) from nI_sub (b := 97) h97, nI_1, show c0 - 97 + 1 = c0 - 96 by omega], nI_l (by omega), show (32 : Int64) = lN 32 from rfl, lN_mul, lN_add]) (by rw [nmB_s hk1, ha, hc3, decide_eq_true (show (97 : Int32) ≤ nI c0 from nI_le (a := 97) h97 (by omega)), decide_eq_true (show nI c0 ≤ (122 : Int32) from nI_le (b := 122) h122 (by decide))]; rfl) (by omega) X (lv_sub hl [3, 4, 1, 0] rfl)
            · skip
              refine lv_lconst (v := 0) hx hb d_Line_nameAtT_78 (by decide) ?_
              exact mq_lret hQ C X hr hlk (⟨rfl, by
                  have hb1 : nmB f G0 (T0 - G0) = false := nmB_f (k := k - G0) (by omega) (by rw [show G0 + (k - G0) = k by omega]; exact fun z => absurd z.2 (by rw [hc3]; exact c7))
                  rw [cNa, if_pos hj, eG0, eT0, nmL, if_neg (by rw [isNm, hb1, Bool.and_false]; simp)]⟩) (by omega) (by omega) d_Line_nameAtT_79
    exact lp (T0 - G0 + 1) G0 (fs j) 0 ls _ _ es (Nat.le_refl _) (Nat.le_of_lt hFT) (by rw [Nat.sub_self]; rfl) (by rw [Nat.sub_self]; rfl) (Nat.lt_succ_self _) X (lv_sub hl [2, 3, 1, 0] rfl)
  · skip
    refine lv_lconst (v := 0) hx hb d_Line_nameAtT_30 (by decide) ?_
    exact mq_lret hQ C X hr hlk (⟨rfl, by
        have h8 : ¬ T0 - G0 ≤ 8 := fun z => c3 (nI_le (b := 8) z (by decide))
        rw [cNa, if_pos hj, eG0, eT0, nmL, if_neg (by rw [isNm, decide_eq_false h8, Bool.and_false]; simp)]⟩) (by omega) (by omega) d_Line_nameAtT_31
theorem d_Line_nameAtF_0 : decode prog_3_method_6_code 0 = .ok (.iload_n 1, 1) := by decide +kernel
theorem d_Line_nameAtF_1 : decode prog_3_method_6_code 1 = .ok (.ifCond .lt 29, 3) := by decide +kernel
theorem d_Line_nameAtF_4 : decode prog_3_method_6_code 4 = .ok (.iload_n 1, 1) := by decide +kernel
theorem d_Line_nameAtF_5 : decode prog_3_method_6_code 5 = .ok (.aload_n 0, 1) := by decide +kernel
theorem d_Line_nameAtF_6 : decode prog_3_method_6_code 6 = .ok (.getfield 24, 3) := by decide +kernel
theorem d_Line_nameAtF_9 : decode prog_3_method_6_code 9 = .ok (.if_icmp .ge 21, 3) := by decide +kernel
theorem d_Line_nameAtF_30 : decode prog_3_method_6_code 30 = .ok (.lconst 0, 1) := by decide +kernel
theorem d_Line_nameAtF_31 : decode prog_3_method_6_code 31 = .ok (.lreturn, 1) := by decide +kernel
set_option maxRecDepth 100000 in
set_option maxHeartbeats 4000000 in
theorem cm_Line_nameAtF {l : Launch} {S0 : State} {b : Nat} {D : va_G} {dT : Nat → ClassId} (hE : vEnv S0 b D dT) {h0 : vH} {a as1 ae1 t cw j : Nat} (hcw : cw ≤ 6) (hj6 : j < 6) (hj : cw ≤ j) (ka : h0 a = some (.inr (6, [.ref as1, .ref ae1, .ref t, .int (nI cw)]))) : vMl l S0 D vcl GT y_Line_nameAt prog_3_method_6_code 6 (some .long) 0 0 0 0 [.ref a, .int (nI j)] h0 (fun r h' => h' = h0 ∧ r = 0) := by
  unfold vMl
  refine vM_ofQ hE.1 (by decide) (Nat.le_of_ble_eq_true rfl) (fun p e s m args below meth c ls Q hQ C hr hlk hnm X hl => ?_)
  have C : vC p s m _ c _ _ "MenuScreens$Line" GT D vcl (vty dT) := C
  have hx := C.1.1
  have hb := C.1.2.1
  obtain ⟨H, eH⟩ : ∃ z, z = s.heap := ⟨_, rfl⟩
  obtain ⟨locs, elocs⟩ : ∃ z : List Loc, z = [] := ⟨_, rfl⟩
  rw [← eH, ← elocs] at X
  rw [← eH, ← elocs]
  clear eH elocs
  have hl : lv_has ls 6 [(0, .ref a), (1, .int (nI j))] := hl
  refine lv_iload_n hx hb d_Line_nameAtF_0 rfl (lv_at hl 1 rfl) ?_
  refine lv_if_lt (tgt := 30) hx hb d_Line_nameAtF_1 (by decide) (fun z => absurd z (nI_pos (by omega))) (fun c1 => ?_)
  refine lv_iload_n hx hb d_Line_nameAtF_4 rfl (lv_at hl 1 rfl) ?_
  refine lv_aload_n hx hb d_Line_nameAtF_5 rfl (lv_at hl 0 rfl) ?_
  refine mv_get C X ka 3 f_2_24_6 (v := .int (nI cw)) rfl d_Line_nameAtF_6 ?_
  refine lv_icmp_ge (tgt := 30) hx hb d_Line_nameAtF_9 (by decide) (fun c2 => ?_) (fun z => absurd (nI_le hj (by omega)) z)
  refine lv_lconst (v := 0) hx hb d_Line_nameAtF_30 (by decide) ?_
  exact mq_lret hQ C X hr hlk (⟨rfl, rfl⟩) (by omega) (by omega) d_Line_nameAtF_31
theorem d_Line_numberAtT_0 : decode prog_3_method_7_code 0 = .ok (.iload_n 1, 1) := by decide +kernel
theorem d_Line_numberAtT_1 : decode prog_3_method_7_code 1 = .ok (.ifCond .lt 11, 3) := by decide +kernel
theorem d_Line_numberAtT_4 : decode prog_3_method_7_code 4 = .ok (.iload_n 1, 1) := by decide +kernel
theorem d_Line_numberAtT_5 : decode prog_3_method_7_code 5 = .ok (.aload_n 0, 1) := by decide +kernel
theorem d_Line_numberAtT_6 : decode prog_3_method_7_code 6 = .ok (.getfield 24, 3) := by decide +kernel
theorem d_Line_numberAtT_9 : decode prog_3_method_7_code 9 = .ok (.if_icmp .lt 6, 3) := by decide +kernel
theorem d_Line_numberAtT_15 : decode prog_3_method_7_code 15 = .ok (.aload_n 0, 1) := by decide +kernel
theorem d_Line_numberAtT_16 : decode prog_3_method_7_code 16 = .ok (.getfield 20, 3) := by decide +kernel
theorem d_Line_numberAtT_19 : decode prog_3_method_7_code 19 = .ok (.aload_n 0, 1) := by decide +kernel
theorem d_Line_numberAtT_20 : decode prog_3_method_7_code 20 = .ok (.getfield 11, 3) := by decide +kernel
theorem d_Line_numberAtT_23 : decode prog_3_method_7_code 23 = .ok (.iload_n 1, 1) := by decide +kernel
theorem d_Line_numberAtT_24 : decode prog_3_method_7_code 24 = .ok (.iaload, 1) := by decide +kernel
theorem d_Line_numberAtT_25 : decode prog_3_method_7_code 25 = .ok (.invokevirtual 34, 3) := by decide +kernel
theorem d_Line_numberAtT_28 : decode prog_3_method_7_code 28 = .ok (.bipush 45, 2) := by decide +kernel
theorem d_Line_numberAtT_30 : decode prog_3_method_7_code 30 = .ok (.if_icmp .ne 7, 3) := by decide +kernel
theorem d_Line_numberAtT_33 : decode prog_3_method_7_code 33 = .ok (.iconst 1, 1) := by decide +kernel
theorem d_Line_numberAtT_34 : decode prog_3_method_7_code 34 = .ok (.goto 4, 3) := by decide +kernel
theorem d_Line_numberAtT_37 : decode prog_3_method_7_code 37 = .ok (.iconst 0, 1) := by decide +kernel
theorem d_Line_numberAtT_38 : decode prog_3_method_7_code 38 = .ok (.istore_n 2, 1) := by decide +kernel
theorem d_Line_numberAtT_39 : decode prog_3_method_7_code 39 = .ok (.iload_n 2, 1) := by decide +kernel
theorem d_Line_numberAtT_40 : decode prog_3_method_7_code 40 = .ok (.ifCond .eq 14, 3) := by decide +kernel
theorem d_Line_numberAtT_43 : decode prog_3_method_7_code 43 = .ok (.aload_n 0, 1) := by decide +kernel
theorem d_Line_numberAtT_44 : decode prog_3_method_7_code 44 = .ok (.getfield 11, 3) := by decide +kernel
theorem d_Line_numberAtT_47 : decode prog_3_method_7_code 47 = .ok (.iload_n 1, 1) := by decide +kernel
theorem d_Line_numberAtT_48 : decode prog_3_method_7_code 48 = .ok (.iaload, 1) := by decide +kernel
theorem d_Line_numberAtT_49 : decode prog_3_method_7_code 49 = .ok (.iconst 1, 1) := by decide +kernel
theorem d_Line_numberAtT_50 : decode prog_3_method_7_code 50 = .ok (.iadd, 1) := by decide +kernel
theorem d_Line_numberAtT_51 : decode prog_3_method_7_code 51 = .ok (.goto 9, 3) := by decide +kernel
theorem d_Line_numberAtT_54 : decode prog_3_method_7_code 54 = .ok (.aload_n 0, 1) := by decide +kernel
theorem d_Line_numberAtT_55 : decode prog_3_method_7_code 55 = .ok (.getfield 11, 3) := by decide +kernel
theorem d_Line_numberAtT_58 : decode prog_3_method_7_code 58 = .ok (.iload_n 1, 1) := by decide +kernel
theorem d_Line_numberAtT_59 : decode prog_3_method_7_code 59 = .ok (.iaload, 1) := by decide +kernel
theorem d_Line_numberAtT_60 : decode prog_3_method_7_code 60 = .ok (.istore_n 3, 1) := by decide +kernel
theorem d_Line_numberAtT_61 : decode prog_3_method_7_code 61 = .ok (.aload_n 0, 1) := by decide +kernel
theorem d_Line_numberAtT_62 : decode prog_3_method_7_code 62 = .ok (.getfield 15, 3) := by decide +kernel
theorem d_Line_numberAtT_65 : decode prog_3_method_7_code 65 = .ok (.iload_n 1, 1) := by decide +kernel
theorem d_Line_numberAtT_66 : decode prog_3_method_7_code 66 = .ok (.iaload, 1) := by decide +kernel
theorem d_Line_numberAtT_67 : decode prog_3_method_7_code 67 = .ok (.iload_n 3, 1) := by decide +kernel
theorem d_Line_numberAtT_68 : decode prog_3_method_7_code 68 = .ok (.isub, 1) := by decide +kernel
theorem d_Line_numberAtT_69 : decode prog_3_method_7_code 69 = .ok (.istore 4, 2) := by decide +kernel
theorem d_Line_numberAtT_71 : decode prog_3_method_7_code 71 = .ok (.iload 4, 2) := by decide +kernel
theorem d_Line_numberAtT_73 : decode prog_3_method_7_code 73 = .ok (.iconst 1, 1) := by decide +kernel
theorem d_Line_numberAtT_74 : decode prog_3_method_7_code 74 = .ok (.if_icmp .lt 10, 3) := by decide +kernel
theorem d_Line_numberAtT_77 : decode prog_3_method_7_code 77 = .ok (.iload 4, 2) := by decide +kernel
theorem d_Line_numberAtT_79 : decode prog_3_method_7_code 79 = .ok (.bipush 6, 2) := by decide +kernel
theorem d_Line_numberAtT_81 : decode prog_3_method_7_code 81 = .ok (.if_icmp .le 6, 3) := by decide +kernel
theorem d_Line_numberAtT_84 : decode prog_3_method_7_code 84 = .ok (.ldc 48, 2) := by decide +kernel
theorem d_Line_numberAtT_86 : decode prog_3_method_7_code 86 = .ok (.ireturn, 1) := by decide +kernel
theorem d_Line_numberAtT_87 : decode prog_3_method_7_code 87 = .ok (.iconst 0, 1) := by decide +kernel
theorem d_Line_numberAtT_88 : decode prog_3_method_7_code 88 = .ok (.istore 5, 2) := by decide +kernel
theorem d_Line_numberAtT_90 : decode prog_3_method_7_code 90 = .ok (.iload_n 3, 1) := by decide +kernel
theorem d_Line_numberAtT_91 : decode prog_3_method_7_code 91 = .ok (.istore 6, 2) := by decide +kernel
theorem d_Line_numberAtT_93 : decode prog_3_method_7_code 93 = .ok (.iload 6, 2) := by decide +kernel
theorem d_Line_numberAtT_95 : decode prog_3_method_7_code 95 = .ok (.aload_n 0, 1) := by decide +kernel
theorem d_Line_numberAtT_96 : decode prog_3_method_7_code 96 = .ok (.getfield 15, 3) := by decide +kernel
theorem d_Line_numberAtT_99 : decode prog_3_method_7_code 99 = .ok (.iload_n 1, 1) := by decide +kernel
theorem d_Line_numberAtT_100 : decode prog_3_method_7_code 100 = .ok (.iaload, 1) := by decide +kernel
theorem d_Line_numberAtT_101 : decode prog_3_method_7_code 101 = .ok (.if_icmp .ge 50, 3) := by decide +kernel
theorem d_Line_numberAtT_104 : decode prog_3_method_7_code 104 = .ok (.aload_n 0, 1) := by decide +kernel
theorem d_Line_numberAtT_105 : decode prog_3_method_7_code 105 = .ok (.getfield 20, 3) := by decide +kernel
theorem d_Line_numberAtT_108 : decode prog_3_method_7_code 108 = .ok (.iload 6, 2) := by decide +kernel
theorem d_Line_numberAtT_110 : decode prog_3_method_7_code 110 = .ok (.invokevirtual 34, 3) := by decide +kernel
theorem d_Line_numberAtT_113 : decode prog_3_method_7_code 113 = .ok (.istore 7, 2) := by decide +kernel
theorem d_Line_numberAtT_115 : decode prog_3_method_7_code 115 = .ok (.iload 7, 2) := by decide +kernel
theorem d_Line_numberAtT_117 : decode prog_3_method_7_code 117 = .ok (.bipush 48, 2) := by decide +kernel
theorem d_Line_numberAtT_119 : decode prog_3_method_7_code 119 = .ok (.if_icmp .lt 10, 3) := by decide +kernel
theorem d_Line_numberAtT_122 : decode prog_3_method_7_code 122 = .ok (.iload 7, 2) := by decide +kernel
theorem d_Line_numberAtT_124 : decode prog_3_method_7_code 124 = .ok (.bipush 57, 2) := by decide +kernel
theorem d_Line_numberAtT_126 : decode prog_3_method_7_code 126 = .ok (.if_icmp .le 6, 3) := by decide +kernel
theorem d_Line_numberAtT_129 : decode prog_3_method_7_code 129 = .ok (.ldc 48, 2) := by decide +kernel
theorem d_Line_numberAtT_131 : decode prog_3_method_7_code 131 = .ok (.ireturn, 1) := by decide +kernel
theorem d_Line_numberAtT_132 : decode prog_3_method_7_code 132 = .ok (.iload 5, 2) := by decide +kernel
theorem d_Line_numberAtT_134 : decode prog_3_method_7_code 134 = .ok (.bipush 10, 2) := by decide +kernel
theorem d_Line_numberAtT_136 : decode prog_3_method_7_code 136 = .ok (.imul, 1) := by decide +kernel
theorem d_Line_numberAtT_137 : decode prog_3_method_7_code 137 = .ok (.iload 7, 2) := by decide +kernel
theorem d_Line_numberAtT_139 : decode prog_3_method_7_code 139 = .ok (.bipush 48, 2) := by decide +kernel
theorem d_Line_numberAtT_141 : decode prog_3_method_7_code 141 = .ok (.isub, 1) := by decide +kernel
theorem d_Line_numberAtT_142 : decode prog_3_method_7_code 142 = .ok (.iadd, 1) := by decide +kernel
theorem d_Line_numberAtT_143 : decode prog_3_method_7_code 143 = .ok (.istore 5, 2) := by decide +kernel
theorem d_Line_numberAtT_145 : decode prog_3_method_7_code 145 = .ok (.iinc 6 1, 3) := by decide +kernel
theorem d_Line_numberAtT_148 : decode prog_3_method_7_code 148 = .ok (.goto (-55), 3) := by decide +kernel
theorem d_Line_numberAtT_151 : decode prog_3_method_7_code 151 = .ok (.iload_n 2, 1) := by decide +kernel
theorem d_Line_numberAtT_152 : decode prog_3_method_7_code 152 = .ok (.ifCond .eq 9, 3) := by decide +kernel
theorem d_Line_numberAtT_155 : decode prog_3_method_7_code 155 = .ok (.iload 5, 2) := by decide +kernel
theorem d_Line_numberAtT_157 : decode prog_3_method_7_code 157 = .ok (.ineg, 1) := by decide +kernel
theorem d_Line_numberAtT_158 : decode prog_3_method_7_code 158 = .ok (.goto 5, 3) := by decide +kernel
theorem d_Line_numberAtT_161 : decode prog_3_method_7_code 161 = .ok (.iload 5, 2) := by decide +kernel
theorem d_Line_numberAtT_163 : decode prog_3_method_7_code 163 = .ok (.ireturn, 1) := by decide +kernel
set_option maxRecDepth 100000 in
set_option maxHeartbeats 4000000 in
theorem cm_Line_numberAtT {l : Launch} {S0 : State} {b : Nat} {D : va_G} {dT : Nat → ClassId} (hE : vEnv S0 b D dT) {dE mO : Nat} (hJ : vJ S0 dE mO) {h0 : vH} {a as1 ae1 t tv cw N en bg j : Nat} {f fs fe f8 : Nat → Int32} {z2 z3 : Value} (hW : lnW f en bg cw fs fe) (hb0 : bg ≤ en) (he : en ≤ N) (hN : N ≤ 4000) (hg : ∀ k, k < N → f8 k = f k ∧ ∃ c0, 0 < c0 ∧ c0 < 128 ∧ f k = nI c0) (hj : j < cw) (ka : h0 a = some (.inr (6, [.ref as1, .ref ae1, .ref t, .int (nI cw)]))) (k1 : h0 as1 = some (.inl (dT 0, 6, .inl fs))) (k2 : h0 ae1 = some (.inl (dT 0, 6, .inl fe))) (kt : h0 t = some (.inr (0, [.ref tv, .int 0, z2, z3]))) (ktv : h0 tv = some (.inl (dT 2, N, .inl f8))) : vMi l S0 D vcl GT y_Line_numberAt prog_3_method_7_code 8 (some .int) 4 85 0 0 [.ref a, .int (nI j)] h0 (fun r h' => h' = h0 ∧ r = cNi f en bg cw j) := by
  unfold vMi
  refine vM_ofQ hE.1 (by decide) (Nat.le_of_ble_eq_true rfl) (fun p e s m args below meth c ls Q hQ C hr hlk hnm X hl => ?_)
  have C : vC p s m _ c _ _ "MenuScreens$Line" GT D vcl (vty dT) := C
  have hx := C.1.1
  have hb := C.1.2.1
  obtain ⟨H, eH⟩ : ∃ z, z = s.heap := ⟨_, rfl⟩
  obtain ⟨locs, elocs⟩ : ∃ z : List Loc, z = [] := ⟨_, rfl⟩
  rw [← eH, ← elocs] at X
  rw [← eH, ← elocs]
  clear eH elocs
  have hl : lv_has ls 8 [(0, .ref a), (1, .int (nI j))] := hl
  have hj6 : j < 6 := by have := hW.1; omega
  have hcw6 : cw ≤ 6 := hW.1
  obtain ⟨es, ee⟩ := hW.2.2.2 j hj
  have hw := hW.2.1 j hj
  obtain ⟨G0, eG0⟩ : ∃ z, nF f en (wP f en bg j) = z := ⟨_, rfl⟩
  obtain ⟨T0, eT0⟩ : ∃ z, wP f en bg (j + 1) = z := ⟨_, rfl⟩
  have hFT : G0 < T0 := by rw [← eG0, ← eT0]; exact of_decide_eq_true hw
  have hTN : T0 ≤ N := by rw [← eT0]; exact Nat.le_trans (wP_in hb0 (j + 1)).2 he
  rw [eG0] at es
  rw [eT0] at ee
  refine lv_iload_n hx hb d_Line_numberAtT_0 rfl (lv_at hl 1 rfl) ?_
  refine lv_if_lt (tgt := 12) hx hb d_Line_numberAtT_1 (by decide) (fun z => absurd z (nI_pos (by omega))) (fun c1 => ?_)
  refine lv_iload_n hx hb d_Line_numberAtT_4 rfl (lv_at hl 1 rfl) ?_
  refine lv_aload_n hx hb d_Line_numberAtT_5 rfl (lv_at hl 0 rfl) ?_
  refine mv_get C X ka 3 f_2_24_6 (v := .int (nI cw)) rfl d_Line_numberAtT_6 ?_
  refine lv_icmp_lt (tgt := 15) hx hb d_Line_numberAtT_9 (by decide) (fun c2 => ?_) (fun z => absurd (nI_lt hj (by omega)) z)
  refine lv_aload_n hx hb d_Line_numberAtT_15 rfl (lv_at hl 0 rfl) ?_
  refine mv_get C X ka 2 f_2_20_6 (v := .ref t) rfl d_Line_numberAtT_16 ?_
  refine lv_aload_n hx hb d_Line_numberAtT_19 rfl (lv_at hl 0 rfl) ?_
  refine mv_get C X ka 0 f_2_11_6 (v := .ref as1) rfl d_Line_numberAtT_20 ?_
  refine lv_iload_n hx hb d_Line_numberAtT_23 rfl (lv_at hl 1 rfl) ?_
  refine mv_iald C X k1 0 rfl j rfl (by omega) (by decide) d_Line_numberAtT_24 ?_
  rw [es]
  obtain ⟨hc4, c1, hc5, hc6, hc7⟩ := hg G0 (by omega)
  refine mv_bi X (mv_rV (rest := []) (As := [.int (nI G0)]) gt_good C X k_2_34 (cm_String_charAt hE hJ (by omega) (j := G0) (by omega) (hc4.trans hc7) hc6 kt ktv) kt rfl rfl ⟨Nat.le_of_ble_eq_true rfl, Nat.le_of_ble_eq_true rfl⟩ rfl hl.1 rfl (Nat.le_of_ble_eq_true rfl) d_Line_numberAtT_25 ⟨Nat.zero_le _, Nat.zero_le _⟩) (fun r3 hN H locs hp X => ?_)
  obtain ⟨eh, er⟩ := hp
  replace eh := eh.symm
  replace er := er.symm
  subst eh er
  refine lv_bipush (v := 45) hx hb d_Line_numberAtT_28 (by decide) ?_
  refine lv_icmp_ne (tgt := 37) hx hb d_Line_numberAtT_30 (by decide) (fun c4 => ?_) (fun c4 => ?_)
  · skip
    refine lv_iconst (v := 0) hx hb d_Line_numberAtT_37 (by decide) ?_
    have hng : ¬ f G0 = 45 := by rw [hc7]; exact c4
    obtain ⟨D0, eD⟩ : ∃ z, z = G0 := ⟨_, rfl⟩
    have hD1 : dg1 f G0 = D0 := by rw [dg1, if_neg hng, eD]
    have hDT : D0 ≤ T0 := by omega
    refine lv_istore_n (lv' := [(2, .int 0), (0, .ref a), (1, .int (nI j))]) hx hb d_Line_numberAtT_38 rfl hl (by decide) rfl (fun ls hl => ?_)
    refine lv_iload_n hx hb d_Line_numberAtT_39 rfl (lv_at hl 0 rfl) ?_
    refine lv_if_eq (tgt := 54) hx hb d_Line_numberAtT_40 (by decide) (fun c5 => ?_) (fun z => absurd rfl z)
    refine lv_aload_n hx hb d_Line_numberAtT_54 rfl (lv_at hl 1 rfl) ?_
    refine mv_get C X ka 0 f_2_11_6 (v := .ref as1) rfl d_Line_numberAtT_55 ?_
    refine lv_iload_n hx hb d_Line_numberAtT_58 rfl (lv_at hl 2 rfl) ?_
    refine mv_iald C X k1 0 rfl j rfl (by omega) (by decide) d_Line_numberAtT_59 ?_
    rw [es, ← eD]
    refine lv_istore_n (lv' := [(3, .int (nI D0)), (2, .int 0), (0, .ref a), (1, .int (nI j))]) hx hb d_Line_numberAtT_60 rfl hl (by decide) rfl (fun ls hl => ?_)
    refine lv_aload_n hx hb d_Line_numberAtT_61 rfl (lv_at hl 2 rfl) ?_
    refine mv_get C X ka 1 f_2_15_6 (v := .ref ae1) rfl d_Line_numberAtT_62 ?_
    refine lv_iload_n hx hb d_Line_numberAtT_65 rfl (lv_at hl 3 rfl) ?_
    refine mv_iald C X k2 0 rfl j rfl (by omega) (by decide) d_Line_numberAtT_66 ?_
    refine lv_iload_n hx hb d_Line_numberAtT_67 rfl (lv_at hl 0 rfl) ?_
    refine lv_isub hx hb d_Line_numberAtT_68 ?_
    rw [ee, nI_sub hDT]
    refine lv_istore (lv' := [(4, .int (nI (T0 - D0))), (3, .int (nI D0)), (2, .int 0), (0, .ref a), (1, .int (nI j))]) hx hb d_Line_numberAtT_69 hl (by decide) rfl (fun ls hl => ?_)
    refine lv_iload hx hb d_Line_numberAtT_71 (lv_at hl 0 rfl) ?_
    refine lv_iconst (v := 1) hx hb d_Line_numberAtT_73 (by decide) ?_
    refine lv_icmp_lt (tgt := 84) hx hb d_Line_numberAtT_74 (by decide) (fun c6 => ?_) (fun c6 => ?_)
    · skip
      refine lv_ldc (v := (-1000000)) hx hb C.1.2.2.2.1 (C.1.2.2.2.2 _ (gt_3 154 (by decide +kernel) rfl)) d_Line_numberAtT_84 ?_
      exact mq_iret hQ C X hr rfl hlk (⟨rfl, by
          have h1 : ¬ D0 < T0 := by
            have := (nI_ltI (b := 1) (by omega) (by decide)).mp c6
            omega
          rw [cNi, if_pos hj, eG0, eT0, nuI, if_neg (by rw [isNu, hD1, decide_eq_false h1]; simp)]⟩) (by omega) (by omega) d_Line_numberAtT_86
    · skip
      refine lv_iload hx hb d_Line_numberAtT_77 (lv_at hl 0 rfl) ?_
      refine lv_bipush (v := 6) hx hb d_Line_numberAtT_79 (by decide) ?_
      refine lv_icmp_le (tgt := 87) hx hb d_Line_numberAtT_81 (by decide) (fun c7 => ?_) (fun c7 => ?_)
      · skip
        refine lv_iconst (v := 0) hx hb d_Line_numberAtT_87 (by decide) ?_
        refine lv_istore (lv' := [(5, .int 0), (4, .int (nI (T0 - D0))), (3, .int (nI D0)), (2, .int 0), (0, .ref a), (1, .int (nI j))]) hx hb d_Line_numberAtT_88 hl (by decide) rfl (fun ls hl => ?_)
        refine lv_iload_n hx hb d_Line_numberAtT_90 rfl (lv_at hl 2 rfl) ?_
        refine lv_istore (lv' := [(6, .int (nI D0)), (5, .int 0), (4, .int (nI (T0 - D0))), (3, .int (nI D0)), (2, .int 0), (0, .ref a), (1, .int (nI j))]) hx hb d_Line_numberAtT_91 hl (by decide) rfl (fun ls hl => ?_)
        have lp : ∀ (n_lp : Nat) (k : Nat) (i : Int32) (u : Int32) (ls : Array Slot) (H : Heap) (locs : List Loc), (i = nI k) → (D0 ≤ k) → (k ≤ T0) → (u = nI (dvN f D0 (k - D0))) → (dgB f D0 (k - D0) = true) → (T0 - k) < n_lp → vO S0 D vcl h0 s H locs → lv_has ls 8 [(0, .ref a), (1, .int (nI j)), (2, .int 0), (5, .int u), (6, .int i)] → W p l e (vRm 4 85 0 0) s m args below meth c H locs 0 0 Q (F0 m 93 ls []) := by
          intro n_lp
          induction n_lp with
          | zero => intros; exact absurd (by assumption) (Nat.not_lt_zero _)
          | succ n_lp ih_lp =>
            intro k i u ls H locs ei hk1 hk2 eu ha hmu_lp X hl
            refine lv_iload hx hb d_Line_numberAtT_93 (lv_at hl 4 rfl) ?_
            refine lv_aload_n hx hb d_Line_numberAtT_95 rfl (lv_at hl 0 rfl) ?_
            refine mv_get C X ka 1 f_2_15_6 (v := .ref ae1) rfl d_Line_numberAtT_96 ?_
            refine lv_iload_n hx hb d_Line_numberAtT_99 rfl (lv_at hl 1 rfl) ?_
            refine mv_iald C X k2 0 rfl j rfl (by omega) (by decide) d_Line_numberAtT_100 ?_
            refine lv_icmp_ge (tgt := 151) hx hb d_Line_numberAtT_101 (by decide) (fun c8 => ?_) (fun c8 => ?_)
            · skip
              refine lv_iload_n hx hb d_Line_numberAtT_151 rfl (lv_at hl 2 rfl) ?_
              refine lv_if_eq (tgt := 161) hx hb d_Line_numberAtT_152 (by decide) (fun c9 => ?_) (fun z => absurd rfl z)
              refine lv_iload hx hb d_Line_numberAtT_161 (lv_at hl 3 rfl) ?_
              exact mq_iret hQ C X hr rfl hlk (⟨rfl, by
                  have hkT : k = T0 := by
                    have := (nI_leI (a := T0) (b := k) (by omega) (by omega)).mp (by rw [← ei, ← ee]; exact c8)
                    omega
                  have h1 : D0 < T0 := by
                    have := (nI_leI (a := 1) (by decide) (by omega)).mp (Int32.not_lt.mp c6)
                    omega
                  have h6 : T0 - D0 < 7 := by
                    have := (nI_leI (b := 6) (by omega) (by decide)).mp c7
                    omega
                  rw [hkT] at eu ha
                  rw [cNi, if_pos hj, eG0, eT0, nuI, if_pos (by rw [isNu, hD1, ha, decide_eq_true h1, decide_eq_true h6]; rfl), if_neg hng, ← eD, eu]⟩) (by omega) (by omega) d_Line_numberAtT_163
            · skip
              have hkn : k < T0 := by
                rcases Nat.lt_or_ge k T0 with q | q
                · exact q
                · exact absurd (by rw [ei, ee]; exact nI_le q (by omega)) c8
              obtain ⟨hc4, c0, hc1, hc2, hc3⟩ := hg k (by omega)
              refine lv_aload_n hx hb d_Line_numberAtT_104 rfl (lv_at hl 0 rfl) ?_
              refine mv_get C X ka 2 f_2_20_6 (v := .ref t) rfl d_Line_numberAtT_105 ?_
              refine lv_iload hx hb d_Line_numberAtT_108 (lv_at hl 4 rfl) ?_
              rw [ei]
              refine mv_bi X (mv_rV (rest := []) (As := [.int (nI k)]) gt_good C X k_2_34 (cm_String_charAt hE hJ (by omega) (j := k) (by omega) (hc4.trans hc3) hc2 kt ktv) kt rfl rfl ⟨Nat.le_of_ble_eq_true rfl, Nat.le_of_ble_eq_true rfl⟩ rfl hl.1 rfl (Nat.le_of_ble_eq_true rfl) d_Line_numberAtT_110 ⟨Nat.zero_le _, Nat.zero_le _⟩) (fun r10 hN H locs hp X => ?_)
              obtain ⟨eh, er⟩ := hp
              replace eh := eh.symm
              replace er := er.symm
              subst eh er
              refine lv_istore (lv' := [(7, .int (nI c0)), (0, .ref a), (1, .int (nI j)), (2, .int 0), (5, .int u), (6, .int i)]) hx hb d_Line_numberAtT_113 hl (by decide) rfl (fun ls hl => ?_)
              refine lv_iload hx hb d_Line_numberAtT_115 (lv_at hl 0 rfl) ?_
              refine lv_bipush (v := 48) hx hb d_Line_numberAtT_117 (by decide) ?_
              refine lv_icmp_lt (tgt := 129) hx hb d_Line_numberAtT_119 (by decide) (fun c11 => ?_) (fun c11 => ?_)
              · skip
                refine lv_ldc (v := (-1000000)) hx hb C.1.2.2.2.1 (C.1.2.2.2.2 _ (gt_3 154 (by decide +kernel) rfl)) d_Line_numberAtT_129 ?_
                exact mq_iret hQ C X hr rfl hlk (⟨rfl, by
                    have hb1 : dgB f D0 (T0 - D0) = false := dgB_f (k := k - D0) (by omega) (by rw [show D0 + (k - D0) = k by omega]; exact fun z => absurd z.1 (by rw [hc3]; exact Int32.not_le.mpr c11))
                    rw [cNi, if_pos hj, eG0, eT0, nuI, if_neg (by rw [isNu, hD1, hb1, Bool.and_false]; simp)]⟩) (by omega) (by omega) d_Line_numberAtT_131
              · skip
                refine lv_iload hx hb d_Line_numberAtT_122 (lv_at hl 0 rfl) ?_
                refine lv_bipush (v := 57) hx hb d_Line_numberAtT_124 (by decide) ?_
                refine lv_icmp_le (tgt := 132) hx hb d_Line_numberAtT_126 (by decide) (fun c12 => ?_) (fun c12 => ?_)
                · skip
                  have h48 : 48 ≤ c0 := (nI_leI (a := 48) (by decide) (by omega)).mp (Int32.not_lt.mp c11)
                  have h57 : c0 ≤ 57 := (nI_leI (b := 57) (by omega) (by decide)).mp c12
                  refine lv_iload hx hb d_Line_numberAtT_132 (lv_at hl 4 rfl) ?_
                  refine lv_bipush (v := 10) hx hb d_Line_numberAtT_134 (by decide) ?_
                  refine lv_imul hx hb d_Line_numberAtT_136 ?_
                  refine lv_iload hx hb d_Line_numberAtT_137 (lv_at hl 0 rfl) ?_
                  refine lv_bipush (v := 48) hx hb d_Line_numberAtT_139 (by decide) ?_
                  refine lv_isub hx hb d_Line_numberAtT_141 ?_
                  refine lv_iadd hx hb d_Line_numberAtT_142 ?_
                  refine lv_istore (lv' := [(5, .int ((u * 10) + ((nI c0) - 48))), (7, .int (nI c0)), (0, .ref a), (1, .int (nI j)), (2, .int 0), (6, .int i)]) hx hb d_Line_numberAtT_143 hl (by decide) rfl (fun ls hl => ?_)
                  refine lv_iinc (v := (i + 1)) (lv' := [(6, .int (i + 1)), (5, .int ((u * 10) + ((nI c0) - 48))), (7, .int (nI c0)), (0, .ref a), (1, .int (nI j)), (2, .int 0)]) hx hb d_Line_numberAtT_145 hl (k := 5) rfl rfl (by decide) rfl (fun ls hl => ?_)
                  refine lv_goto (tgt := 93) hx hb d_Line_numberAtT_148 (by decide) ?_
                  exact ih_lp (k + 1) (i + 1) ((u * 10) + ((nI c0) - 48)) ls _ _ (by rw [ei]; exact nI_1 k) (by omega) (by omega) (by rw [eu, dvN, dvN, cdN_s hk1, hc3, nI_clamp (by omega), show nI c0 - 48 = nI (c0 - 48) from nI_sub (b := 48) h48, show (10 : Int32) = nI 10 from rfl, nI_mul, nI_add]) (by rw [dgB_s hk1, ha, hc3, decide_eq_true (show (48 : Int32) ≤ nI c0 from nI_le (a := 48) h48 (by omega)), decide_eq_true (show nI c0 ≤ (57 : Int32) from nI_le (b := 57) h57 (by decide))]; rfl) (by omega) X (lv_sub hl [3, 4, 5, 1, 0] rfl)
                · skip
                  refine lv_ldc (v := (-1000000)) hx hb C.1.2.2.2.1 (C.1.2.2.2.2 _ (gt_3 154 (by decide +kernel) rfl)) d_Line_numberAtT_129 ?_
                  exact mq_iret hQ C X hr rfl hlk (⟨rfl, by
                      have hb1 : dgB f D0 (T0 - D0) = false := dgB_f (k := k - D0) (by omega) (by rw [show D0 + (k - D0) = k by omega]; exact fun z => absurd z.2 (by rw [hc3]; exact c12))
                      rw [cNi, if_pos hj, eG0, eT0, nuI, if_neg (by rw [isNu, hD1, hb1, Bool.and_false]; simp)]⟩) (by omega) (by omega) d_Line_numberAtT_131
        exact lp (T0 - D0 + 1) D0 (nI D0) 0 ls _ _ rfl (Nat.le_refl _) hDT (by rw [Nat.sub_self]; rfl) (by rw [Nat.sub_self]; rfl) (Nat.lt_succ_self _) X (lv_sub hl [5, 6, 4, 1, 0] rfl)
      · skip
        refine lv_ldc (v := (-1000000)) hx hb C.1.2.2.2.1 (C.1.2.2.2.2 _ (gt_3 154 (by decide +kernel) rfl)) d_Line_numberAtT_84 ?_
        exact mq_iret hQ C X hr rfl hlk (⟨rfl, by
            have h1 : ¬ T0 - D0 < 7 := fun z => c7 (nI_le (b := 6) (by omega) (by decide))
            rw [cNi, if_pos hj, eG0, eT0, nuI, if_neg (by rw [isNu, hD1, decide_eq_false h1, Bool.and_false]; simp)]⟩) (by omega) (by omega) d_Line_numberAtT_86
  · skip
    refine lv_iconst (v := 1) hx hb d_Line_numberAtT_33 (by decide) ?_
    refine lv_goto (tgt := 38) hx hb d_Line_numberAtT_34 (by decide) ?_
    have hng : f G0 = 45 := by rw [hc7]; exact c4
    obtain ⟨D0, eD⟩ : ∃ z, z = G0 + 1 := ⟨_, rfl⟩
    have hD1 : dg1 f G0 = D0 := by rw [dg1, if_pos hng, eD]
    have hDT : D0 ≤ T0 := by omega
    refine lv_istore_n (lv' := [(2, .int 1), (0, .ref a), (1, .int (nI j))]) hx hb d_Line_numberAtT_38 rfl hl (by decide) rfl (fun ls hl => ?_)
    refine lv_iload_n hx hb d_Line_numberAtT_39 rfl (lv_at hl 0 rfl) ?_
    refine lv_if_eq (tgt := 54) hx hb d_Line_numberAtT_40 (by decide) (fun z => absurd z (by decide)) (fun c13 => ?_)
    refine lv_aload_n hx hb d_Line_numberAtT_43 rfl (lv_at hl 1 rfl) ?_
    refine mv_get C X ka 0 f_2_11_6 (v := .ref as1) rfl d_Line_numberAtT_44 ?_
    refine lv_iload_n hx hb d_Line_numberAtT_47 rfl (lv_at hl 2 rfl) ?_
    refine mv_iald C X k1 0 rfl j rfl (by omega) (by decide) d_Line_numberAtT_48 ?_
    refine lv_iconst (v := 1) hx hb d_Line_numberAtT_49 (by decide) ?_
    refine lv_iadd hx hb d_Line_numberAtT_50 ?_
    refine lv_goto (tgt := 60) hx hb d_Line_numberAtT_51 (by decide) ?_
    rw [es, nI_1, ← eD]
    refine lv_istore_n (lv' := [(3, .int (nI D0)), (2, .int 1), (0, .ref a), (1, .int (nI j))]) hx hb d_Line_numberAtT_60 rfl hl (by decide) rfl (fun ls hl => ?_)
    refine lv_aload_n hx hb d_Line_numberAtT_61 rfl (lv_at hl 2 rfl) ?_
    refine mv_get C X ka 1 f_2_15_6 (v := .ref ae1) rfl d_Line_numberAtT_62 ?_
    refine lv_iload_n hx hb d_Line_numberAtT_65 rfl (lv_at hl 3 rfl) ?_
    refine mv_iald C X k2 0 rfl j rfl (by omega) (by decide) d_Line_numberAtT_66 ?_
    refine lv_iload_n hx hb d_Line_numberAtT_67 rfl (lv_at hl 0 rfl) ?_
    refine lv_isub hx hb d_Line_numberAtT_68 ?_
    rw [ee, nI_sub hDT]
    refine lv_istore (lv' := [(4, .int (nI (T0 - D0))), (3, .int (nI D0)), (2, .int 1), (0, .ref a), (1, .int (nI j))]) hx hb d_Line_numberAtT_69 hl (by decide) rfl (fun ls hl => ?_)
    refine lv_iload hx hb d_Line_numberAtT_71 (lv_at hl 0 rfl) ?_
    refine lv_iconst (v := 1) hx hb d_Line_numberAtT_73 (by decide) ?_
    refine lv_icmp_lt (tgt := 84) hx hb d_Line_numberAtT_74 (by decide) (fun c14 => ?_) (fun c14 => ?_)
    · skip
      refine lv_ldc (v := (-1000000)) hx hb C.1.2.2.2.1 (C.1.2.2.2.2 _ (gt_3 154 (by decide +kernel) rfl)) d_Line_numberAtT_84 ?_
      exact mq_iret hQ C X hr rfl hlk (⟨rfl, by
          have h1 : ¬ D0 < T0 := by
            have := (nI_ltI (b := 1) (by omega) (by decide)).mp c14
            omega
          rw [cNi, if_pos hj, eG0, eT0, nuI, if_neg (by rw [isNu, hD1, decide_eq_false h1]; simp)]⟩) (by omega) (by omega) d_Line_numberAtT_86
    · skip
      refine lv_iload hx hb d_Line_numberAtT_77 (lv_at hl 0 rfl) ?_
      refine lv_bipush (v := 6) hx hb d_Line_numberAtT_79 (by decide) ?_
      refine lv_icmp_le (tgt := 87) hx hb d_Line_numberAtT_81 (by decide) (fun c15 => ?_) (fun c15 => ?_)
      · skip
        refine lv_iconst (v := 0) hx hb d_Line_numberAtT_87 (by decide) ?_
        refine lv_istore (lv' := [(5, .int 0), (4, .int (nI (T0 - D0))), (3, .int (nI D0)), (2, .int 1), (0, .ref a), (1, .int (nI j))]) hx hb d_Line_numberAtT_88 hl (by decide) rfl (fun ls hl => ?_)
        refine lv_iload_n hx hb d_Line_numberAtT_90 rfl (lv_at hl 2 rfl) ?_
        refine lv_istore (lv' := [(6, .int (nI D0)), (5, .int 0), (4, .int (nI (T0 - D0))), (3, .int (nI D0)), (2, .int 1), (0, .ref a), (1, .int (nI j))]) hx hb d_Line_numberAtT_91 hl (by decide) rfl (fun ls hl => ?_)
        have lp : ∀ (n_lp : Nat) (k : Nat) (i : Int32) (u : Int32) (ls : Array Slot) (H : Heap) (locs : List Loc), (i = nI k) → (D0 ≤ k) → (k ≤ T0) → (u = nI (dvN f D0 (k - D0))) → (dgB f D0 (k - D0) = true) → (T0 - k) < n_lp → vO S0 D vcl h0 s H locs → lv_has ls 8 [(0, .ref a), (1, .int (nI j)), (2, .int 1), (5, .int u), (6, .int i)] → W p l e (vRm 4 85 0 0) s m args below meth c H locs 0 0 Q (F0 m 93 ls []) := by
          intro n_lp
          induction n_lp with
          | zero => intros; exact absurd (by assumption) (Nat.not_lt_zero _)
          | succ n_lp ih_lp =>
            intro k i u ls H locs ei hk1 hk2 eu ha hmu_lp X hl
            refine lv_iload hx hb d_Line_numberAtT_93 (lv_at hl 4 rfl) ?_
            refine lv_aload_n hx hb d_Line_numberAtT_95 rfl (lv_at hl 0 rfl) ?_
            refine mv_get C X ka 1 f_2_15_6 (v := .ref ae1) rfl d_Line_numberAtT_96 ?_
            refine lv_iload_n hx hb d_Line_numberAtT_99 rfl (lv_at hl 1 rfl) ?_
            refine mv_iald C X k2 0 rfl j rfl (by omega) (by decide) d_Line_numberAtT_100 ?_
            refine lv_icmp_ge (tgt := 151) hx hb d_Line_numberAtT_101 (by decide) (fun c16 => ?_) (fun c16 => ?_)
            · skip
              refine lv_iload_n hx hb d_Line_numberAtT_151 rfl (lv_at hl 2 rfl) ?_
              refine lv_if_eq (tgt := 161) hx hb d_Line_numberAtT_152 (by decide) (fun z => absurd z (by decide)) (fun c17 => ?_)
              refine lv_iload hx hb d_Line_numberAtT_155 (lv_at hl 3 rfl) ?_
              refine lv_ineg hx hb d_Line_numberAtT_157 ?_
              refine lv_goto (tgt := 163) hx hb d_Line_numberAtT_158 (by decide) ?_
              exact mq_iret hQ C X hr rfl hlk (⟨rfl, by
                  have hkT : k = T0 := by
                    have := (nI_leI (a := T0) (b := k) (by omega) (by omega)).mp (by rw [← ei, ← ee]; exact c16)
                    omega
                  have h1 : D0 < T0 := by
                    have := (nI_leI (a := 1) (by decide) (by omega)).mp (Int32.not_lt.mp c14)
                    omega
                  have h6 : T0 - D0 < 7 := by
                    have := (nI_leI (b := 6) (by omega) (by decide)).mp c15
                    omega
                  rw [hkT] at eu ha
                  rw [cNi, if_pos hj, eG0, eT0, nuI, if_pos (by rw [isNu, hD1, ha, decide_eq_true h1, decide_eq_true h6]; rfl), if_pos hng, ← eD, eu]⟩) (by omega) (by omega) d_Line_numberAtT_163
            · skip
              have hkn : k < T0 := by
                rcases Nat.lt_or_ge k T0 with q | q
                · exact q
                · exact absurd (by rw [ei, ee]; exact nI_le q (by omega)) c16
              obtain ⟨hc4, c0, hc1, hc2, hc3⟩ := hg k (by omega)
              refine lv_aload_n hx hb d_Line_numberAtT_104 rfl (lv_at hl 0 rfl) ?_
              refine mv_get C X ka 2 f_2_20_6 (v := .ref t) rfl d_Line_numberAtT_105 ?_
              refine lv_iload hx hb d_Line_numberAtT_108 (lv_at hl 4 rfl) ?_
              rw [ei]
              refine mv_bi X (mv_rV (rest := []) (As := [.int (nI k)]) gt_good C X k_2_34 (cm_String_charAt hE hJ (by omega) (j := k) (by omega) (hc4.trans hc3) hc2 kt ktv) kt rfl rfl ⟨Nat.le_of_ble_eq_true rfl, Nat.le_of_ble_eq_true rfl⟩ rfl hl.1 rfl (Nat.le_of_ble_eq_true rfl) d_Line_numberAtT_110 ⟨Nat.zero_le _, Nat.zero_le _⟩) (fun r18 hN H locs hp X => ?_)
              obtain ⟨eh, er⟩ := hp
              replace eh := eh.symm
              replace er := er.symm
              subst eh er
              refine lv_istore (lv' := [(7, .int (nI c0)), (0, .ref a), (1, .int (nI j)), (2, .int 1), (5, .int u), (6, .int i)]) hx hb d_Line_numberAtT_113 hl (by decide) rfl (fun ls hl => ?_)
              refine lv_iload hx hb d_Line_numberAtT_115 (lv_at hl 0 rfl) ?_
              refine lv_bipush (v := 48) hx hb d_Line_numberAtT_117 (by decide) ?_
              refine lv_icmp_lt (tgt := 129) hx hb d_Line_numberAtT_119 (by decide) (fun c19 => ?_) (fun c19 => ?_)
              · skip
                refine lv_ldc (v := (-1000000)) hx hb C.1.2.2.2.1 (C.1.2.2.2.2 _ (gt_3 154 (by decide +kernel) rfl)) d_Line_numberAtT_129 ?_
                exact mq_iret hQ C X hr rfl hlk (⟨rfl, by
                    have hb1 : dgB f D0 (T0 - D0) = false := dgB_f (k := k - D0) (by omega) (by rw [show D0 + (k - D0) = k by omega]; exact fun z => absurd z.1 (by rw [hc3]; exact Int32.not_le.mpr c19))
                    rw [cNi, if_pos hj, eG0, eT0, nuI, if_neg (by rw [isNu, hD1, hb1, Bool.and_false]; simp)]⟩) (by omega) (by omega) d_Line_numberAtT_131
              · skip
                refine lv_iload hx hb d_Line_numberAtT_122 (lv_at hl 0 rfl) ?_
                refine lv_bipush (v := 57) hx hb d_Line_numberAtT_124 (by decide) ?_
                refine lv_icmp_le (tgt := 132) hx hb d_Line_numberAtT_126 (by decide) (fun c20 => ?_) (fun c20 => ?_)
                · skip
                  have h48 : 48 ≤ c0 := (nI_leI (a := 48) (by decide) (by omega)).mp (Int32.not_lt.mp c19)
                  have h57 : c0 ≤ 57 := (nI_leI (b := 57) (by omega) (by decide)).mp c20
                  refine lv_iload hx hb d_Line_numberAtT_132 (lv_at hl 4 rfl) ?_
                  refine lv_bipush (v := 10) hx hb d_Line_numberAtT_134 (by decide) ?_
                  refine lv_imul hx hb d_Line_numberAtT_136 ?_
                  refine lv_iload hx hb d_Line_numberAtT_137 (lv_at hl 0 rfl) ?_
                  refine lv_bipush (v := 48) hx hb d_Line_numberAtT_139 (by decide) ?_
                  refine lv_isub hx hb d_Line_numberAtT_141 ?_
                  refine lv_iadd hx hb d_Line_numberAtT_142 ?_
                  refine lv_istore (lv' := [(5, .int ((u * 10) + ((nI c0) - 48))), (7, .int (nI c0)), (0, .ref a), (1, .int (nI j)), (2, .int 1), (6, .int i)]) hx hb d_Line_numberAtT_143 hl (by decide) rfl (fun ls hl => ?_)
                  refine lv_iinc (v := (i + 1)) (lv' := [(6, .int (i + 1)), (5, .int ((u * 10) + ((nI c0) - 48))), (7, .int (nI c0)), (0, .ref a), (1, .int (nI j)), (2, .int 1)]) hx hb d_Line_numberAtT_145 hl (k := 5) rfl rfl (by decide) rfl (fun ls hl => ?_)
                  refine lv_goto (tgt := 93) hx hb d_Line_numberAtT_148 (by decide) ?_
                  exact ih_lp (k + 1) (i + 1) ((u * 10) + ((nI c0) - 48)) ls _ _ (by rw [ei]; exact nI_1 k) (by omega) (by omega) (by rw [eu, dvN, dvN, cdN_s hk1, hc3, nI_clamp (by omega), show nI c0 - 48 = nI (c0 - 48) from nI_sub (b := 48) h48, show (10 : Int32) = nI 10 from rfl, nI_mul, nI_add]) (by rw [dgB_s hk1, ha, hc3, decide_eq_true (show (48 : Int32) ≤ nI c0 from nI_le (a := 48) h48 (by omega)), decide_eq_true (show nI c0 ≤ (57 : Int32) from nI_le (b := 57) h57 (by decide))]; rfl) (by omega) X (lv_sub hl [3, 4, 5, 1, 0] rfl)
                · skip
                  refine lv_ldc (v := (-1000000)) hx hb C.1.2.2.2.1 (C.1.2.2.2.2 _ (gt_3 154 (by decide +kernel) rfl)) d_Line_numberAtT_129 ?_
                  exact mq_iret hQ C X hr rfl hlk (⟨rfl, by
                      have hb1 : dgB f D0 (T0 - D0) = false := dgB_f (k := k - D0) (by omega) (by rw [show D0 + (k - D0) = k by omega]; exact fun z => absurd z.2 (by rw [hc3]; exact c20))
                      rw [cNi, if_pos hj, eG0, eT0, nuI, if_neg (by rw [isNu, hD1, hb1, Bool.and_false]; simp)]⟩) (by omega) (by omega) d_Line_numberAtT_131
        exact lp (T0 - D0 + 1) D0 (nI D0) 0 ls _ _ rfl (Nat.le_refl _) hDT (by rw [Nat.sub_self]; rfl) (by rw [Nat.sub_self]; rfl) (Nat.lt_succ_self _) X (lv_sub hl [5, 6, 4, 1, 0] rfl)
      · skip
        refine lv_ldc (v := (-1000000)) hx hb C.1.2.2.2.1 (C.1.2.2.2.2 _ (gt_3 154 (by decide +kernel) rfl)) d_Line_numberAtT_84 ?_
        exact mq_iret hQ C X hr rfl hlk (⟨rfl, by
            have h1 : ¬ T0 - D0 < 7 := fun z => c15 (nI_le (b := 6) (by omega) (by decide))
            rw [cNi, if_pos hj, eG0, eT0, nuI, if_neg (by rw [isNu, hD1, decide_eq_false h1, Bool.and_false]; simp)]⟩) (by omega) (by omega) d_Line_numberAtT_86
theorem d_Line_numberAtF_0 : decode prog_3_method_7_code 0 = .ok (.iload_n 1, 1) := by decide +kernel
theorem d_Line_numberAtF_1 : decode prog_3_method_7_code 1 = .ok (.ifCond .lt 11, 3) := by decide +kernel
theorem d_Line_numberAtF_4 : decode prog_3_method_7_code 4 = .ok (.iload_n 1, 1) := by decide +kernel
theorem d_Line_numberAtF_5 : decode prog_3_method_7_code 5 = .ok (.aload_n 0, 1) := by decide +kernel
theorem d_Line_numberAtF_6 : decode prog_3_method_7_code 6 = .ok (.getfield 24, 3) := by decide +kernel
theorem d_Line_numberAtF_9 : decode prog_3_method_7_code 9 = .ok (.if_icmp .lt 6, 3) := by decide +kernel
theorem d_Line_numberAtF_12 : decode prog_3_method_7_code 12 = .ok (.ldc 48, 2) := by decide +kernel
theorem d_Line_numberAtF_14 : decode prog_3_method_7_code 14 = .ok (.ireturn, 1) := by decide +kernel
set_option maxRecDepth 100000 in
set_option maxHeartbeats 4000000 in
theorem cm_Line_numberAtF {l : Launch} {S0 : State} {b : Nat} {D : va_G} {dT : Nat → ClassId} (hE : vEnv S0 b D dT) {h0 : vH} {a as1 ae1 t cw j : Nat} (hcw : cw ≤ 6) (hj6 : j < 6) (hj : cw ≤ j) (ka : h0 a = some (.inr (6, [.ref as1, .ref ae1, .ref t, .int (nI cw)]))) : vMi l S0 D vcl GT y_Line_numberAt prog_3_method_7_code 8 (some .int) 0 0 0 0 [.ref a, .int (nI j)] h0 (fun r h' => h' = h0 ∧ r = (-1000000)) := by
  unfold vMi
  refine vM_ofQ hE.1 (by decide) (Nat.le_of_ble_eq_true rfl) (fun p e s m args below meth c ls Q hQ C hr hlk hnm X hl => ?_)
  have C : vC p s m _ c _ _ "MenuScreens$Line" GT D vcl (vty dT) := C
  have hx := C.1.1
  have hb := C.1.2.1
  obtain ⟨H, eH⟩ : ∃ z, z = s.heap := ⟨_, rfl⟩
  obtain ⟨locs, elocs⟩ : ∃ z : List Loc, z = [] := ⟨_, rfl⟩
  rw [← eH, ← elocs] at X
  rw [← eH, ← elocs]
  clear eH elocs
  have hl : lv_has ls 8 [(0, .ref a), (1, .int (nI j))] := hl
  refine lv_iload_n hx hb d_Line_numberAtF_0 rfl (lv_at hl 1 rfl) ?_
  refine lv_if_lt (tgt := 12) hx hb d_Line_numberAtF_1 (by decide) (fun z => absurd z (nI_pos (by omega))) (fun c1 => ?_)
  refine lv_iload_n hx hb d_Line_numberAtF_4 rfl (lv_at hl 1 rfl) ?_
  refine lv_aload_n hx hb d_Line_numberAtF_5 rfl (lv_at hl 0 rfl) ?_
  refine mv_get C X ka 3 f_2_24_6 (v := .int (nI cw)) rfl d_Line_numberAtF_6 ?_
  refine lv_icmp_lt (tgt := 15) hx hb d_Line_numberAtF_9 (by decide) (fun z => absurd z (nI_nlt hj (by omega))) (fun c2 => ?_)
  refine lv_ldc (v := (-1000000)) hx hb C.1.2.2.2.1 (C.1.2.2.2.2 _ (gt_3 154 (by decide +kernel) rfl)) d_Line_numberAtF_12 ?_
  exact mq_iret hQ C X hr rfl hlk (⟨rfl, rfl⟩) (by omega) (by omega) d_Line_numberAtF_14
