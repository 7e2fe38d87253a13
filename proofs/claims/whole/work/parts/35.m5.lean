theorem d_MenuScreensModel_same_0 : decode prog_13_method_9_code 0 = .ok (.iload_n 2, 1) := by decide +kernel
theorem d_MenuScreensModel_same_1 : decode prog_13_method_9_code 1 = .ok (.iload_n 1, 1) := by decide +kernel
theorem d_MenuScreensModel_same_2 : decode prog_13_method_9_code 2 = .ok (.isub, 1) := by decide +kernel
theorem d_MenuScreensModel_same_3 : decode prog_13_method_9_code 3 = .ok (.iload 4, 2) := by decide +kernel
theorem d_MenuScreensModel_same_5 : decode prog_13_method_9_code 5 = .ok (.iload_n 3, 1) := by decide +kernel
theorem d_MenuScreensModel_same_6 : decode prog_13_method_9_code 6 = .ok (.isub, 1) := by decide +kernel
theorem d_MenuScreensModel_same_7 : decode prog_13_method_9_code 7 = .ok (.if_icmp .ne 7, 3) := by decide +kernel
theorem d_MenuScreensModel_same_10 : decode prog_13_method_9_code 10 = .ok (.iconst 1, 1) := by decide +kernel
theorem d_MenuScreensModel_same_11 : decode prog_13_method_9_code 11 = .ok (.goto 4, 3) := by decide +kernel
theorem d_MenuScreensModel_same_14 : decode prog_13_method_9_code 14 = .ok (.iconst 0, 1) := by decide +kernel
theorem d_MenuScreensModel_same_15 : decode prog_13_method_9_code 15 = .ok (.istore 5, 2) := by decide +kernel
theorem d_MenuScreensModel_same_17 : decode prog_13_method_9_code 17 = .ok (.iconst 0, 1) := by decide +kernel
theorem d_MenuScreensModel_same_18 : decode prog_13_method_9_code 18 = .ok (.istore 6, 2) := by decide +kernel
theorem d_MenuScreensModel_same_20 : decode prog_13_method_9_code 20 = .ok (.iload 6, 2) := by decide +kernel
theorem d_MenuScreensModel_same_22 : decode prog_13_method_9_code 22 = .ok (.iload_n 2, 1) := by decide +kernel
theorem d_MenuScreensModel_same_23 : decode prog_13_method_9_code 23 = .ok (.iload_n 1, 1) := by decide +kernel
theorem d_MenuScreensModel_same_24 : decode prog_13_method_9_code 24 = .ok (.isub, 1) := by decide +kernel
theorem d_MenuScreensModel_same_25 : decode prog_13_method_9_code 25 = .ok (.if_icmp .ge 42, 3) := by decide +kernel
theorem d_MenuScreensModel_same_28 : decode prog_13_method_9_code 28 = .ok (.iload 5, 2) := by decide +kernel
theorem d_MenuScreensModel_same_30 : decode prog_13_method_9_code 30 = .ok (.ifCond .eq 37, 3) := by decide +kernel
theorem d_MenuScreensModel_same_33 : decode prog_13_method_9_code 33 = .ok (.aload_n 0, 1) := by decide +kernel
theorem d_MenuScreensModel_same_34 : decode prog_13_method_9_code 34 = .ok (.getfield 13, 3) := by decide +kernel
theorem d_MenuScreensModel_same_37 : decode prog_13_method_9_code 37 = .ok (.iload_n 1, 1) := by decide +kernel
theorem d_MenuScreensModel_same_38 : decode prog_13_method_9_code 38 = .ok (.iload 6, 2) := by decide +kernel
theorem d_MenuScreensModel_same_40 : decode prog_13_method_9_code 40 = .ok (.iadd, 1) := by decide +kernel
theorem d_MenuScreensModel_same_41 : decode prog_13_method_9_code 41 = .ok (.iaload, 1) := by decide +kernel
theorem d_MenuScreensModel_same_42 : decode prog_13_method_9_code 42 = .ok (.aload_n 0, 1) := by decide +kernel
theorem d_MenuScreensModel_same_43 : decode prog_13_method_9_code 43 = .ok (.getfield 13, 3) := by decide +kernel
theorem d_MenuScreensModel_same_46 : decode prog_13_method_9_code 46 = .ok (.iload_n 3, 1) := by decide +kernel
theorem d_MenuScreensModel_same_47 : decode prog_13_method_9_code 47 = .ok (.iload 6, 2) := by decide +kernel
theorem d_MenuScreensModel_same_49 : decode prog_13_method_9_code 49 = .ok (.iadd, 1) := by decide +kernel
theorem d_MenuScreensModel_same_50 : decode prog_13_method_9_code 50 = .ok (.iaload, 1) := by decide +kernel
theorem d_MenuScreensModel_same_51 : decode prog_13_method_9_code 51 = .ok (.if_icmp .ne 7, 3) := by decide +kernel
theorem d_MenuScreensModel_same_54 : decode prog_13_method_9_code 54 = .ok (.iconst 1, 1) := by decide +kernel
theorem d_MenuScreensModel_same_55 : decode prog_13_method_9_code 55 = .ok (.goto 4, 3) := by decide +kernel
theorem d_MenuScreensModel_same_58 : decode prog_13_method_9_code 58 = .ok (.iconst 0, 1) := by decide +kernel
theorem d_MenuScreensModel_same_59 : decode prog_13_method_9_code 59 = .ok (.istore 5, 2) := by decide +kernel
theorem d_MenuScreensModel_same_61 : decode prog_13_method_9_code 61 = .ok (.iinc 6 1, 3) := by decide +kernel
theorem d_MenuScreensModel_same_64 : decode prog_13_method_9_code 64 = .ok (.goto (-44), 3) := by decide +kernel
theorem d_MenuScreensModel_same_67 : decode prog_13_method_9_code 67 = .ok (.iload 5, 2) := by decide +kernel
theorem d_MenuScreensModel_same_69 : decode prog_13_method_9_code 69 = .ok (.ireturn, 1) := by decide +kernel
set_option maxRecDepth 100000 in
set_option maxHeartbeats 4000000 in
theorem cm_MenuScreensModel_same {l : Launch} {S0 : State} {b : Nat} {D : va_G} {dT : Nat → ClassId} (hE : vEnv S0 b D dT) {h0 : vH} {a : Nat} {ar : Nat → Nat} {x : Nat → Int32} {y : Nat → Int64} {A : Nat → Nat → Int32} {B : Nat → Nat → Int64} (M : MV S0 dT h0 a ar x y A B) (p1 : Int32) (p2 : Int32) (p3 : Int32) (p4 : Int32) {q1 q2 q3 q4 : Nat} (h1 : p1 = nI q1) (h2 : p2 = nI q2) (h3 : p3 = nI q3) (h4 : p4 = nI q4) (h12 : q1 ≤ q2) (h34 : q3 ≤ q4) (h24 : q2 ≤ 4000) (h44 : q4 ≤ 4000) : vMi l S0 D vcl GT y_MenuScreensModel_same prog_13_method_9_code 7 (some .boolean) 0 0 0 0 [.ref a, .int p1, .int p2, .int p3, .int p4] h0 (fun r h' => h' = h0 ∧ r = bI (smW (A 6) q1 q2 q3 q4)) := by
  unfold vMi
  refine vM_ofQ hE.1 (by decide) (Nat.le_of_ble_eq_true rfl) (fun p e s m args below meth c ls Q hQ C hr hlk hnm X hl => ?_)
  have C : vC p s m _ c _ _ "MenuScreensModel" GT D vcl (vty dT) := C
  have hx := C.1.1
  have hb := C.1.2.1
  replace M := MR.of M
  obtain ⟨H, eH⟩ : ∃ z, z = s.heap := ⟨_, rfl⟩
  obtain ⟨locs, elocs⟩ : ∃ z : List Loc, z = [] := ⟨_, rfl⟩
  rw [← eH, ← elocs] at X
  rw [← eH, ← elocs]
  clear eH elocs
  have hl : lv_has ls 7 [(0, .ref a), (1, .int p1), (2, .int p2), (3, .int p3), (4, .int p4)] := hl
  obtain ⟨b0, hb0⟩ : ∃ z, z = decide (q2 - q1 = q4 - q3) := ⟨_, rfl⟩
  have d1 : p2 - p1 = nI (q2 - q1) := by rw [h1, h2]; exact nI_sub h12
  have d2 : p4 - p3 = nI (q4 - q3) := by rw [h3, h4]; exact nI_sub h34
  have j15 : ∀ (ls : Array Slot), lv_has ls 7 [(0, .ref a), (1, .int p1), (2, .int p2), (3, .int p3), (4, .int p4)] → W p l e (vRm 0 0 0 0) s m args below meth c H locs 0 0 Q (F0 m 15 ls [.int (bI b0)]) := by
    intro  ls  hl
    refine lv_istore (lv' := [(5, .int (bI b0)), (0, .ref a), (1, .int p1), (2, .int p2), (3, .int p3), (4, .int p4)]) hx hb d_MenuScreensModel_same_15 hl (by decide) rfl (fun ls hl => ?_)
    refine lv_iconst (v := 0) hx hb d_MenuScreensModel_same_17 (by decide) ?_
    refine lv_istore (lv' := [(6, .int 0), (5, .int (bI b0)), (0, .ref a), (1, .int p1), (2, .int p2), (3, .int p3), (4, .int p4)]) hx hb d_MenuScreensModel_same_18 hl (by decide) rfl (fun ls hl => ?_)
    have lp : ∀ (n_lp : Nat) (k : Nat) (g : Int32) (i : Int32) (ls : Array Slot), (i = nI k) → (k ≤ q2 - q1) → (g = bI (b0 && smB (A 6) q1 q3 k)) → (q2 - q1 - k) < n_lp → lv_has ls 7 [(0, .ref a), (1, .int p1), (2, .int p2), (3, .int p3), (4, .int p4), (5, .int g), (6, .int i)] → W p l e (vRm 0 0 0 0) s m args below meth c H locs 0 0 Q (F0 m 20 ls []) := by
      intro n_lp
      induction n_lp with
      | zero => intros; exact absurd (by assumption) (Nat.not_lt_zero _)
      | succ n_lp ih_lp =>
        intro k g i ls ei hk eg hmu_lp hl
        refine lv_iload hx hb d_MenuScreensModel_same_20 (lv_at hl 6 rfl) ?_
        refine lv_iload_n hx hb d_MenuScreensModel_same_22 rfl (lv_at hl 2 rfl) ?_
        refine lv_iload_n hx hb d_MenuScreensModel_same_23 rfl (lv_at hl 1 rfl) ?_
        refine lv_isub hx hb d_MenuScreensModel_same_24 ?_
        refine lv_icmp_ge (tgt := 67) hx hb d_MenuScreensModel_same_25 (by decide) (fun c1 => ?_) (fun c1 => ?_)
        · skip
          refine lv_iload hx hb d_MenuScreensModel_same_67 (lv_at hl 5 rfl) ?_
          exact mq_iret hQ C X hr (by rw [eg]; exact bI_nar _) hlk (⟨rfl, by
              have : k = q2 - q1 := by
                have := (nI_leI (a := q2 - q1) (b := k) (by omega) (by omega)).mp (by rw [← ei, ← d1]; exact c1)
                omega
              rw [eg, this, hb0]; rfl⟩) (Nat.le_refl _) (Nat.le_refl _) d_MenuScreensModel_same_69
        · skip
          have hlt : k < q2 - q1 := by
            rcases Nat.lt_or_ge k (q2 - q1) with q | q
            · exact q
            · exact absurd (by rw [d1, ei]; exact nI_le q (by omega)) c1
          refine lv_iload hx hb d_MenuScreensModel_same_28 (lv_at hl 5 rfl) ?_
          refine lv_if_eq (tgt := 67) hx hb d_MenuScreensModel_same_30 (by decide) (fun c2 => ?_) (fun c2 => ?_)
          · skip
            refine lv_iload hx hb d_MenuScreensModel_same_67 (lv_at hl 5 rfl) ?_
            exact mq_iret hQ C X hr (by rw [eg]; exact bI_nar _) hlk (⟨rfl, by
                have q0 : (b0 && smB (A 6) q1 q3 k) = false := bI_0 (eg.symm.trans c2)
                have : smW (A 6) q1 q2 q3 q4 = false := by
                  unfold smW
                  rw [← hb0]
                  rcases Bool.and_eq_false_iff.mp q0 with q | q
                  · rw [q]; rfl
                  · rw [smB_mono hk q, Bool.and_false]
                rw [this]; exact c2⟩) (Nat.le_refl _) (Nat.le_refl _) d_MenuScreensModel_same_69
          · skip
            have q0 : (b0 && smB (A 6) q1 q3 k) = true := bI_n (fun q => c2 (eg.trans q))
            have hq : b0 = true := (Bool.and_eq_true_iff.mp q0).1
            have hq : q2 - q1 = q4 - q3 := by rw [hb0] at hq; exact of_decide_eq_true hq
            have i1 : p1 + i = nI (q1 + k) := by rw [h1, ei]; exact nI_add _ _
            have i2 : p3 + i = nI (q3 + k) := by rw [h3, ei]; exact nI_add _ _
            refine lv_aload_n hx hb d_MenuScreensModel_same_33 rfl (lv_at hl 0 rfl) ?_
            refine mm_get C X M 6 f_12_13_13 (.ref (ar 6)) rfl d_MenuScreensModel_same_34 ?_
            refine lv_iload_n hx hb d_MenuScreensModel_same_37 rfl (lv_at hl 1 rfl) ?_
            refine lv_iload hx hb d_MenuScreensModel_same_38 (lv_at hl 6 rfl) ?_
            refine lv_iadd hx hb d_MenuScreensModel_same_40 ?_
            refine mm_iald C X M 6 4000 rfl (A 6) rfl (by decide) (q1 + k) i1 (by omega) d_MenuScreensModel_same_41 ?_
            refine lv_aload_n hx hb d_MenuScreensModel_same_42 rfl (lv_at hl 0 rfl) ?_
            refine mm_get C X M 6 f_12_13_13 (.ref (ar 6)) rfl d_MenuScreensModel_same_43 ?_
            refine lv_iload_n hx hb d_MenuScreensModel_same_46 rfl (lv_at hl 3 rfl) ?_
            refine lv_iload hx hb d_MenuScreensModel_same_47 (lv_at hl 6 rfl) ?_
            refine lv_iadd hx hb d_MenuScreensModel_same_49 ?_
            refine mm_iald C X M 6 4000 rfl (A 6) rfl (by decide) (q3 + k) i2 (by omega) d_MenuScreensModel_same_50 ?_
            refine lv_icmp_ne (tgt := 58) hx hb d_MenuScreensModel_same_51 (by decide) (fun c3 => ?_) (fun c3 => ?_)
            · skip
              refine lv_iconst (v := 0) hx hb d_MenuScreensModel_same_58 (by decide) ?_
              refine lv_istore (lv' := [(5, .int 0), (0, .ref a), (1, .int p1), (2, .int p2), (3, .int p3), (4, .int p4), (6, .int i)]) hx hb d_MenuScreensModel_same_59 hl (by decide) rfl (fun ls hl => ?_)
              have eg1 : (0 : Int32) = bI (b0 && smB (A 6) q1 q3 (k + 1)) := by
                rw [smB, ← Bool.and_assoc, q0, decide_eq_false c3]; rfl
              refine lv_iinc (v := (i + 1)) (lv' := [(6, .int (i + 1)), (5, .int 0), (0, .ref a), (1, .int p1), (2, .int p2), (3, .int p3), (4, .int p4)]) hx hb d_MenuScreensModel_same_61 hl (k := 6) rfl rfl (by decide) rfl (fun ls hl => ?_)
              refine lv_goto (tgt := 20) hx hb d_MenuScreensModel_same_64 (by decide) ?_
              exact ih_lp (k + 1) 0 (i + 1) ls  (by rw [ei]; exact nI_1 k) (by omega) eg1 (by omega) (lv_sub hl [2, 3, 4, 5, 6, 1, 0] rfl)
            · skip
              refine lv_iconst (v := 1) hx hb d_MenuScreensModel_same_54 (by decide) ?_
              refine lv_goto (tgt := 59) hx hb d_MenuScreensModel_same_55 (by decide) ?_
              refine lv_istore (lv' := [(5, .int 1), (0, .ref a), (1, .int p1), (2, .int p2), (3, .int p3), (4, .int p4), (6, .int i)]) hx hb d_MenuScreensModel_same_59 hl (by decide) rfl (fun ls hl => ?_)
              have eg1 : (1 : Int32) = bI (b0 && smB (A 6) q1 q3 (k + 1)) := by
                rw [smB, ← Bool.and_assoc, q0, decide_eq_true c3]; rfl
              refine lv_iinc (v := (i + 1)) (lv' := [(6, .int (i + 1)), (5, .int 1), (0, .ref a), (1, .int p1), (2, .int p2), (3, .int p3), (4, .int p4)]) hx hb d_MenuScreensModel_same_61 hl (k := 6) rfl rfl (by decide) rfl (fun ls hl => ?_)
              refine lv_goto (tgt := 20) hx hb d_MenuScreensModel_same_64 (by decide) ?_
              exact ih_lp (k + 1) 1 (i + 1) ls  (by rw [ei]; exact nI_1 k) (by omega) eg1 (by omega) (lv_sub hl [2, 3, 4, 5, 6, 1, 0] rfl)
    exact lp (q2 - q1 - 0 + 1) 0 (bI b0) 0 ls  nI_0.symm (by omega) (by simp [smB]) (Nat.lt_succ_self _) (lv_sub hl [2, 3, 4, 5, 6, 1, 0] rfl)
  refine lv_iload_n hx hb d_MenuScreensModel_same_0 rfl (lv_at hl 2 rfl) ?_
  refine lv_iload_n hx hb d_MenuScreensModel_same_1 rfl (lv_at hl 1 rfl) ?_
  refine lv_isub hx hb d_MenuScreensModel_same_2 ?_
  refine lv_iload hx hb d_MenuScreensModel_same_3 (lv_at hl 4 rfl) ?_
  refine lv_iload_n hx hb d_MenuScreensModel_same_5 rfl (lv_at hl 3 rfl) ?_
  refine lv_isub hx hb d_MenuScreensModel_same_6 ?_
  refine lv_icmp_ne (tgt := 14) hx hb d_MenuScreensModel_same_7 (by decide) (fun c4 => ?_) (fun c4 => ?_)
  · skip
    refine lv_iconst (v := 0) hx hb d_MenuScreensModel_same_14 (by decide) ?_
    have eb : b0 = false := by
      rw [hb0, decide_eq_false_iff_not]
      intro q
      exact c4 (by rw [d1, d2, q])
    rw [show (0 : Int32) = bI b0 by rw [eb]; rfl]
    exact j15 ls (lv_sub hl [0, 1, 2, 3, 4] rfl)
  · skip
    refine lv_iconst (v := 1) hx hb d_MenuScreensModel_same_10 (by decide) ?_
    refine lv_goto (tgt := 15) hx hb d_MenuScreensModel_same_11 (by decide) ?_
    have eb : b0 = true := by
      rw [hb0, decide_eq_true_eq]
      exact nI_eqI (by omega) (by omega) (by rw [← d1, ← d2]; exact c4)
    rw [show (1 : Int32) = bI b0 by rw [eb]; rfl]
    exact j15 ls (lv_sub hl [0, 1, 2, 3, 4] rfl)
theorem d_MenuScreensModel_findValue_0 : decode prog_13_method_12_code 0 = .ok (.iconst 1, 1) := by decide +kernel
theorem d_MenuScreensModel_findValue_1 : decode prog_13_method_12_code 1 = .ok (.istore_n 1, 1) := by decide +kernel
theorem d_MenuScreensModel_findValue_2 : decode prog_13_method_12_code 2 = .ok (.iload_n 1, 1) := by decide +kernel
theorem d_MenuScreensModel_findValue_3 : decode prog_13_method_12_code 3 = .ok (.aload_n 0, 1) := by decide +kernel
theorem d_MenuScreensModel_findValue_4 : decode prog_13_method_12_code 4 = .ok (.getfield 162, 3) := by decide +kernel
theorem d_MenuScreensModel_findValue_7 : decode prog_13_method_12_code 7 = .ok (.if_icmp .gt 38, 3) := by decide +kernel
theorem d_MenuScreensModel_findValue_10 : decode prog_13_method_12_code 10 = .ok (.aload_n 0, 1) := by decide +kernel
theorem d_MenuScreensModel_findValue_11 : decode prog_13_method_12_code 11 = .ok (.aload_n 0, 1) := by decide +kernel
theorem d_MenuScreensModel_findValue_12 : decode prog_13_method_12_code 12 = .ok (.getfield 16, 3) := by decide +kernel
theorem d_MenuScreensModel_findValue_15 : decode prog_13_method_12_code 15 = .ok (.iload_n 1, 1) := by decide +kernel
theorem d_MenuScreensModel_findValue_16 : decode prog_13_method_12_code 16 = .ok (.iaload, 1) := by decide +kernel
theorem d_MenuScreensModel_findValue_17 : decode prog_13_method_12_code 17 = .ok (.aload_n 0, 1) := by decide +kernel
theorem d_MenuScreensModel_findValue_18 : decode prog_13_method_12_code 18 = .ok (.getfield 19, 3) := by decide +kernel
theorem d_MenuScreensModel_findValue_21 : decode prog_13_method_12_code 21 = .ok (.iload_n 1, 1) := by decide +kernel
theorem d_MenuScreensModel_findValue_22 : decode prog_13_method_12_code 22 = .ok (.iaload, 1) := by decide +kernel
theorem d_MenuScreensModel_findValue_23 : decode prog_13_method_12_code 23 = .ok (.aload_n 0, 1) := by decide +kernel
theorem d_MenuScreensModel_findValue_24 : decode prog_13_method_12_code 24 = .ok (.getfield 139, 3) := by decide +kernel
theorem d_MenuScreensModel_findValue_27 : decode prog_13_method_12_code 27 = .ok (.aload_n 0, 1) := by decide +kernel
theorem d_MenuScreensModel_findValue_28 : decode prog_13_method_12_code 28 = .ok (.getfield 142, 3) := by decide +kernel
theorem d_MenuScreensModel_findValue_31 : decode prog_13_method_12_code 31 = .ok (.invokevirtual 165, 3) := by decide +kernel
theorem d_MenuScreensModel_findValue_34 : decode prog_13_method_12_code 34 = .ok (.ifCond .eq 5, 3) := by decide +kernel
theorem d_MenuScreensModel_findValue_37 : decode prog_13_method_12_code 37 = .ok (.iload_n 1, 1) := by decide +kernel
theorem d_MenuScreensModel_findValue_38 : decode prog_13_method_12_code 38 = .ok (.ireturn, 1) := by decide +kernel
theorem d_MenuScreensModel_findValue_39 : decode prog_13_method_12_code 39 = .ok (.iinc 1 1, 3) := by decide +kernel
theorem d_MenuScreensModel_findValue_42 : decode prog_13_method_12_code 42 = .ok (.goto (-40), 3) := by decide +kernel
theorem d_MenuScreensModel_findValue_45 : decode prog_13_method_12_code 45 = .ok (.iconst 0, 1) := by decide +kernel
theorem d_MenuScreensModel_findValue_46 : decode prog_13_method_12_code 46 = .ok (.ireturn, 1) := by decide +kernel
set_option maxRecDepth 100000 in
set_option maxHeartbeats 4000000 in
theorem cm_MenuScreensModel_findValue {l : Launch} {S0 : State} {b : Nat} {D : va_G} {dT : Nat → ClassId} (hE : vEnv S0 b D dT) {h0 : vH} {a : Nat} {ar : Nat → Nat} {x : Nat → Int32} {y : Nat → Int64} {A : Nat → Nat → Int32} {B : Nat → Nat → Int64} (M : MV S0 dT h0 a ar x y A B) {n : Nat} (hn : x 12 = nI n) (hn2 : n ≤ 40) (hR : ∀ v, 1 ≤ v → v ≤ n → ∃ p q, A 13 v = nI p ∧ A 14 v = nI q ∧ p ≤ q ∧ q ≤ 4000) {F T : Nat} (hF : x 9 = nI F) (hT : x 10 = nI T) (hFT : F ≤ T) (hT4 : T ≤ 4000) : vMi l S0 D vcl GT y_MenuScreensModel_findValue prog_13_method_12_code 2 (some .int) 1 30 0 0 [.ref a] h0 (fun r h' => h' = h0 ∧ r = nI (fnd (fun v => smW (A 6) (A 13 v).toNatClampNeg (A 14 v).toNatClampNeg F T) n 1)) := by
  unfold vMi
  refine vM_ofQ hE.1 (by decide) (Nat.le_of_ble_eq_true rfl) (fun p e s m args below meth c ls Q hQ C hr hlk hnm X hl => ?_)
  have C : vC p s m _ c _ _ "MenuScreensModel" GT D vcl (vty dT) := C
  have hx := C.1.1
  have hb := C.1.2.1
  replace M := MR.of M
  obtain ⟨H, eH⟩ : ∃ z, z = s.heap := ⟨_, rfl⟩
  obtain ⟨locs, elocs⟩ : ∃ z : List Loc, z = [] := ⟨_, rfl⟩
  rw [← eH, ← elocs] at X
  rw [← eH, ← elocs]
  clear eH elocs
  have hl : lv_has ls 2 [(0, .ref a)] := hl
  refine lv_iconst (v := 1) hx hb d_MenuScreensModel_findValue_0 (by decide) ?_
  refine lv_istore_n (lv' := [(1, .int 1), (0, .ref a)]) hx hb d_MenuScreensModel_findValue_1 rfl hl (by decide) rfl (fun ls hl => ?_)
  have lp : ∀ (n_lp : Nat) (k : Nat) (i : Int32) (ls : Array Slot) (H : Heap) (locs : List Loc), (i = nI k) → (1 ≤ k) → (k ≤ n + 1) → (fnd (fun v => smW (A 6) (A 13 v).toNatClampNeg (A 14 v).toNatClampNeg F T) (n + 1 - k) k = fnd (fun v => smW (A 6) (A 13 v).toNatClampNeg (A 14 v).toNatClampNeg F T) n 1) → (n + 1 - k) < n_lp → vO S0 D vcl h0 s H locs → lv_has ls 2 [(0, .ref a), (1, .int i)] → W p l e (vRm 1 30 0 0) s m args below meth c H locs 0 0 Q (F0 m 2 ls []) := by
    intro n_lp
    induction n_lp with
    | zero => intros; exact absurd (by assumption) (Nat.not_lt_zero _)
    | succ n_lp ih_lp =>
      intro k i ls H locs ei hk1 hk hs hmu_lp X hl
      refine lv_iload_n hx hb d_MenuScreensModel_findValue_2 rfl (lv_at hl 1 rfl) ?_
      refine lv_aload_n hx hb d_MenuScreensModel_findValue_3 rfl (lv_at hl 0 rfl) ?_
      refine mm_get C X M 12 f_12_162_13 (.int (x 12)) rfl d_MenuScreensModel_findValue_4 ?_
      refine lv_icmp_gt (tgt := 45) hx hb d_MenuScreensModel_findValue_7 (by decide) (fun c1 => ?_) (fun c1 => ?_)
      · skip
        refine lv_iconst (v := 0) hx hb d_MenuScreensModel_findValue_45 (by decide) ?_
        exact mq_iret hQ C X hr rfl hlk (⟨rfl, by
            have : k = n + 1 := by
              have := (nI_ltI (a := n) (b := k) (by omega) (by omega)).mp (by rw [← ei, ← hn]; exact c1)
              omega
            rw [this, Nat.sub_self, fnd] at hs
            rw [← hs]; rfl⟩) (Nat.le_refl _) (Nat.le_refl _) d_MenuScreensModel_findValue_46
      · skip
        have hkn : k ≤ n := by
          rcases Nat.lt_or_ge n k with q | q
          · exact absurd (by rw [hn, ei]; exact nI_lt q (by omega)) c1
          · exact q
        obtain ⟨v1, v2, ev1, ev2, hv12, hv2⟩ := hR k hk1 hkn
        refine lv_aload_n hx hb d_MenuScreensModel_findValue_10 rfl (lv_at hl 0 rfl) ?_
        refine lv_aload_n hx hb d_MenuScreensModel_findValue_11 rfl (lv_at hl 0 rfl) ?_
        refine mm_get C X M 13 f_12_16_13 (.ref (ar 13)) rfl d_MenuScreensModel_findValue_12 ?_
        refine lv_iload_n hx hb d_MenuScreensModel_findValue_15 rfl (lv_at hl 1 rfl) ?_
        refine mm_iald C X M 13 41 rfl (A 13) rfl (by decide) k ei (by omega) d_MenuScreensModel_findValue_16 ?_
        refine lv_aload_n hx hb d_MenuScreensModel_findValue_17 rfl (lv_at hl 0 rfl) ?_
        refine mm_get C X M 14 f_12_19_13 (.ref (ar 14)) rfl d_MenuScreensModel_findValue_18 ?_
        refine lv_iload_n hx hb d_MenuScreensModel_findValue_21 rfl (lv_at hl 1 rfl) ?_
        refine mm_iald C X M 14 41 rfl (A 14) rfl (by decide) k ei (by omega) d_MenuScreensModel_findValue_22 ?_
        refine lv_aload_n hx hb d_MenuScreensModel_findValue_23 rfl (lv_at hl 0 rfl) ?_
        refine mm_get C X M 9 f_12_139_13 (.int (x 9)) rfl d_MenuScreensModel_findValue_24 ?_
        refine lv_aload_n hx hb d_MenuScreensModel_findValue_27 rfl (lv_at hl 0 rfl) ?_
        refine mm_get C X M 10 f_12_142_13 (.int (x 10)) rfl d_MenuScreensModel_findValue_28 ?_
        refine mv_bi X (mv_rV (rest := []) (As := [.int ((A 13) k), .int ((A 14) k), .int (x 9), .int (x 10)]) gt_good C X k_12_165 (cm_MenuScreensModel_same hE M.1 (q1 := v1) (q2 := v2) (q3 := F) (q4 := T) _ _ _ _ ev1 ev2 hF hT hv12 hFT hv2 hT4) M.1.1 rfl rfl ⟨by decide, by decide⟩ rfl hl.1 rfl (Nat.le_of_ble_eq_true rfl) d_MenuScreensModel_findValue_31 ⟨Nat.le_refl _, Nat.le_refl _⟩) (fun r2 hN H locs hp X => ?_)
        obtain ⟨ehr2, er2⟩ := hp
        rw [ehr2] at X
        replace er2 : r2 = bI ((fun v => smW (A 6) (A 13 v).toNatClampNeg (A 14 v).toNatClampNeg F T) k) := by rw [er2]; show _ = bI (smW _ _ _ _ _); rw [ev1, ev2, nI_clamp (by omega), nI_clamp (by omega)]
        refine lv_if_eq (tgt := 39) hx hb d_MenuScreensModel_findValue_34 (by decide) (fun c3 => ?_) (fun c3 => ?_)
        · skip
          refine lv_iinc (v := (i + 1)) (lv' := [(1, .int (i + 1)), (0, .ref a)]) hx hb d_MenuScreensModel_findValue_39 hl (k := 1) rfl rfl (by decide) rfl (fun ls hl => ?_)
          refine lv_goto (tgt := 2) hx hb d_MenuScreensModel_findValue_42 (by decide) ?_
          exact ih_lp (k + 1) (i + 1) ls _ _ (by rw [ei]; exact nI_1 k) (by omega) (by omega) ((fnd_s (g := (fun v => smW (A 6) (A 13 v).toNatClampNeg (A 14 v).toNatClampNeg F T)) (by omega) (bI_0 (er2.symm.trans c3))).symm.trans hs) (by omega) X (lv_sub hl [1, 0] rfl)
        · skip
          refine lv_iload_n hx hb d_MenuScreensModel_findValue_37 rfl (lv_at hl 1 rfl) ?_
          exact mq_iret hQ C X hr rfl hlk (⟨rfl, by rw [← hs, fnd_f (g := (fun v => smW (A 6) (A 13 v).toNatClampNeg (A 14 v).toNatClampNeg F T)) (by omega) (bI_n (fun z => c3 (er2.trans z)))]; exact ei⟩) (Nat.le_refl _) (Nat.le_refl _) d_MenuScreensModel_findValue_38
  exact lp (n + 1 - 1 + 1) 1 1 ls _ _ rfl (Nat.le_refl _) (by omega) (by rw [Nat.add_sub_cancel]) (Nat.lt_succ_self _) X (lv_sub hl [1, 0] rfl)
theorem d_MenuScreensModel_findScreen_0 : decode prog_13_method_13_code 0 = .ok (.iconst 1, 1) := by decide +kernel
theorem d_MenuScreensModel_findScreen_1 : decode prog_13_method_13_code 1 = .ok (.istore_n 3, 1) := by decide +kernel
theorem d_MenuScreensModel_findScreen_2 : decode prog_13_method_13_code 2 = .ok (.iload_n 3, 1) := by decide +kernel
theorem d_MenuScreensModel_findScreen_3 : decode prog_13_method_13_code 3 = .ok (.aload_n 0, 1) := by decide +kernel
theorem d_MenuScreensModel_findScreen_4 : decode prog_13_method_13_code 4 = .ok (.getfield 169, 3) := by decide +kernel
theorem d_MenuScreensModel_findScreen_7 : decode prog_13_method_13_code 7 = .ok (.if_icmp .gt 32, 3) := by decide +kernel
theorem d_MenuScreensModel_findScreen_10 : decode prog_13_method_13_code 10 = .ok (.aload_n 0, 1) := by decide +kernel
theorem d_MenuScreensModel_findScreen_11 : decode prog_13_method_13_code 11 = .ok (.aload_n 0, 1) := by decide +kernel
theorem d_MenuScreensModel_findScreen_12 : decode prog_13_method_13_code 12 = .ok (.getfield 39, 3) := by decide +kernel
theorem d_MenuScreensModel_findScreen_15 : decode prog_13_method_13_code 15 = .ok (.iload_n 3, 1) := by decide +kernel
theorem d_MenuScreensModel_findScreen_16 : decode prog_13_method_13_code 16 = .ok (.iaload, 1) := by decide +kernel
theorem d_MenuScreensModel_findScreen_17 : decode prog_13_method_13_code 17 = .ok (.aload_n 0, 1) := by decide +kernel
theorem d_MenuScreensModel_findScreen_18 : decode prog_13_method_13_code 18 = .ok (.getfield 42, 3) := by decide +kernel
theorem d_MenuScreensModel_findScreen_21 : decode prog_13_method_13_code 21 = .ok (.iload_n 3, 1) := by decide +kernel
theorem d_MenuScreensModel_findScreen_22 : decode prog_13_method_13_code 22 = .ok (.iaload, 1) := by decide +kernel
theorem d_MenuScreensModel_findScreen_23 : decode prog_13_method_13_code 23 = .ok (.iload_n 1, 1) := by decide +kernel
theorem d_MenuScreensModel_findScreen_24 : decode prog_13_method_13_code 24 = .ok (.iload_n 2, 1) := by decide +kernel
theorem d_MenuScreensModel_findScreen_25 : decode prog_13_method_13_code 25 = .ok (.invokevirtual 165, 3) := by decide +kernel
theorem d_MenuScreensModel_findScreen_28 : decode prog_13_method_13_code 28 = .ok (.ifCond .eq 5, 3) := by decide +kernel
theorem d_MenuScreensModel_findScreen_31 : decode prog_13_method_13_code 31 = .ok (.iload_n 3, 1) := by decide +kernel
theorem d_MenuScreensModel_findScreen_32 : decode prog_13_method_13_code 32 = .ok (.ireturn, 1) := by decide +kernel
theorem d_MenuScreensModel_findScreen_33 : decode prog_13_method_13_code 33 = .ok (.iinc 3 1, 3) := by decide +kernel
theorem d_MenuScreensModel_findScreen_36 : decode prog_13_method_13_code 36 = .ok (.goto (-34), 3) := by decide +kernel
theorem d_MenuScreensModel_findScreen_39 : decode prog_13_method_13_code 39 = .ok (.iconst 0, 1) := by decide +kernel
theorem d_MenuScreensModel_findScreen_40 : decode prog_13_method_13_code 40 = .ok (.ireturn, 1) := by decide +kernel
set_option maxRecDepth 100000 in
set_option maxHeartbeats 4000000 in
theorem cm_MenuScreensModel_findScreen {l : Launch} {S0 : State} {b : Nat} {D : va_G} {dT : Nat → ClassId} (hE : vEnv S0 b D dT) {h0 : vH} {a : Nat} {ar : Nat → Nat} {x : Nat → Int32} {y : Nat → Int64} {A : Nat → Nat → Int32} {B : Nat → Nat → Int64} (M : MV S0 dT h0 a ar x y A B) (p1 : Int32) (p2 : Int32) {n : Nat} (hn : x 20 = nI n) (hn2 : n ≤ 30) (hR : ∀ v, 1 ≤ v → v ≤ n → ∃ p q, A 21 v = nI p ∧ A 22 v = nI q ∧ p ≤ q ∧ q ≤ 4000) {F T : Nat} (hF : p1 = nI F) (hT : p2 = nI T) (hFT : F ≤ T) (hT4 : T ≤ 4000) : vMi l S0 D vcl GT y_MenuScreensModel_findScreen prog_13_method_13_code 4 (some .int) 1 30 0 0 [.ref a, .int p1, .int p2] h0 (fun r h' => h' = h0 ∧ r = nI (fnd (fun v => smW (A 6) (A 21 v).toNatClampNeg (A 22 v).toNatClampNeg F T) n 1)) := by
  unfold vMi
  refine vM_ofQ hE.1 (by decide) (Nat.le_of_ble_eq_true rfl) (fun p e s m args below meth c ls Q hQ C hr hlk hnm X hl => ?_)
  have C : vC p s m _ c _ _ "MenuScreensModel" GT D vcl (vty dT) := C
  have hx := C.1.1
  have hb := C.1.2.1
  replace M := MR.of M
  obtain ⟨H, eH⟩ : ∃ z, z = s.heap := ⟨_, rfl⟩
  obtain ⟨locs, elocs⟩ : ∃ z : List Loc, z = [] := ⟨_, rfl⟩
  rw [← eH, ← elocs] at X
  rw [← eH, ← elocs]
  clear eH elocs
  have hl : lv_has ls 4 [(0, .ref a), (1, .int p1), (2, .int p2)] := hl
  refine lv_iconst (v := 1) hx hb d_MenuScreensModel_findScreen_0 (by decide) ?_
  refine lv_istore_n (lv' := [(3, .int 1), (0, .ref a), (1, .int p1), (2, .int p2)]) hx hb d_MenuScreensModel_findScreen_1 rfl hl (by decide) rfl (fun ls hl => ?_)
  have lp : ∀ (n_lp : Nat) (k : Nat) (i : Int32) (ls : Array Slot) (H : Heap) (locs : List Loc), (i = nI k) → (1 ≤ k) → (k ≤ n + 1) → (fnd (fun v => smW (A 6) (A 21 v).toNatClampNeg (A 22 v).toNatClampNeg F T) (n + 1 - k) k = fnd (fun v => smW (A 6) (A 21 v).toNatClampNeg (A 22 v).toNatClampNeg F T) n 1) → (n + 1 - k) < n_lp → vO S0 D vcl h0 s H locs → lv_has ls 4 [(0, .ref a), (1, .int p1), (2, .int p2), (3, .int i)] → W p l e (vRm 1 30 0 0) s m args below meth c H locs 0 0 Q (F0 m 2 ls []) := by
    intro n_lp
    induction n_lp with
    | zero => intros; exact absurd (by assumption) (Nat.not_lt_zero _)
    | succ n_lp ih_lp =>
      intro k i ls H locs ei hk1 hk hs hmu_lp X hl
      refine lv_iload_n hx hb d_MenuScreensModel_findScreen_2 rfl (lv_at hl 3 rfl) ?_
      refine lv_aload_n hx hb d_MenuScreensModel_findScreen_3 rfl (lv_at hl 0 rfl) ?_
      refine mm_get C X M 20 f_12_169_13 (.int (x 20)) rfl d_MenuScreensModel_findScreen_4 ?_
      refine lv_icmp_gt (tgt := 39) hx hb d_MenuScreensModel_findScreen_7 (by decide) (fun c1 => ?_) (fun c1 => ?_)
      · skip
        refine lv_iconst (v := 0) hx hb d_MenuScreensModel_findScreen_39 (by decide) ?_
        exact mq_iret hQ C X hr rfl hlk (⟨rfl, by
            have : k = n + 1 := by
              have := (nI_ltI (a := n) (b := k) (by omega) (by omega)).mp (by rw [← ei, ← hn]; exact c1)
              omega
            rw [this, Nat.sub_self, fnd] at hs
            rw [← hs]; rfl⟩) (Nat.le_refl _) (Nat.le_refl _) d_MenuScreensModel_findScreen_40
      · skip
        have hkn : k ≤ n := by
          rcases Nat.lt_or_ge n k with q | q
          · exact absurd (by rw [hn, ei]; exact nI_lt q (by omega)) c1
          · exact q
        obtain ⟨v1, v2, ev1, ev2, hv12, hv2⟩ := hR k hk1 hkn
        refine lv_aload_n hx hb d_MenuScreensModel_findScreen_10 rfl (lv_at hl 0 rfl) ?_
        refine lv_aload_n hx hb d_MenuScreensModel_findScreen_11 rfl (lv_at hl 0 rfl) ?_
        refine mm_get C X M 21 f_12_39_13 (.ref (ar 21)) rfl d_MenuScreensModel_findScreen_12 ?_
        refine lv_iload_n hx hb d_MenuScreensModel_findScreen_15 rfl (lv_at hl 3 rfl) ?_
        refine mm_iald C X M 21 31 rfl (A 21) rfl (by decide) k ei (by omega) d_MenuScreensModel_findScreen_16 ?_
        refine lv_aload_n hx hb d_MenuScreensModel_findScreen_17 rfl (lv_at hl 0 rfl) ?_
        refine mm_get C X M 22 f_12_42_13 (.ref (ar 22)) rfl d_MenuScreensModel_findScreen_18 ?_
        refine lv_iload_n hx hb d_MenuScreensModel_findScreen_21 rfl (lv_at hl 3 rfl) ?_
        refine mm_iald C X M 22 31 rfl (A 22) rfl (by decide) k ei (by omega) d_MenuScreensModel_findScreen_22 ?_
        refine lv_iload_n hx hb d_MenuScreensModel_findScreen_23 rfl (lv_at hl 1 rfl) ?_
        refine lv_iload_n hx hb d_MenuScreensModel_findScreen_24 rfl (lv_at hl 2 rfl) ?_
        refine mv_bi X (mv_rV (rest := []) (As := [.int ((A 21) k), .int ((A 22) k), .int p1, .int p2]) gt_good C X k_12_165 (cm_MenuScreensModel_same hE M.1 (q1 := v1) (q2 := v2) (q3 := F) (q4 := T) _ _ _ _ ev1 ev2 hF hT hv12 hFT hv2 hT4) M.1.1 rfl rfl ⟨by decide, by decide⟩ rfl hl.1 rfl (Nat.le_of_ble_eq_true rfl) d_MenuScreensModel_findScreen_25 ⟨Nat.le_refl _, Nat.le_refl _⟩) (fun r2 hN H locs hp X => ?_)
        obtain ⟨ehr2, er2⟩ := hp
        rw [ehr2] at X
        replace er2 : r2 = bI ((fun v => smW (A 6) (A 21 v).toNatClampNeg (A 22 v).toNatClampNeg F T) k) := by rw [er2]; show _ = bI (smW _ _ _ _ _); rw [ev1, ev2, nI_clamp (by omega), nI_clamp (by omega)]
        refine lv_if_eq (tgt := 33) hx hb d_MenuScreensModel_findScreen_28 (by decide) (fun c3 => ?_) (fun c3 => ?_)
        · skip
          refine lv_iinc (v := (i + 1)) (lv' := [(3, .int (i + 1)), (0, .ref a), (1, .int p1), (2, .int p2)]) hx hb d_MenuScreensModel_findScreen_33 hl (k := 3) rfl rfl (by decide) rfl (fun ls hl => ?_)
          refine lv_goto (tgt := 2) hx hb d_MenuScreensModel_findScreen_36 (by decide) ?_
          exact ih_lp (k + 1) (i + 1) ls _ _ (by rw [ei]; exact nI_1 k) (by omega) (by omega) ((fnd_s (g := (fun v => smW (A 6) (A 21 v).toNatClampNeg (A 22 v).toNatClampNeg F T)) (by omega) (bI_0 (er2.symm.trans c3))).symm.trans hs) (by omega) X (lv_sub hl [1, 2, 3, 0] rfl)
        · skip
          refine lv_iload_n hx hb d_MenuScreensModel_findScreen_31 rfl (lv_at hl 3 rfl) ?_
          exact mq_iret hQ C X hr rfl hlk (⟨rfl, by rw [← hs, fnd_f (g := (fun v => smW (A 6) (A 21 v).toNatClampNeg (A 22 v).toNatClampNeg F T)) (by omega) (bI_n (fun z => c3 (er2.trans z)))]; exact ei⟩) (Nat.le_refl _) (Nat.le_refl _) d_MenuScreensModel_findScreen_32
  exact lp (n + 1 - 1 + 1) 1 1 ls _ _ rfl (Nat.le_refl _) (by omega) (by rw [Nat.add_sub_cancel]) (Nat.lt_succ_self _) X (lv_sub hl [1, 2, 3, 0] rfl)
