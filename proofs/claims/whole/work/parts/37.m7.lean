theorem d_MenuScreensModel_before_0 : decode prog_13_method_36_code 0 = .ok (.iconst 0, 1) := by decide +kernel
theorem d_MenuScreensModel_before_1 : decode prog_13_method_36_code 1 = .ok (.istore_n 3, 1) := by decide +kernel
theorem d_MenuScreensModel_before_2 : decode prog_13_method_36_code 2 = .ok (.iconst 1, 1) := by decide +kernel
theorem d_MenuScreensModel_before_3 : decode prog_13_method_36_code 3 = .ok (.istore 4, 2) := by decide +kernel
theorem d_MenuScreensModel_before_5 : decode prog_13_method_36_code 5 = .ok (.iload 4, 2) := by decide +kernel
theorem d_MenuScreensModel_before_7 : decode prog_13_method_36_code 7 = .ok (.aload_n 0, 1) := by decide +kernel
theorem d_MenuScreensModel_before_8 : decode prog_13_method_36_code 8 = .ok (.getfield 276, 3) := by decide +kernel
theorem d_MenuScreensModel_before_11 : decode prog_13_method_36_code 11 = .ok (.if_icmp .gt 123, 3) := by decide +kernel
theorem d_MenuScreensModel_before_14 : decode prog_13_method_36_code 14 = .ok (.aload_n 0, 1) := by decide +kernel
theorem d_MenuScreensModel_before_15 : decode prog_13_method_36_code 15 = .ok (.getfield 108, 3) := by decide +kernel
theorem d_MenuScreensModel_before_18 : decode prog_13_method_36_code 18 = .ok (.iload 4, 2) := by decide +kernel
theorem d_MenuScreensModel_before_20 : decode prog_13_method_36_code 20 = .ok (.iaload, 1) := by decide +kernel
theorem d_MenuScreensModel_before_21 : decode prog_13_method_36_code 21 = .ok (.aload_n 0, 1) := by decide +kernel
theorem d_MenuScreensModel_before_22 : decode prog_13_method_36_code 22 = .ok (.getfield 108, 3) := by decide +kernel
theorem d_MenuScreensModel_before_25 : decode prog_13_method_36_code 25 = .ok (.iload_n 1, 1) := by decide +kernel
theorem d_MenuScreensModel_before_26 : decode prog_13_method_36_code 26 = .ok (.iaload, 1) := by decide +kernel
theorem d_MenuScreensModel_before_27 : decode prog_13_method_36_code 27 = .ok (.if_icmp .le 15, 3) := by decide +kernel
theorem d_MenuScreensModel_before_30 : decode prog_13_method_36_code 30 = .ok (.iload_n 2, 1) := by decide +kernel
theorem d_MenuScreensModel_before_31 : decode prog_13_method_36_code 31 = .ok (.ifCond .ne 7, 3) := by decide +kernel
theorem d_MenuScreensModel_before_34 : decode prog_13_method_36_code 34 = .ok (.iconst 1, 1) := by decide +kernel
theorem d_MenuScreensModel_before_35 : decode prog_13_method_36_code 35 = .ok (.goto 68, 3) := by decide +kernel
theorem d_MenuScreensModel_before_38 : decode prog_13_method_36_code 38 = .ok (.iconst 0, 1) := by decide +kernel
theorem d_MenuScreensModel_before_39 : decode prog_13_method_36_code 39 = .ok (.goto 64, 3) := by decide +kernel
theorem d_MenuScreensModel_before_42 : decode prog_13_method_36_code 42 = .ok (.aload_n 0, 1) := by decide +kernel
theorem d_MenuScreensModel_before_43 : decode prog_13_method_36_code 43 = .ok (.getfield 108, 3) := by decide +kernel
theorem d_MenuScreensModel_before_46 : decode prog_13_method_36_code 46 = .ok (.iload 4, 2) := by decide +kernel
theorem d_MenuScreensModel_before_48 : decode prog_13_method_36_code 48 = .ok (.iaload, 1) := by decide +kernel
theorem d_MenuScreensModel_before_49 : decode prog_13_method_36_code 49 = .ok (.aload_n 0, 1) := by decide +kernel
theorem d_MenuScreensModel_before_50 : decode prog_13_method_36_code 50 = .ok (.getfield 108, 3) := by decide +kernel
theorem d_MenuScreensModel_before_53 : decode prog_13_method_36_code 53 = .ok (.iload_n 1, 1) := by decide +kernel
theorem d_MenuScreensModel_before_54 : decode prog_13_method_36_code 54 = .ok (.iaload, 1) := by decide +kernel
theorem d_MenuScreensModel_before_55 : decode prog_13_method_36_code 55 = .ok (.if_icmp .ne 47, 3) := by decide +kernel
theorem d_MenuScreensModel_before_58 : decode prog_13_method_36_code 58 = .ok (.aload_n 0, 1) := by decide +kernel
theorem d_MenuScreensModel_before_59 : decode prog_13_method_36_code 59 = .ok (.getfield 111, 3) := by decide +kernel
theorem d_MenuScreensModel_before_62 : decode prog_13_method_36_code 62 = .ok (.iload 4, 2) := by decide +kernel
theorem d_MenuScreensModel_before_64 : decode prog_13_method_36_code 64 = .ok (.laload, 1) := by decide +kernel
theorem d_MenuScreensModel_before_65 : decode prog_13_method_36_code 65 = .ok (.aload_n 0, 1) := by decide +kernel
theorem d_MenuScreensModel_before_66 : decode prog_13_method_36_code 66 = .ok (.getfield 111, 3) := by decide +kernel
theorem d_MenuScreensModel_before_69 : decode prog_13_method_36_code 69 = .ok (.iload_n 1, 1) := by decide +kernel
theorem d_MenuScreensModel_before_70 : decode prog_13_method_36_code 70 = .ok (.laload, 1) := by decide +kernel
theorem d_MenuScreensModel_before_71 : decode prog_13_method_36_code 71 = .ok (.lcmp, 1) := by decide +kernel
theorem d_MenuScreensModel_before_72 : decode prog_13_method_36_code 72 = .ok (.ifCond .lt 26, 3) := by decide +kernel
theorem d_MenuScreensModel_before_75 : decode prog_13_method_36_code 75 = .ok (.aload_n 0, 1) := by decide +kernel
theorem d_MenuScreensModel_before_76 : decode prog_13_method_36_code 76 = .ok (.getfield 111, 3) := by decide +kernel
theorem d_MenuScreensModel_before_79 : decode prog_13_method_36_code 79 = .ok (.iload 4, 2) := by decide +kernel
theorem d_MenuScreensModel_before_81 : decode prog_13_method_36_code 81 = .ok (.laload, 1) := by decide +kernel
theorem d_MenuScreensModel_before_82 : decode prog_13_method_36_code 82 = .ok (.aload_n 0, 1) := by decide +kernel
theorem d_MenuScreensModel_before_83 : decode prog_13_method_36_code 83 = .ok (.getfield 111, 3) := by decide +kernel
theorem d_MenuScreensModel_before_86 : decode prog_13_method_36_code 86 = .ok (.iload_n 1, 1) := by decide +kernel
theorem d_MenuScreensModel_before_87 : decode prog_13_method_36_code 87 = .ok (.laload, 1) := by decide +kernel
theorem d_MenuScreensModel_before_88 : decode prog_13_method_36_code 88 = .ok (.lcmp, 1) := by decide +kernel
theorem d_MenuScreensModel_before_89 : decode prog_13_method_36_code 89 = .ok (.ifCond .ne 13, 3) := by decide +kernel
theorem d_MenuScreensModel_before_92 : decode prog_13_method_36_code 92 = .ok (.iload 4, 2) := by decide +kernel
theorem d_MenuScreensModel_before_94 : decode prog_13_method_36_code 94 = .ok (.iload_n 1, 1) := by decide +kernel
theorem d_MenuScreensModel_before_95 : decode prog_13_method_36_code 95 = .ok (.if_icmp .ge 7, 3) := by decide +kernel
theorem d_MenuScreensModel_before_98 : decode prog_13_method_36_code 98 = .ok (.iconst 1, 1) := by decide +kernel
theorem d_MenuScreensModel_before_99 : decode prog_13_method_36_code 99 = .ok (.goto 4, 3) := by decide +kernel
theorem d_MenuScreensModel_before_102 : decode prog_13_method_36_code 102 = .ok (.iconst 0, 1) := by decide +kernel
theorem d_MenuScreensModel_before_103 : decode prog_13_method_36_code 103 = .ok (.istore 5, 2) := by decide +kernel
theorem d_MenuScreensModel_before_105 : decode prog_13_method_36_code 105 = .ok (.iload 5, 2) := by decide +kernel
theorem d_MenuScreensModel_before_107 : decode prog_13_method_36_code 107 = .ok (.ifCond .eq 19, 3) := by decide +kernel
theorem d_MenuScreensModel_before_110 : decode prog_13_method_36_code 110 = .ok (.aload_n 0, 1) := by decide +kernel
theorem d_MenuScreensModel_before_111 : decode prog_13_method_36_code 111 = .ok (.getfield 114, 3) := by decide +kernel
theorem d_MenuScreensModel_before_114 : decode prog_13_method_36_code 114 = .ok (.iload 4, 2) := by decide +kernel
theorem d_MenuScreensModel_before_116 : decode prog_13_method_36_code 116 = .ok (.baload, 1) := by decide +kernel
theorem d_MenuScreensModel_before_117 : decode prog_13_method_36_code 117 = .ok (.ifCond .ne 9, 3) := by decide +kernel
theorem d_MenuScreensModel_before_120 : decode prog_13_method_36_code 120 = .ok (.iload_n 3, 1) := by decide +kernel
theorem d_MenuScreensModel_before_121 : decode prog_13_method_36_code 121 = .ok (.iconst 1, 1) := by decide +kernel
theorem d_MenuScreensModel_before_122 : decode prog_13_method_36_code 122 = .ok (.iadd, 1) := by decide +kernel
theorem d_MenuScreensModel_before_123 : decode prog_13_method_36_code 123 = .ok (.goto 4, 3) := by decide +kernel
theorem d_MenuScreensModel_before_126 : decode prog_13_method_36_code 126 = .ok (.iload_n 3, 1) := by decide +kernel
theorem d_MenuScreensModel_before_127 : decode prog_13_method_36_code 127 = .ok (.istore_n 3, 1) := by decide +kernel
theorem d_MenuScreensModel_before_128 : decode prog_13_method_36_code 128 = .ok (.iinc 4 1, 3) := by decide +kernel
theorem d_MenuScreensModel_before_131 : decode prog_13_method_36_code 131 = .ok (.goto (-126), 3) := by decide +kernel
theorem d_MenuScreensModel_before_134 : decode prog_13_method_36_code 134 = .ok (.iload_n 3, 1) := by decide +kernel
theorem d_MenuScreensModel_before_135 : decode prog_13_method_36_code 135 = .ok (.ireturn, 1) := by decide +kernel
set_option maxRecDepth 100000 in
set_option maxHeartbeats 4000000 in
theorem cm_MenuScreensModel_before {l : Launch} {S0 : State} {b : Nat} {D : va_G} {dT : Nat → ClassId} (hE : vEnv S0 b D dT) {h0 : vH} {a : Nat} {ar : Nat → Nat} {x : Nat → Int32} {y : Nat → Int64} {A : Nat → Nat → Int32} {B : Nat → Nat → Int64} (M : MV S0 dT h0 a ar x y A B) (p1 : Int32) (p2 : Int32) {n w0 : Nat} (hn : x 50 = nI n) (hn2 : n ≤ 200) (hw : p1 = nI w0) (hw2 : w0 ≤ 200) : vMi l S0 D vcl GT y_MenuScreensModel_before prog_13_method_36_code 6 (some .int) 0 0 0 0 [.ref a, .int p1, .int p2] h0 (fun r h' => h' = h0 ∧ r = nI (befN (A 51) (B 52) (A 53) n w0 p2)) := by
  unfold vMi
  refine vM_ofQ hE.1 (by decide) (Nat.le_of_ble_eq_true rfl) (fun p e s m args below meth c ls Q hQ C hr hlk hnm X hl => ?_)
  have C : vC p s m _ c _ _ "MenuScreensModel" GT D vcl (vty dT) := C
  have hx := C.1.1
  have hb := C.1.2.1
  replace M := MR.of M
  obtain ⟨H, eH⟩ : ∃ z, z = s.heap := ⟨_, rfl⟩
  obtain ⟨locs, elocs⟩ : ∃ z : List Loc, z = [] := ⟨_, rfl⟩
  rw [← eH, ← elocs] at X
  rw [← eH, ← elocs]
  clear eH elocs
  have hl : lv_has ls 6 [(0, .ref a), (1, .int p1), (2, .int p2)] := hl
  refine lv_iconst (v := 0) hx hb d_MenuScreensModel_before_0 (by decide) ?_
  refine lv_istore_n (lv' := [(3, .int 0), (0, .ref a), (1, .int p1), (2, .int p2)]) hx hb d_MenuScreensModel_before_1 rfl hl (by decide) rfl (fun ls hl => ?_)
  refine lv_iconst (v := 1) hx hb d_MenuScreensModel_before_2 (by decide) ?_
  refine lv_istore (lv' := [(4, .int 1), (3, .int 0), (0, .ref a), (1, .int p1), (2, .int p2)]) hx hb d_MenuScreensModel_before_3 hl (by decide) rfl (fun ls hl => ?_)
  have lp : ∀ (n_lp : Nat) (k : Nat) (v : Int32) (i : Int32) (ls : Array Slot), (i = nI (k + 1)) → (k ≤ n) → (v = nI (cnt (fun j => fstB (A 51) (B 52) w0 p2 (j + 1) && decide (A 53 (j + 1) = 0)) k)) → (n - k) < n_lp → lv_has ls 6 [(0, .ref a), (1, .int p1), (2, .int p2), (3, .int v), (4, .int i)] → W p l e (vRm 0 0 0 0) s m args below meth c H locs 0 0 Q (F0 m 5 ls []) := by
    intro n_lp
    induction n_lp with
    | zero => intros; exact absurd (by assumption) (Nat.not_lt_zero _)
    | succ n_lp ih_lp =>
      intro k v i ls ei hk ev hmu_lp hl
      refine lv_iload hx hb d_MenuScreensModel_before_5 (lv_at hl 4 rfl) ?_
      refine lv_aload_n hx hb d_MenuScreensModel_before_7 rfl (lv_at hl 0 rfl) ?_
      refine mm_get C X M 50 f_12_276_13 (.int (x 50)) rfl d_MenuScreensModel_before_8 ?_
      refine lv_icmp_gt (tgt := 134) hx hb d_MenuScreensModel_before_11 (by decide) (fun c1 => ?_) (fun c1 => ?_)
      · skip
        refine lv_iload_n hx hb d_MenuScreensModel_before_134 rfl (lv_at hl 3 rfl) ?_
        exact mq_iret hQ C X hr rfl hlk (⟨rfl, by
            have : k = n := by
              have := (nI_ltI (a := n) (b := k + 1) (by omega) (by omega)).mp (by rw [← ei, ← hn]; exact c1)
              omega
            rw [ev, this]; rfl⟩) (Nat.le_refl _) (Nat.le_refl _) d_MenuScreensModel_before_135
      · skip
        have hkn : k + 1 ≤ n := by
          rcases Nat.lt_or_ge n (k + 1) with q | q
          · exact absurd (by rw [hn, ei]; exact nI_lt q (by omega)) c1
          · exact q
        have j103 : ∀ (f1 : Int32) (ls : Array Slot), (f1 = bI (fstB (A 51) (B 52) w0 p2 (k + 1))) → lv_has ls 6 [(0, .ref a), (1, .int p1), (2, .int p2), (3, .int v), (4, .int i)] → W p l e (vRm 0 0 0 0) s m args below meth c H locs 0 0 Q (F0 m 103 ls [.int f1]) := by
          intro f1 ls ef hl
          refine lv_istore (lv' := [(5, .int f1), (0, .ref a), (1, .int p1), (2, .int p2), (3, .int v), (4, .int i)]) hx hb d_MenuScreensModel_before_103 hl (by decide) rfl (fun ls hl => ?_)
          refine lv_iload hx hb d_MenuScreensModel_before_105 (lv_at hl 0 rfl) ?_
          refine lv_if_eq (tgt := 126) hx hb d_MenuScreensModel_before_107 (by decide) (fun c2 => ?_) (fun c2 => ?_)
          · skip
            refine lv_iload_n hx hb d_MenuScreensModel_before_126 rfl (lv_at hl 4 rfl) ?_
            refine lv_istore_n (lv' := [(3, .int v), (5, .int f1), (0, .ref a), (1, .int p1), (2, .int p2), (4, .int i)]) hx hb d_MenuScreensModel_before_127 rfl hl (by decide) rfl (fun ls hl => ?_)
            have ev1 : v = nI (cnt (fun j => fstB (A 51) (B 52) w0 p2 (j + 1) && decide (A 53 (j + 1) = 0)) (k + 1)) := by
              rw [cnt_f (by rw [bI_0 (ef.symm.trans c2)]; rfl)]; exact ev
            refine lv_iinc (v := (i + 1)) (lv' := [(4, .int (i + 1)), (3, .int v), (5, .int f1), (0, .ref a), (1, .int p1), (2, .int p2)]) hx hb d_MenuScreensModel_before_128 hl (k := 5) rfl rfl (by decide) rfl (fun ls hl => ?_)
            refine lv_goto (tgt := 5) hx hb d_MenuScreensModel_before_131 (by decide) ?_
            exact ih_lp (k + 1) v (i + 1) ls  (by rw [ei]; exact nI_1 _) (by omega) ev1 (by omega) (lv_sub hl [3, 4, 5, 1, 0] rfl)
          · skip
            refine lv_aload_n hx hb d_MenuScreensModel_before_110 rfl (lv_at hl 1 rfl) ?_
            refine mm_get C X M 53 f_12_114_13 (.ref (ar 53)) rfl d_MenuScreensModel_before_111 ?_
            refine lv_iload hx hb d_MenuScreensModel_before_114 (lv_at hl 5 rfl) ?_
            refine mm_zald C X M 53 201 rfl (A 53) rfl (by decide) (k + 1) ei (by omega) d_MenuScreensModel_before_116 ?_
            refine lv_if_ne (tgt := 126) hx hb d_MenuScreensModel_before_117 (by decide) (fun c3 => ?_) (fun c3 => ?_)
            · skip
              refine lv_iload_n hx hb d_MenuScreensModel_before_126 rfl (lv_at hl 4 rfl) ?_
              refine lv_istore_n (lv' := [(3, .int v), (5, .int f1), (0, .ref a), (1, .int p1), (2, .int p2), (4, .int i)]) hx hb d_MenuScreensModel_before_127 rfl hl (by decide) rfl (fun ls hl => ?_)
              have ev1 : v = nI (cnt (fun j => fstB (A 51) (B 52) w0 p2 (j + 1) && decide (A 53 (j + 1) = 0)) (k + 1)) := by
                rw [cnt_f (by show (_ && decide (A 53 (k + 1) = 0)) = false; rw [decide_eq_false c3, Bool.and_false])]; exact ev
              refine lv_iinc (v := (i + 1)) (lv' := [(4, .int (i + 1)), (3, .int v), (5, .int f1), (0, .ref a), (1, .int p1), (2, .int p2)]) hx hb d_MenuScreensModel_before_128 hl (k := 5) rfl rfl (by decide) rfl (fun ls hl => ?_)
              refine lv_goto (tgt := 5) hx hb d_MenuScreensModel_before_131 (by decide) ?_
              exact ih_lp (k + 1) v (i + 1) ls  (by rw [ei]; exact nI_1 _) (by omega) ev1 (by omega) (lv_sub hl [3, 4, 5, 1, 0] rfl)
            · skip
              refine lv_iload_n hx hb d_MenuScreensModel_before_120 rfl (lv_at hl 4 rfl) ?_
              refine lv_iconst (v := 1) hx hb d_MenuScreensModel_before_121 (by decide) ?_
              refine lv_iadd hx hb d_MenuScreensModel_before_122 ?_
              refine lv_goto (tgt := 127) hx hb d_MenuScreensModel_before_123 (by decide) ?_
              refine lv_istore_n (lv' := [(3, .int (v + 1)), (5, .int f1), (0, .ref a), (1, .int p1), (2, .int p2), (4, .int i)]) hx hb d_MenuScreensModel_before_127 rfl hl (by decide) rfl (fun ls hl => ?_)
              have ev1 : (v + 1) = nI (cnt (fun j => fstB (A 51) (B 52) w0 p2 (j + 1) && decide (A 53 (j + 1) = 0)) (k + 1)) := by
                rw [cnt_t (by show (fstB _ _ _ _ (k + 1) && decide (A 53 (k + 1) = 0)) = true; rw [bI_n (fun z => c2 (ef.trans z)), decide_eq_true c3]; rfl), ev]; exact nI_1 _
              refine lv_iinc (v := (i + 1)) (lv' := [(4, .int (i + 1)), (3, .int (v + 1)), (5, .int f1), (0, .ref a), (1, .int p1), (2, .int p2)]) hx hb d_MenuScreensModel_before_128 hl (k := 5) rfl rfl (by decide) rfl (fun ls hl => ?_)
              refine lv_goto (tgt := 5) hx hb d_MenuScreensModel_before_131 (by decide) ?_
              exact ih_lp (k + 1) (v + 1) (i + 1) ls  (by rw [ei]; exact nI_1 _) (by omega) ev1 (by omega) (lv_sub hl [3, 4, 5, 1, 0] rfl)
        refine lv_aload_n hx hb d_MenuScreensModel_before_14 rfl (lv_at hl 0 rfl) ?_
        refine mm_get C X M 51 f_12_108_13 (.ref (ar 51)) rfl d_MenuScreensModel_before_15 ?_
        refine lv_iload hx hb d_MenuScreensModel_before_18 (lv_at hl 4 rfl) ?_
        refine mm_iald C X M 51 201 rfl (A 51) rfl (by decide) (k + 1) ei (by omega) d_MenuScreensModel_before_20 ?_
        refine lv_aload_n hx hb d_MenuScreensModel_before_21 rfl (lv_at hl 0 rfl) ?_
        refine mm_get C X M 51 f_12_108_13 (.ref (ar 51)) rfl d_MenuScreensModel_before_22 ?_
        refine lv_iload_n hx hb d_MenuScreensModel_before_25 rfl (lv_at hl 1 rfl) ?_
        refine mm_iald C X M 51 201 rfl (A 51) rfl (by decide) w0 hw (by omega) d_MenuScreensModel_before_26 ?_
        refine lv_icmp_le (tgt := 42) hx hb d_MenuScreensModel_before_27 (by decide) (fun c4 => ?_) (fun c4 => ?_)
        · skip
          refine lv_aload_n hx hb d_MenuScreensModel_before_42 rfl (lv_at hl 0 rfl) ?_
          refine mm_get C X M 51 f_12_108_13 (.ref (ar 51)) rfl d_MenuScreensModel_before_43 ?_
          refine lv_iload hx hb d_MenuScreensModel_before_46 (lv_at hl 4 rfl) ?_
          refine mm_iald C X M 51 201 rfl (A 51) rfl (by decide) (k + 1) ei (by omega) d_MenuScreensModel_before_48 ?_
          refine lv_aload_n hx hb d_MenuScreensModel_before_49 rfl (lv_at hl 0 rfl) ?_
          refine mm_get C X M 51 f_12_108_13 (.ref (ar 51)) rfl d_MenuScreensModel_before_50 ?_
          refine lv_iload_n hx hb d_MenuScreensModel_before_53 rfl (lv_at hl 1 rfl) ?_
          refine mm_iald C X M 51 201 rfl (A 51) rfl (by decide) w0 hw (by omega) d_MenuScreensModel_before_54 ?_
          refine lv_icmp_ne (tgt := 102) hx hb d_MenuScreensModel_before_55 (by decide) (fun c5 => ?_) (fun c5 => ?_)
          · skip
            refine lv_iconst (v := 0) hx hb d_MenuScreensModel_before_102 (by decide) ?_
            exact j103 0 ls (by
              unfold fstB
              rw [if_neg (Int32.not_lt.mpr c4)]
              rw [decide_eq_false c5]; rfl) (lv_sub hl [0, 1, 2, 3, 4] rfl)
          · skip
            refine lv_aload_n hx hb d_MenuScreensModel_before_58 rfl (lv_at hl 0 rfl) ?_
            refine mm_get C X M 52 f_12_111_13 (.ref (ar 52)) rfl d_MenuScreensModel_before_59 ?_
            refine lv_iload hx hb d_MenuScreensModel_before_62 (lv_at hl 4 rfl) ?_
            refine mm_lald C X M 52 201 rfl (B 52) rfl (by decide) (k + 1) ei (by omega) d_MenuScreensModel_before_64 ?_
            refine lv_aload_n hx hb d_MenuScreensModel_before_65 rfl (lv_at hl 0 rfl) ?_
            refine mm_get C X M 52 f_12_111_13 (.ref (ar 52)) rfl d_MenuScreensModel_before_66 ?_
            refine lv_iload_n hx hb d_MenuScreensModel_before_69 rfl (lv_at hl 1 rfl) ?_
            refine mm_lald C X M 52 201 rfl (B 52) rfl (by decide) w0 hw (by omega) d_MenuScreensModel_before_70 ?_
            refine W.lcmp hx hb d_MenuScreensModel_before_71 ?_
            refine lv_if_lt (tgt := 98) hx hb d_MenuScreensModel_before_72 (by decide) (fun c6 => ?_) (fun c6 => ?_)
            · skip
              refine lv_iconst (v := 1) hx hb d_MenuScreensModel_before_98 (by decide) ?_
              refine lv_goto (tgt := 103) hx hb d_MenuScreensModel_before_99 (by decide) ?_
              exact j103 1 ls (by
                unfold fstB
                rw [if_neg (Int32.not_lt.mpr c4)]
                rw [decide_eq_true c5]
                rw [decide_eq_true ((lg_cmp_lt _ _).mp c6)]; rfl) (lv_sub hl [0, 1, 2, 3, 4] rfl)
            · skip
              refine lv_aload_n hx hb d_MenuScreensModel_before_75 rfl (lv_at hl 0 rfl) ?_
              refine mm_get C X M 52 f_12_111_13 (.ref (ar 52)) rfl d_MenuScreensModel_before_76 ?_
              refine lv_iload hx hb d_MenuScreensModel_before_79 (lv_at hl 4 rfl) ?_
              refine mm_lald C X M 52 201 rfl (B 52) rfl (by decide) (k + 1) ei (by omega) d_MenuScreensModel_before_81 ?_
              refine lv_aload_n hx hb d_MenuScreensModel_before_82 rfl (lv_at hl 0 rfl) ?_
              refine mm_get C X M 52 f_12_111_13 (.ref (ar 52)) rfl d_MenuScreensModel_before_83 ?_
              refine lv_iload_n hx hb d_MenuScreensModel_before_86 rfl (lv_at hl 1 rfl) ?_
              refine mm_lald C X M 52 201 rfl (B 52) rfl (by decide) w0 hw (by omega) d_MenuScreensModel_before_87 ?_
              refine W.lcmp hx hb d_MenuScreensModel_before_88 ?_
              refine lv_if_ne (tgt := 102) hx hb d_MenuScreensModel_before_89 (by decide) (fun c7 => ?_) (fun c7 => ?_)
              · skip
                refine lv_iconst (v := 0) hx hb d_MenuScreensModel_before_102 (by decide) ?_
                exact j103 0 ls (by
                  unfold fstB
                  rw [if_neg (Int32.not_lt.mpr c4)]
                  rw [decide_eq_true c5]
                  rw [decide_eq_false (fun z => c6 ((lg_cmp_lt _ _).mpr z))]
                  rw [decide_eq_false (fun z => c7 ((lg_cmp_eq _ _).mpr z))]; rfl) (lv_sub hl [0, 1, 2, 3, 4] rfl)
              · skip
                refine lv_iload hx hb d_MenuScreensModel_before_92 (lv_at hl 4 rfl) ?_
                refine lv_iload_n hx hb d_MenuScreensModel_before_94 rfl (lv_at hl 1 rfl) ?_
                refine lv_icmp_ge (tgt := 102) hx hb d_MenuScreensModel_before_95 (by decide) (fun c8 => ?_) (fun c8 => ?_)
                · skip
                  refine lv_iconst (v := 0) hx hb d_MenuScreensModel_before_102 (by decide) ?_
                  exact j103 0 ls (by
                    unfold fstB
                    rw [if_neg (Int32.not_lt.mpr c4)]
                    rw [decide_eq_true c5]
                    rw [decide_eq_false (fun z => c6 ((lg_cmp_lt _ _).mpr z))]
                    rw [decide_eq_true ((lg_cmp_eq _ _).mp c7)]
                    rw [decide_eq_false (fun z => absurd (by rw [ei, hw]; exact nI_lt z (by omega)) (Int32.not_lt.mpr c8))]; rfl) (lv_sub hl [0, 1, 2, 3, 4] rfl)
                · skip
                  refine lv_iconst (v := 1) hx hb d_MenuScreensModel_before_98 (by decide) ?_
                  refine lv_goto (tgt := 103) hx hb d_MenuScreensModel_before_99 (by decide) ?_
                  exact j103 1 ls (by
                    unfold fstB
                    rw [if_neg (Int32.not_lt.mpr c4)]
                    rw [decide_eq_true c5]
                    rw [decide_eq_false (fun z => c6 ((lg_cmp_lt _ _).mpr z))]
                    rw [decide_eq_true ((lg_cmp_eq _ _).mp c7)]
                    rw [decide_eq_true (show k + 1 < w0 by
                      rcases Nat.lt_or_ge (k + 1) w0 with q | q
                      · exact q
                      · exact absurd (by rw [ei, hw]; exact nI_le q (by omega)) c8)]; rfl) (lv_sub hl [0, 1, 2, 3, 4] rfl)
        · skip
          refine lv_iload_n hx hb d_MenuScreensModel_before_30 rfl (lv_at hl 2 rfl) ?_
          refine lv_if_ne (tgt := 38) hx hb d_MenuScreensModel_before_31 (by decide) (fun c9 => ?_) (fun c9 => ?_)
          · skip
            refine lv_iconst (v := 0) hx hb d_MenuScreensModel_before_38 (by decide) ?_
            refine lv_goto (tgt := 103) hx hb d_MenuScreensModel_before_39 (by decide) ?_
            exact j103 0 ls (by
              unfold fstB
              rw [if_pos (Int32.not_le.mp c4), decide_eq_false c9]; rfl) (lv_sub hl [0, 1, 2, 3, 4] rfl)
          · skip
            refine lv_iconst (v := 1) hx hb d_MenuScreensModel_before_34 (by decide) ?_
            refine lv_goto (tgt := 103) hx hb d_MenuScreensModel_before_35 (by decide) ?_
            exact j103 1 ls (by
              unfold fstB
              rw [if_pos (Int32.not_le.mp c4), decide_eq_true c9]; rfl) (lv_sub hl [0, 1, 2, 3, 4] rfl)
  exact lp (n - 0 + 1) 0 0 1 ls  rfl (by omega) rfl (Nat.lt_succ_self _) (lv_sub hl [2, 3, 4, 1, 0] rfl)
theorem d_MenuScreensModel_warning_0 : decode prog_13_method_38_code 0 = .ok (.aload_n 0, 1) := by decide +kernel
theorem d_MenuScreensModel_warning_1 : decode prog_13_method_38_code 1 = .ok (.iconst 0, 1) := by decide +kernel
theorem d_MenuScreensModel_warning_2 : decode prog_13_method_38_code 2 = .ok (.putfield 127, 3) := by decide +kernel
theorem d_MenuScreensModel_warning_5 : decode prog_13_method_38_code 5 = .ok (.iconst 1, 1) := by decide +kernel
theorem d_MenuScreensModel_warning_6 : decode prog_13_method_38_code 6 = .ok (.istore_n 2, 1) := by decide +kernel
theorem d_MenuScreensModel_warning_7 : decode prog_13_method_38_code 7 = .ok (.iload_n 2, 1) := by decide +kernel
theorem d_MenuScreensModel_warning_8 : decode prog_13_method_38_code 8 = .ok (.aload_n 0, 1) := by decide +kernel
theorem d_MenuScreensModel_warning_9 : decode prog_13_method_38_code 9 = .ok (.getfield 276, 3) := by decide +kernel
theorem d_MenuScreensModel_warning_12 : decode prog_13_method_38_code 12 = .ok (.if_icmp .gt 30, 3) := by decide +kernel
theorem d_MenuScreensModel_warning_15 : decode prog_13_method_38_code 15 = .ok (.aload_n 0, 1) := by decide +kernel
theorem d_MenuScreensModel_warning_16 : decode prog_13_method_38_code 16 = .ok (.getfield 114, 3) := by decide +kernel
theorem d_MenuScreensModel_warning_19 : decode prog_13_method_38_code 19 = .ok (.iload_n 2, 1) := by decide +kernel
theorem d_MenuScreensModel_warning_20 : decode prog_13_method_38_code 20 = .ok (.baload, 1) := by decide +kernel
theorem d_MenuScreensModel_warning_21 : decode prog_13_method_38_code 21 = .ok (.ifCond .ne 15, 3) := by decide +kernel
theorem d_MenuScreensModel_warning_24 : decode prog_13_method_38_code 24 = .ok (.aload_n 0, 1) := by decide +kernel
theorem d_MenuScreensModel_warning_25 : decode prog_13_method_38_code 25 = .ok (.iload_n 2, 1) := by decide +kernel
theorem d_MenuScreensModel_warning_26 : decode prog_13_method_38_code 26 = .ok (.iconst 0, 1) := by decide +kernel
theorem d_MenuScreensModel_warning_27 : decode prog_13_method_38_code 27 = .ok (.invokevirtual 279, 3) := by decide +kernel
theorem d_MenuScreensModel_warning_30 : decode prog_13_method_38_code 30 = .ok (.iload_n 1, 1) := by decide +kernel
theorem d_MenuScreensModel_warning_31 : decode prog_13_method_38_code 31 = .ok (.if_icmp .ne 5, 3) := by decide +kernel
theorem d_MenuScreensModel_warning_34 : decode prog_13_method_38_code 34 = .ok (.iload_n 2, 1) := by decide +kernel
theorem d_MenuScreensModel_warning_35 : decode prog_13_method_38_code 35 = .ok (.ireturn, 1) := by decide +kernel
theorem d_MenuScreensModel_warning_36 : decode prog_13_method_38_code 36 = .ok (.iinc 2 1, 3) := by decide +kernel
theorem d_MenuScreensModel_warning_39 : decode prog_13_method_38_code 39 = .ok (.goto (-32), 3) := by decide +kernel
theorem d_MenuScreensModel_warning_42 : decode prog_13_method_38_code 42 = .ok (.iconst 0, 1) := by decide +kernel
theorem d_MenuScreensModel_warning_43 : decode prog_13_method_38_code 43 = .ok (.ireturn, 1) := by decide +kernel
set_option maxRecDepth 100000 in
set_option maxHeartbeats 4000000 in
theorem cm_MenuScreensModel_warning {l : Launch} {S0 : State} {b : Nat} {D : va_G} {dT : Nat → ClassId} (hE : vEnv S0 b D dT) {h0 : vH} {a : Nat} {ar : Nat → Nat} {x : Nat → Int32} {y : Nat → Int64} {A : Nat → Nat → Int32} {B : Nat → Nat → Int64} (M : MV S0 dT h0 a ar x y A B) (p1 : Int32) {n : Nat} (hn : x 50 = nI n) (hn2 : n ≤ 200) : vMi l S0 D vcl GT y_MenuScreensModel_warning prog_13_method_38_code 3 (some .int) 1 30 0 0 [.ref a, .int p1] h0 (fun r h' => ∃ x', MR S0 dT h0 h' a ar x' y A B ∧ x' = upd x 0 0 ∧ r = nI (fnd (fun k => decide (A 53 k = 0) && decide (nI (befN (A 51) (B 52) (A 53) n k 0) = p1)) n 1)) := by
  unfold vMi
  refine vM_ofQ hE.1 (by decide) (Nat.le_of_ble_eq_true rfl) (fun p e s m args below meth c ls Q hQ C hr hlk hnm X hl => ?_)
  have C : vC p s m _ c _ _ "MenuScreensModel" GT D vcl (vty dT) := C
  have hx := C.1.1
  have hb := C.1.2.1
  replace M := MR.of M
  obtain ⟨H, eH⟩ : ∃ z, z = s.heap := ⟨_, rfl⟩
  obtain ⟨locs, elocs⟩ : ∃ z : List Loc, z = [] := ⟨_, rfl⟩
  rw [← eH, ← elocs] at X
  rw [← eH, ← elocs]
  clear eH elocs
  have hl : lv_has ls 3 [(0, .ref a), (1, .int p1)] := hl
  refine lv_aload_n hx hb d_MenuScreensModel_warning_0 rfl (lv_at hl 0 rfl) ?_
  refine lv_iconst (v := 0) hx hb d_MenuScreensModel_warning_1 (by decide) ?_
  refine mm_put C X M 0 p_12_127_13 (upd x 0 0) y rfl rfl rfl (by decide) d_MenuScreensModel_warning_2 (fun h H locs X M => ?_)
  refine lv_iconst (v := 1) hx hb d_MenuScreensModel_warning_5 (by decide) ?_
  refine lv_istore_n (lv' := [(2, .int 1), (0, .ref a), (1, .int p1)]) hx hb d_MenuScreensModel_warning_6 rfl hl (by decide) rfl (fun ls hl => ?_)
  have lp : ∀ (n_lp : Nat) (k : Nat) (i : Int32) (ls : Array Slot) (h : vH) (H : Heap) (locs : List Loc), (i = nI k) → (1 ≤ k) → (k ≤ n + 1) → (fnd (fun k => decide (A 53 k = 0) && decide (nI (befN (A 51) (B 52) (A 53) n k 0) = p1)) (n + 1 - k) k = fnd (fun k => decide (A 53 k = 0) && decide (nI (befN (A 51) (B 52) (A 53) n k 0) = p1)) n 1) → (n + 1 - k) < n_lp → vO S0 D vcl h s H locs → MR S0 dT h0 h a ar (upd x 0 0) y A B → lv_has ls 3 [(0, .ref a), (1, .int p1), (2, .int i)] → W p l e (vRm 1 30 0 0) s m args below meth c H locs 0 0 Q (F0 m 7 ls []) := by
    intro n_lp
    induction n_lp with
    | zero => intros; exact absurd (by assumption) (Nat.not_lt_zero _)
    | succ n_lp ih_lp =>
      intro k i ls h H locs ei hk1 hk hs hmu_lp X M hl
      refine lv_iload_n hx hb d_MenuScreensModel_warning_7 rfl (lv_at hl 2 rfl) ?_
      refine lv_aload_n hx hb d_MenuScreensModel_warning_8 rfl (lv_at hl 0 rfl) ?_
      refine mm_get C X M 50 f_12_276_13 (.int (x 50)) rfl d_MenuScreensModel_warning_9 ?_
      refine lv_icmp_gt (tgt := 42) hx hb d_MenuScreensModel_warning_12 (by decide) (fun c1 => ?_) (fun c1 => ?_)
      · skip
        refine lv_iconst (v := 0) hx hb d_MenuScreensModel_warning_42 (by decide) ?_
        exact mq_iret hQ C X hr rfl hlk (⟨(upd x 0 0), M, rfl, by
            have : k = n + 1 := by
              have := (nI_ltI (a := n) (b := k) (by omega) (by omega)).mp (by rw [← ei, ← hn]; exact c1)
              omega
            rw [this, Nat.sub_self, fnd] at hs
            rw [← hs]; rfl⟩) (Nat.le_refl _) (Nat.le_refl _) d_MenuScreensModel_warning_43
      · skip
        have hkn : k ≤ n := by
          rcases Nat.lt_or_ge n k with q | q
          · exact absurd (by rw [hn, ei]; exact nI_lt q (by omega)) c1
          · exact q
        refine lv_aload_n hx hb d_MenuScreensModel_warning_15 rfl (lv_at hl 0 rfl) ?_
        refine mm_get C X M 53 f_12_114_13 (.ref (ar 53)) rfl d_MenuScreensModel_warning_16 ?_
        refine lv_iload_n hx hb d_MenuScreensModel_warning_19 rfl (lv_at hl 2 rfl) ?_
        refine mm_zald C X M 53 201 rfl (A 53) rfl (by decide) k ei (by omega) d_MenuScreensModel_warning_20 ?_
        refine lv_if_ne (tgt := 36) hx hb d_MenuScreensModel_warning_21 (by decide) (fun c2 => ?_) (fun c2 => ?_)
        · skip
          refine lv_iinc (v := (i + 1)) (lv' := [(2, .int (i + 1)), (0, .ref a), (1, .int p1)]) hx hb d_MenuScreensModel_warning_36 hl (k := 2) rfl rfl (by decide) rfl (fun ls hl => ?_)
          refine lv_goto (tgt := 7) hx hb d_MenuScreensModel_warning_39 (by decide) ?_
          exact ih_lp (k + 1) (i + 1) ls _ _ _ (by rw [ei]; exact nI_1 k) (by omega) (by omega) ((fnd_s (g := (fun k => decide (A 53 k = 0) && decide (nI (befN (A 51) (B 52) (A 53) n k 0) = p1))) (by omega) (by show (decide (A 53 k = 0) && _) = false; rw [decide_eq_false c2]; rfl)).symm.trans hs) (by omega) X M (lv_sub hl [1, 2, 0] rfl)
        · skip
          refine lv_aload_n hx hb d_MenuScreensModel_warning_24 rfl (lv_at hl 0 rfl) ?_
          refine lv_iload_n hx hb d_MenuScreensModel_warning_25 rfl (lv_at hl 2 rfl) ?_
          refine lv_iconst (v := 0) hx hb d_MenuScreensModel_warning_26 (by decide) ?_
          refine mv_bi X (mv_rV (rest := []) (As := [.int i, .int 0]) gt_good C X k_12_279 (cm_MenuScreensModel_before hE M.1 _ _ (n := n) (w0 := k) hn hn2 ei (by omega)) M.1.1 rfl rfl ⟨by decide, by decide⟩ rfl hl.1 rfl (Nat.le_of_ble_eq_true rfl) d_MenuScreensModel_warning_27 ⟨Nat.le_refl _, Nat.le_refl _⟩) (fun r3 hN H locs hp X => ?_)
          obtain ⟨ehr3, er3⟩ := hp
          rw [ehr3] at X
          refine lv_iload_n hx hb d_MenuScreensModel_warning_30 rfl (lv_at hl 1 rfl) ?_
          refine lv_icmp_ne (tgt := 36) hx hb d_MenuScreensModel_warning_31 (by decide) (fun c4 => ?_) (fun c4 => ?_)
          · skip
            refine lv_iinc (v := (i + 1)) (lv' := [(2, .int (i + 1)), (0, .ref a), (1, .int p1)]) hx hb d_MenuScreensModel_warning_36 hl (k := 2) rfl rfl (by decide) rfl (fun ls hl => ?_)
            refine lv_goto (tgt := 7) hx hb d_MenuScreensModel_warning_39 (by decide) ?_
            exact ih_lp (k + 1) (i + 1) ls _ _ _ (by rw [ei]; exact nI_1 k) (by omega) (by omega) ((fnd_s (g := (fun k => decide (A 53 k = 0) && decide (nI (befN (A 51) (B 52) (A 53) n k 0) = p1))) (by omega) (by show (_ && decide (nI (befN (A 51) (B 52) (A 53) n k 0) = p1)) = false; rw [show decide (nI (befN (A 51) (B 52) (A 53) n k 0) = p1) = false from decide_eq_false (by rw [← er3]; exact c4), Bool.and_false])).symm.trans hs) (by omega) X M (lv_sub hl [1, 2, 0] rfl)
          · skip
            refine lv_iload_n hx hb d_MenuScreensModel_warning_34 rfl (lv_at hl 2 rfl) ?_
            exact mq_iret hQ C X hr rfl hlk (⟨(upd x 0 0), M, rfl, by
                rw [← hs, fnd_f (g := (fun k => decide (A 53 k = 0) && decide (nI (befN (A 51) (B 52) (A 53) n k 0) = p1))) (by omega) (by show (decide (A 53 k = 0) && decide (nI (befN (A 51) (B 52) (A 53) n k 0) = p1)) = true; rw [decide_eq_true c2, decide_eq_true (by rw [← er3]; exact c4)]; rfl)]; exact ei⟩) (Nat.le_refl _) (Nat.le_refl _) d_MenuScreensModel_warning_35
  exact lp (n + 1 - 1 + 1) 1 1 ls _ _ _ rfl (Nat.le_refl _) (by omega) (by rw [Nat.add_sub_cancel]) (Nat.lt_succ_self _) X M (lv_sub hl [1, 2, 0] rfl)
theorem d_MenuScreensModel_accept_0 : decode prog_13_method_39_code 0 = .ok (.aload_n 0, 1) := by decide +kernel
theorem d_MenuScreensModel_accept_1 : decode prog_13_method_39_code 1 = .ok (.iconst 0, 1) := by decide +kernel
theorem d_MenuScreensModel_accept_2 : decode prog_13_method_39_code 2 = .ok (.putfield 127, 3) := by decide +kernel
theorem d_MenuScreensModel_accept_5 : decode prog_13_method_39_code 5 = .ok (.iload_n 1, 1) := by decide +kernel
theorem d_MenuScreensModel_accept_6 : decode prog_13_method_39_code 6 = .ok (.iconst 1, 1) := by decide +kernel
theorem d_MenuScreensModel_accept_7 : decode prog_13_method_39_code 7 = .ok (.if_icmp .lt 20, 3) := by decide +kernel
theorem d_MenuScreensModel_accept_10 : decode prog_13_method_39_code 10 = .ok (.iload_n 1, 1) := by decide +kernel
theorem d_MenuScreensModel_accept_11 : decode prog_13_method_39_code 11 = .ok (.aload_n 0, 1) := by decide +kernel
theorem d_MenuScreensModel_accept_12 : decode prog_13_method_39_code 12 = .ok (.getfield 276, 3) := by decide +kernel
theorem d_MenuScreensModel_accept_15 : decode prog_13_method_39_code 15 = .ok (.if_icmp .gt 12, 3) := by decide +kernel
theorem d_MenuScreensModel_accept_18 : decode prog_13_method_39_code 18 = .ok (.aload_n 0, 1) := by decide +kernel
theorem d_MenuScreensModel_accept_19 : decode prog_13_method_39_code 19 = .ok (.getfield 114, 3) := by decide +kernel
theorem d_MenuScreensModel_accept_22 : decode prog_13_method_39_code 22 = .ok (.iload_n 1, 1) := by decide +kernel
theorem d_MenuScreensModel_accept_23 : decode prog_13_method_39_code 23 = .ok (.baload, 1) := by decide +kernel
theorem d_MenuScreensModel_accept_24 : decode prog_13_method_39_code 24 = .ok (.ifCond .eq 5, 3) := by decide +kernel
theorem d_MenuScreensModel_accept_27 : decode prog_13_method_39_code 27 = .ok (.iconst (-1), 1) := by decide +kernel
theorem d_MenuScreensModel_accept_28 : decode prog_13_method_39_code 28 = .ok (.ireturn, 1) := by decide +kernel
theorem d_MenuScreensModel_accept_29 : decode prog_13_method_39_code 29 = .ok (.aload_n 0, 1) := by decide +kernel
theorem d_MenuScreensModel_accept_30 : decode prog_13_method_39_code 30 = .ok (.getfield 273, 3) := by decide +kernel
theorem d_MenuScreensModel_accept_33 : decode prog_13_method_39_code 33 = .ok (.aload_n 0, 1) := by decide +kernel
theorem d_MenuScreensModel_accept_34 : decode prog_13_method_39_code 34 = .ok (.getfield 111, 3) := by decide +kernel
theorem d_MenuScreensModel_accept_37 : decode prog_13_method_39_code 37 = .ok (.iload_n 1, 1) := by decide +kernel
theorem d_MenuScreensModel_accept_38 : decode prog_13_method_39_code 38 = .ok (.laload, 1) := by decide +kernel
theorem d_MenuScreensModel_accept_39 : decode prog_13_method_39_code 39 = .ok (.lsub, 1) := by decide +kernel
theorem d_MenuScreensModel_accept_40 : decode prog_13_method_39_code 40 = .ok (.ldc2_w 283, 3) := by decide +kernel
theorem d_MenuScreensModel_accept_43 : decode prog_13_method_39_code 43 = .ok (.lcmp, 1) := by decide +kernel
theorem d_MenuScreensModel_accept_44 : decode prog_13_method_39_code 44 = .ok (.ifCond .ge 6, 3) := by decide +kernel
theorem d_MenuScreensModel_accept_47 : decode prog_13_method_39_code 47 = .ok (.bipush (-3), 2) := by decide +kernel
theorem d_MenuScreensModel_accept_49 : decode prog_13_method_39_code 49 = .ok (.ireturn, 1) := by decide +kernel
theorem d_MenuScreensModel_accept_50 : decode prog_13_method_39_code 50 = .ok (.aload_n 0, 1) := by decide +kernel
theorem d_MenuScreensModel_accept_51 : decode prog_13_method_39_code 51 = .ok (.getfield 114, 3) := by decide +kernel
theorem d_MenuScreensModel_accept_54 : decode prog_13_method_39_code 54 = .ok (.iload_n 1, 1) := by decide +kernel
theorem d_MenuScreensModel_accept_55 : decode prog_13_method_39_code 55 = .ok (.iconst 1, 1) := by decide +kernel
theorem d_MenuScreensModel_accept_56 : decode prog_13_method_39_code 56 = .ok (.bastore, 1) := by decide +kernel
theorem d_MenuScreensModel_accept_57 : decode prog_13_method_39_code 57 = .ok (.iconst 0, 1) := by decide +kernel
theorem d_MenuScreensModel_accept_58 : decode prog_13_method_39_code 58 = .ok (.istore_n 2, 1) := by decide +kernel
theorem d_MenuScreensModel_accept_59 : decode prog_13_method_39_code 59 = .ok (.iconst 1, 1) := by decide +kernel
theorem d_MenuScreensModel_accept_60 : decode prog_13_method_39_code 60 = .ok (.istore_n 3, 1) := by decide +kernel
theorem d_MenuScreensModel_accept_61 : decode prog_13_method_39_code 61 = .ok (.iload_n 3, 1) := by decide +kernel
theorem d_MenuScreensModel_accept_62 : decode prog_13_method_39_code 62 = .ok (.aload_n 0, 1) := by decide +kernel
theorem d_MenuScreensModel_accept_63 : decode prog_13_method_39_code 63 = .ok (.getfield 276, 3) := by decide +kernel
theorem d_MenuScreensModel_accept_66 : decode prog_13_method_39_code 66 = .ok (.if_icmp .gt 26, 3) := by decide +kernel
theorem d_MenuScreensModel_accept_69 : decode prog_13_method_39_code 69 = .ok (.aload_n 0, 1) := by decide +kernel
theorem d_MenuScreensModel_accept_70 : decode prog_13_method_39_code 70 = .ok (.getfield 114, 3) := by decide +kernel
theorem d_MenuScreensModel_accept_73 : decode prog_13_method_39_code 73 = .ok (.iload_n 3, 1) := by decide +kernel
theorem d_MenuScreensModel_accept_74 : decode prog_13_method_39_code 74 = .ok (.baload, 1) := by decide +kernel
theorem d_MenuScreensModel_accept_75 : decode prog_13_method_39_code 75 = .ok (.ifCond .eq 7, 3) := by decide +kernel
theorem d_MenuScreensModel_accept_78 : decode prog_13_method_39_code 78 = .ok (.iload_n 2, 1) := by decide +kernel
theorem d_MenuScreensModel_accept_79 : decode prog_13_method_39_code 79 = .ok (.goto 6, 3) := by decide +kernel
theorem d_MenuScreensModel_accept_82 : decode prog_13_method_39_code 82 = .ok (.iload_n 2, 1) := by decide +kernel
theorem d_MenuScreensModel_accept_83 : decode prog_13_method_39_code 83 = .ok (.iconst 1, 1) := by decide +kernel
theorem d_MenuScreensModel_accept_84 : decode prog_13_method_39_code 84 = .ok (.iadd, 1) := by decide +kernel
theorem d_MenuScreensModel_accept_85 : decode prog_13_method_39_code 85 = .ok (.istore_n 2, 1) := by decide +kernel
theorem d_MenuScreensModel_accept_86 : decode prog_13_method_39_code 86 = .ok (.iinc 3 1, 3) := by decide +kernel
theorem d_MenuScreensModel_accept_89 : decode prog_13_method_39_code 89 = .ok (.goto (-28), 3) := by decide +kernel
theorem d_MenuScreensModel_accept_92 : decode prog_13_method_39_code 92 = .ok (.iload_n 2, 1) := by decide +kernel
theorem d_MenuScreensModel_accept_93 : decode prog_13_method_39_code 93 = .ok (.ireturn, 1) := by decide +kernel
set_option maxRecDepth 100000 in
set_option maxHeartbeats 4000000 in
theorem cm_MenuScreensModel_accept {l : Launch} {S0 : State} {b : Nat} {D : va_G} {dT : Nat → ClassId} (hE : vEnv S0 b D dT) {h0 : vH} {a : Nat} {ar : Nat → Nat} {x : Nat → Int32} {y : Nat → Int64} {A : Nat → Nat → Int32} {B : Nat → Nat → Int64} (M : MV S0 dT h0 a ar x y A B) (p1 : Int32) {n : Nat} (hn : x 50 = nI n) (hn2 : n ≤ 200) : vMi l S0 D vcl GT y_MenuScreensModel_accept prog_13_method_39_code 4 (some .int) 0 0 0 0 [.ref a, .int p1] h0 (fun r h' => ∃ x' y' A' B', MR S0 dT h0 h' a ar x' y' A' B' ∧ (x' = upd x 0 0 ∧ y' = y ∧ B' = B ∧ ((p1 < 1 ∨ x 50 < p1) ∧ r = -1 ∧ A' = A ∨ ∃ w0, 1 ≤ w0 ∧ w0 ≤ n ∧ p1 = nI w0 ∧ (¬ A 53 w0 = 0 ∧ r = -1 ∧ A' = A ∨ A 53 w0 = 0 ∧ y 54 - B 52 w0 < 30 ∧ r = -3 ∧ A' = A ∨ A 53 w0 = 0 ∧ ¬ y 54 - B 52 w0 < 30 ∧ r = nI (cnt (fun j => decide (upd (A 53) w0 1 (j + 1) = 0)) n) ∧ A' = va_up A 53 (upd (A 53) w0 1))))) := by
  unfold vMi
  refine vM_ofQ hE.1 (by decide) (Nat.le_of_ble_eq_true rfl) (fun p e s m args below meth c ls Q hQ C hr hlk hnm X hl => ?_)
  have C : vC p s m _ c _ _ "MenuScreensModel" GT D vcl (vty dT) := C
  have hx := C.1.1
  have hb := C.1.2.1
  replace M := MR.of M
  obtain ⟨H, eH⟩ : ∃ z, z = s.heap := ⟨_, rfl⟩
  obtain ⟨locs, elocs⟩ : ∃ z : List Loc, z = [] := ⟨_, rfl⟩
  rw [← eH, ← elocs] at X
  rw [← eH, ← elocs]
  clear eH elocs
  have hl : lv_has ls 4 [(0, .ref a), (1, .int p1)] := hl
  refine lv_aload_n hx hb d_MenuScreensModel_accept_0 rfl (lv_at hl 0 rfl) ?_
  refine lv_iconst (v := 0) hx hb d_MenuScreensModel_accept_1 (by decide) ?_
  refine mm_put C X M 0 p_12_127_13 (upd x 0 0) y rfl rfl rfl (by decide) d_MenuScreensModel_accept_2 (fun h H locs X M => ?_)
  refine lv_iload_n hx hb d_MenuScreensModel_accept_5 rfl (lv_at hl 1 rfl) ?_
  refine lv_iconst (v := 1) hx hb d_MenuScreensModel_accept_6 (by decide) ?_
  refine lv_icmp_lt (tgt := 27) hx hb d_MenuScreensModel_accept_7 (by decide) (fun c1 => ?_) (fun c1 => ?_)
  · skip
    refine lv_iconst (v := (-1)) hx hb d_MenuScreensModel_accept_27 (by decide) ?_
    exact mq_iret hQ C X hr rfl hlk (⟨(upd x 0 0), y, A, B, M, rfl, rfl, rfl, Or.inl ⟨by clear X C hl hr; simp_all, rfl, rfl⟩⟩) (Nat.le_refl _) (Nat.le_refl _) d_MenuScreensModel_accept_28
  · skip
    refine lv_iload_n hx hb d_MenuScreensModel_accept_10 rfl (lv_at hl 1 rfl) ?_
    refine lv_aload_n hx hb d_MenuScreensModel_accept_11 rfl (lv_at hl 0 rfl) ?_
    refine mm_get C X M 50 f_12_276_13 (.int (x 50)) rfl d_MenuScreensModel_accept_12 ?_
    refine lv_icmp_gt (tgt := 27) hx hb d_MenuScreensModel_accept_15 (by decide) (fun c2 => ?_) (fun c2 => ?_)
    · skip
      refine lv_iconst (v := (-1)) hx hb d_MenuScreensModel_accept_27 (by decide) ?_
      exact mq_iret hQ C X hr rfl hlk (⟨(upd x 0 0), y, A, B, M, rfl, rfl, rfl, Or.inl ⟨by clear X C hl hr; simp_all, rfl, rfl⟩⟩) (Nat.le_refl _) (Nat.le_refl _) d_MenuScreensModel_accept_28
    · skip
      obtain ⟨w0, hw1, hw2, ew⟩ := ix_le1 (n := n) c1 (by rw [← hn]; exact Int32.not_lt.mp c2) (by omega)
      refine lv_aload_n hx hb d_MenuScreensModel_accept_18 rfl (lv_at hl 0 rfl) ?_
      refine mm_get C X M 53 f_12_114_13 (.ref (ar 53)) rfl d_MenuScreensModel_accept_19 ?_
      refine lv_iload_n hx hb d_MenuScreensModel_accept_22 rfl (lv_at hl 1 rfl) ?_
      refine mm_zald C X M 53 201 rfl (A 53) rfl (by decide) w0 ew (by omega) d_MenuScreensModel_accept_23 ?_
      refine lv_if_eq (tgt := 29) hx hb d_MenuScreensModel_accept_24 (by decide) (fun c3 => ?_) (fun c3 => ?_)
      · skip
        refine lv_aload_n hx hb d_MenuScreensModel_accept_29 rfl (lv_at hl 0 rfl) ?_
        refine mm_get C X M 54 f_12_273_13 (.long (y 54)) rfl d_MenuScreensModel_accept_30 ?_
        refine lv_aload_n hx hb d_MenuScreensModel_accept_33 rfl (lv_at hl 0 rfl) ?_
        refine mm_get C X M 52 f_12_111_13 (.ref (ar 52)) rfl d_MenuScreensModel_accept_34 ?_
        refine lv_iload_n hx hb d_MenuScreensModel_accept_37 rfl (lv_at hl 1 rfl) ?_
        refine mm_lald C X M 52 201 rfl (B 52) rfl (by decide) w0 ew (by omega) d_MenuScreensModel_accept_38 ?_
        refine lv_lsub hx hb d_MenuScreensModel_accept_39 ?_
        refine lv_ldc2 (v := 30) hx hb C.1.2.2.2.1 (C.1.2.2.2.2 _ (gt_6 123 (by decide +kernel) rfl)) d_MenuScreensModel_accept_40 ?_
        refine W.lcmp hx hb d_MenuScreensModel_accept_43 ?_
        refine lv_if_ge (tgt := 50) hx hb d_MenuScreensModel_accept_44 (by decide) (fun c4 => ?_) (fun c4 => ?_)
        · skip
          refine lv_aload_n hx hb d_MenuScreensModel_accept_50 rfl (lv_at hl 0 rfl) ?_
          refine mm_get C X M 53 f_12_114_13 (.ref (ar 53)) rfl d_MenuScreensModel_accept_51 ?_
          refine lv_iload_n hx hb d_MenuScreensModel_accept_54 rfl (lv_at hl 1 rfl) ?_
          refine lv_iconst (v := 1) hx hb d_MenuScreensModel_accept_55 (by decide) ?_
          refine mm_zast C X M 53 201 rfl (A 53) rfl (fun _ => rfl) (by decide) rfl w0 ew (by omega) d_MenuScreensModel_accept_56 (fun h H locs X M => ?_)
          refine lv_iconst (v := 0) hx hb d_MenuScreensModel_accept_57 (by decide) ?_
          refine lv_istore_n (lv' := [(2, .int 0), (0, .ref a), (1, .int p1)]) hx hb d_MenuScreensModel_accept_58 rfl hl (by decide) rfl (fun ls hl => ?_)
          refine lv_iconst (v := 1) hx hb d_MenuScreensModel_accept_59 (by decide) ?_
          refine lv_istore_n (lv' := [(3, .int 1), (2, .int 0), (0, .ref a), (1, .int p1)]) hx hb d_MenuScreensModel_accept_60 rfl hl (by decide) rfl (fun ls hl => ?_)
          have lp : ∀ (n_lp : Nat) (k : Nat) (v : Int32) (i : Int32) (ls : Array Slot), (i = nI (k + 1)) → (k ≤ n) → (v = nI (cnt (fun j => decide (upd (A 53) w0 1 (j + 1) = 0)) k)) → (n - k) < n_lp → lv_has ls 4 [(0, .ref a), (1, .int p1), (2, .int v), (3, .int i)] → W p l e (vRm 0 0 0 0) s m args below meth c H locs 0 0 Q (F0 m 61 ls []) := by
            intro n_lp
            induction n_lp with
            | zero => intros; exact absurd (by assumption) (Nat.not_lt_zero _)
            | succ n_lp ih_lp =>
              intro k v i ls ei hk ev hmu_lp hl
              refine lv_iload_n hx hb d_MenuScreensModel_accept_61 rfl (lv_at hl 3 rfl) ?_
              refine lv_aload_n hx hb d_MenuScreensModel_accept_62 rfl (lv_at hl 0 rfl) ?_
              refine mm_get C X M 50 f_12_276_13 (.int (x 50)) rfl d_MenuScreensModel_accept_63 ?_
              refine lv_icmp_gt (tgt := 92) hx hb d_MenuScreensModel_accept_66 (by decide) (fun c5 => ?_) (fun c5 => ?_)
              · skip
                refine lv_iload_n hx hb d_MenuScreensModel_accept_92 rfl (lv_at hl 2 rfl) ?_
                exact mq_iret hQ C X hr rfl hlk (⟨(upd x 0 0), y, (va_up A 53 (upd (A 53) w0 1)), B, M, rfl, rfl, rfl, Or.inr ⟨w0, hw1, hw2, ew, Or.inr (Or.inr ⟨c3, Int64.not_lt.mpr ((lg_cmp_ge _ _).mp c4), by
                    have : k = n := by
                      have := (nI_ltI (a := n) (b := k + 1) (by omega) (by omega)).mp (by rw [← ei, ← hn]; exact c5)
                      omega
                    rw [ev, this], rfl⟩)⟩⟩) (Nat.le_refl _) (Nat.le_refl _) d_MenuScreensModel_accept_93
              · skip
                have hkn : k + 1 ≤ n := by
                  rcases Nat.lt_or_ge n (k + 1) with q | q
                  · exact absurd (by rw [hn, ei]; exact nI_lt q (by omega)) c5
                  · exact q
                refine lv_aload_n hx hb d_MenuScreensModel_accept_69 rfl (lv_at hl 0 rfl) ?_
                refine mm_get C X M 53 f_12_114_13 (.ref (ar 53)) rfl d_MenuScreensModel_accept_70 ?_
                refine lv_iload_n hx hb d_MenuScreensModel_accept_73 rfl (lv_at hl 3 rfl) ?_
                refine mm_zald C X M 53 201 rfl (upd (A 53) w0 1) rfl (by decide) (k + 1) ei (by omega) d_MenuScreensModel_accept_74 ?_
                refine lv_if_eq (tgt := 82) hx hb d_MenuScreensModel_accept_75 (by decide) (fun c6 => ?_) (fun c6 => ?_)
                · skip
                  refine lv_iload_n hx hb d_MenuScreensModel_accept_82 rfl (lv_at hl 2 rfl) ?_
                  refine lv_iconst (v := 1) hx hb d_MenuScreensModel_accept_83 (by decide) ?_
                  refine lv_iadd hx hb d_MenuScreensModel_accept_84 ?_
                  refine lv_istore_n (lv' := [(2, .int (v + 1)), (0, .ref a), (1, .int p1), (3, .int i)]) hx hb d_MenuScreensModel_accept_85 rfl hl (by decide) rfl (fun ls hl => ?_)
                  have ev1 : (v + 1) = nI (cnt (fun j => decide (upd (A 53) w0 1 (j + 1) = 0)) (k + 1)) := by
                    rw [cnt_t (by show decide (upd (A 53) w0 1 (k + 1) = 0) = true; exact decide_eq_true c6), ev]; exact nI_1 _
                  refine lv_iinc (v := (i + 1)) (lv' := [(3, .int (i + 1)), (2, .int (v + 1)), (0, .ref a), (1, .int p1)]) hx hb d_MenuScreensModel_accept_86 hl (k := 3) rfl rfl (by decide) rfl (fun ls hl => ?_)
                  refine lv_goto (tgt := 61) hx hb d_MenuScreensModel_accept_89 (by decide) ?_
                  exact ih_lp (k + 1) (v + 1) (i + 1) ls  (by rw [ei]; exact nI_1 _) (by omega) ev1 (by omega) (lv_sub hl [2, 3, 1, 0] rfl)
                · skip
                  refine lv_iload_n hx hb d_MenuScreensModel_accept_78 rfl (lv_at hl 2 rfl) ?_
                  refine lv_goto (tgt := 85) hx hb d_MenuScreensModel_accept_79 (by decide) ?_
                  refine lv_istore_n (lv' := [(2, .int v), (0, .ref a), (1, .int p1), (3, .int i)]) hx hb d_MenuScreensModel_accept_85 rfl hl (by decide) rfl (fun ls hl => ?_)
                  have ev1 : v = nI (cnt (fun j => decide (upd (A 53) w0 1 (j + 1) = 0)) (k + 1)) := by
                    rw [cnt_f (by show decide (upd (A 53) w0 1 (k + 1) = 0) = false; exact decide_eq_false c6)]; exact ev
                  refine lv_iinc (v := (i + 1)) (lv' := [(3, .int (i + 1)), (2, .int v), (0, .ref a), (1, .int p1)]) hx hb d_MenuScreensModel_accept_86 hl (k := 3) rfl rfl (by decide) rfl (fun ls hl => ?_)
                  refine lv_goto (tgt := 61) hx hb d_MenuScreensModel_accept_89 (by decide) ?_
                  exact ih_lp (k + 1) v (i + 1) ls  (by rw [ei]; exact nI_1 _) (by omega) ev1 (by omega) (lv_sub hl [2, 3, 1, 0] rfl)
          exact lp (n - 0 + 1) 0 0 1 ls  rfl (by omega) rfl (Nat.lt_succ_self _) (lv_sub hl [2, 3, 1, 0] rfl)
        · skip
          refine lv_bipush (v := (-3)) hx hb d_MenuScreensModel_accept_47 (by decide) ?_
          exact mq_iret hQ C X hr rfl hlk (⟨(upd x 0 0), y, A, B, M, rfl, rfl, rfl, Or.inr ⟨w0, hw1, hw2, ew, Or.inr (Or.inl ⟨c3, Int64.not_le.mp (fun z => c4 ((lg_cmp_ge _ _).mpr z)), rfl, rfl⟩)⟩⟩) (Nat.le_refl _) (Nat.le_refl _) d_MenuScreensModel_accept_49
      · skip
        refine lv_iconst (v := (-1)) hx hb d_MenuScreensModel_accept_27 (by decide) ?_
        exact mq_iret hQ C X hr rfl hlk (⟨(upd x 0 0), y, A, B, M, rfl, rfl, rfl, Or.inr ⟨w0, hw1, hw2, ew, Or.inl ⟨c3, rfl, rfl⟩⟩⟩) (Nat.le_refl _) (Nat.le_refl _) d_MenuScreensModel_accept_28
theorem d_MenuScreensModel_lamp_0 : decode prog_13_method_42_code 0 = .ok (.aload_n 0, 1) := by decide +kernel
theorem d_MenuScreensModel_lamp_1 : decode prog_13_method_42_code 1 = .ok (.iconst 0, 1) := by decide +kernel
theorem d_MenuScreensModel_lamp_2 : decode prog_13_method_42_code 2 = .ok (.putfield 127, 3) := by decide +kernel
theorem d_MenuScreensModel_lamp_5 : decode prog_13_method_42_code 5 = .ok (.iload_n 1, 1) := by decide +kernel
theorem d_MenuScreensModel_lamp_6 : decode prog_13_method_42_code 6 = .ok (.ifCond .lt 9, 3) := by decide +kernel
theorem d_MenuScreensModel_lamp_9 : decode prog_13_method_42_code 9 = .ok (.iload_n 1, 1) := by decide +kernel
theorem d_MenuScreensModel_lamp_10 : decode prog_13_method_42_code 10 = .ok (.bipush 15, 2) := by decide +kernel
theorem d_MenuScreensModel_lamp_12 : decode prog_13_method_42_code 12 = .ok (.if_icmp .le 5, 3) := by decide +kernel
theorem d_MenuScreensModel_lamp_15 : decode prog_13_method_42_code 15 = .ok (.iconst (-1), 1) := by decide +kernel
theorem d_MenuScreensModel_lamp_16 : decode prog_13_method_42_code 16 = .ok (.ireturn, 1) := by decide +kernel
theorem d_MenuScreensModel_lamp_17 : decode prog_13_method_42_code 17 = .ok (.aload_n 0, 1) := by decide +kernel
theorem d_MenuScreensModel_lamp_18 : decode prog_13_method_42_code 18 = .ok (.getfield 117, 3) := by decide +kernel
theorem d_MenuScreensModel_lamp_21 : decode prog_13_method_42_code 21 = .ok (.iload_n 1, 1) := by decide +kernel
theorem d_MenuScreensModel_lamp_22 : decode prog_13_method_42_code 22 = .ok (.iload_n 2, 1) := by decide +kernel
theorem d_MenuScreensModel_lamp_23 : decode prog_13_method_42_code 23 = .ok (.ifCond .ne 7, 3) := by decide +kernel
theorem d_MenuScreensModel_lamp_26 : decode prog_13_method_42_code 26 = .ok (.iconst 1, 1) := by decide +kernel
theorem d_MenuScreensModel_lamp_27 : decode prog_13_method_42_code 27 = .ok (.goto 4, 3) := by decide +kernel
theorem d_MenuScreensModel_lamp_30 : decode prog_13_method_42_code 30 = .ok (.iconst 0, 1) := by decide +kernel
theorem d_MenuScreensModel_lamp_31 : decode prog_13_method_42_code 31 = .ok (.bastore, 1) := by decide +kernel
theorem d_MenuScreensModel_lamp_32 : decode prog_13_method_42_code 32 = .ok (.iconst 0, 1) := by decide +kernel
theorem d_MenuScreensModel_lamp_33 : decode prog_13_method_42_code 33 = .ok (.istore_n 3, 1) := by decide +kernel
theorem d_MenuScreensModel_lamp_34 : decode prog_13_method_42_code 34 = .ok (.iconst 0, 1) := by decide +kernel
theorem d_MenuScreensModel_lamp_35 : decode prog_13_method_42_code 35 = .ok (.istore 4, 2) := by decide +kernel
theorem d_MenuScreensModel_lamp_37 : decode prog_13_method_42_code 37 = .ok (.iload 4, 2) := by decide +kernel
theorem d_MenuScreensModel_lamp_39 : decode prog_13_method_42_code 39 = .ok (.bipush 16, 2) := by decide +kernel
theorem d_MenuScreensModel_lamp_41 : decode prog_13_method_42_code 41 = .ok (.if_icmp .ge 27, 3) := by decide +kernel
theorem d_MenuScreensModel_lamp_44 : decode prog_13_method_42_code 44 = .ok (.aload_n 0, 1) := by decide +kernel
theorem d_MenuScreensModel_lamp_45 : decode prog_13_method_42_code 45 = .ok (.getfield 117, 3) := by decide +kernel
theorem d_MenuScreensModel_lamp_48 : decode prog_13_method_42_code 48 = .ok (.iload 4, 2) := by decide +kernel
theorem d_MenuScreensModel_lamp_50 : decode prog_13_method_42_code 50 = .ok (.baload, 1) := by decide +kernel
theorem d_MenuScreensModel_lamp_51 : decode prog_13_method_42_code 51 = .ok (.ifCond .eq 9, 3) := by decide +kernel
theorem d_MenuScreensModel_lamp_54 : decode prog_13_method_42_code 54 = .ok (.iload_n 3, 1) := by decide +kernel
theorem d_MenuScreensModel_lamp_55 : decode prog_13_method_42_code 55 = .ok (.iconst 1, 1) := by decide +kernel
theorem d_MenuScreensModel_lamp_56 : decode prog_13_method_42_code 56 = .ok (.iadd, 1) := by decide +kernel
theorem d_MenuScreensModel_lamp_57 : decode prog_13_method_42_code 57 = .ok (.goto 4, 3) := by decide +kernel
theorem d_MenuScreensModel_lamp_60 : decode prog_13_method_42_code 60 = .ok (.iload_n 3, 1) := by decide +kernel
theorem d_MenuScreensModel_lamp_61 : decode prog_13_method_42_code 61 = .ok (.istore_n 3, 1) := by decide +kernel
theorem d_MenuScreensModel_lamp_62 : decode prog_13_method_42_code 62 = .ok (.iinc 4 1, 3) := by decide +kernel
theorem d_MenuScreensModel_lamp_65 : decode prog_13_method_42_code 65 = .ok (.goto (-28), 3) := by decide +kernel
theorem d_MenuScreensModel_lamp_68 : decode prog_13_method_42_code 68 = .ok (.iload_n 3, 1) := by decide +kernel
theorem d_MenuScreensModel_lamp_69 : decode prog_13_method_42_code 69 = .ok (.ireturn, 1) := by decide +kernel
set_option maxRecDepth 100000 in
set_option maxHeartbeats 4000000 in
theorem cm_MenuScreensModel_lamp {l : Launch} {S0 : State} {b : Nat} {D : va_G} {dT : Nat → ClassId} (hE : vEnv S0 b D dT) {h0 : vH} {a : Nat} {ar : Nat → Nat} {x : Nat → Int32} {y : Nat → Int64} {A : Nat → Nat → Int32} {B : Nat → Nat → Int64} (M : MV S0 dT h0 a ar x y A B) (p1 : Int32) (p2 : Int32) : vMi l S0 D vcl GT y_MenuScreensModel_lamp prog_13_method_42_code 5 (some .int) 0 0 0 0 [.ref a, .int p1, .int p2] h0 (fun r h' => ∃ x' y' A' B', MR S0 dT h0 h' a ar x' y' A' B' ∧ (x' = upd x 0 0 ∧ y' = y ∧ B' = B ∧ ((p1 < 0 ∨ 15 < p1) ∧ r = -1 ∧ A' = A ∨ ∃ j, j < 16 ∧ p1 = nI j ∧ r = nI (cnt (fun k => decide (¬ upd (A 58) j (if p2 = 0 then 1 else 0) k = 0)) 16) ∧ A' = va_up A 58 (upd (A 58) j (if p2 = 0 then 1 else 0))))) := by
  unfold vMi
  refine vM_ofQ hE.1 (by decide) (Nat.le_of_ble_eq_true rfl) (fun p e s m args below meth c ls Q hQ C hr hlk hnm X hl => ?_)
  have C : vC p s m _ c _ _ "MenuScreensModel" GT D vcl (vty dT) := C
  have hx := C.1.1
  have hb := C.1.2.1
  replace M := MR.of M
  obtain ⟨H, eH⟩ : ∃ z, z = s.heap := ⟨_, rfl⟩
  obtain ⟨locs, elocs⟩ : ∃ z : List Loc, z = [] := ⟨_, rfl⟩
  rw [← eH, ← elocs] at X
  rw [← eH, ← elocs]
  clear eH elocs
  have hl : lv_has ls 5 [(0, .ref a), (1, .int p1), (2, .int p2)] := hl
  refine lv_aload_n hx hb d_MenuScreensModel_lamp_0 rfl (lv_at hl 0 rfl) ?_
  refine lv_iconst (v := 0) hx hb d_MenuScreensModel_lamp_1 (by decide) ?_
  refine mm_put C X M 0 p_12_127_13 (upd x 0 0) y rfl rfl rfl (by decide) d_MenuScreensModel_lamp_2 (fun h H locs X M => ?_)
  refine lv_iload_n hx hb d_MenuScreensModel_lamp_5 rfl (lv_at hl 1 rfl) ?_
  refine lv_if_lt (tgt := 15) hx hb d_MenuScreensModel_lamp_6 (by decide) (fun c1 => ?_) (fun c1 => ?_)
  · skip
    refine lv_iconst (v := (-1)) hx hb d_MenuScreensModel_lamp_15 (by decide) ?_
    exact mq_iret hQ C X hr rfl hlk (⟨(upd x 0 0), y, A, B, M, rfl, rfl, rfl, Or.inl ⟨by clear X C hl hr; simp_all, rfl, rfl⟩⟩) (Nat.le_refl _) (Nat.le_refl _) d_MenuScreensModel_lamp_16
  · skip
    refine lv_iload_n hx hb d_MenuScreensModel_lamp_9 rfl (lv_at hl 1 rfl) ?_
    refine lv_bipush (v := 15) hx hb d_MenuScreensModel_lamp_10 (by decide) ?_
    refine lv_icmp_le (tgt := 17) hx hb d_MenuScreensModel_lamp_12 (by decide) (fun c2 => ?_) (fun c2 => ?_)
    · skip
      obtain ⟨j, hj, ej⟩ := ix_lt (n := 16) c1 (Int32.lt_of_le_of_lt c2 (by decide)) (by decide)
      have j31 : ∀ (z : Int32) (ls : Array Slot), (z = (if p2 = 0 then 1 else 0)) → lv_has ls 5 [(0, .ref a), (1, .int p1), (2, .int p2)] → W p l e (vRm 0 0 0 0) s m args below meth c H locs 0 0 Q (F0 m 31 ls [.int z, .int p1, .ref (ar 58)]) := by
        intro z ls ez hl
        have hz : vp_nar .boolean z = z := by rw [ez]; split <;> rfl
        refine mm_zast C X M 58 16 rfl (A 58) rfl (fun _ => rfl) (by decide) hz j ej (by omega) d_MenuScreensModel_lamp_31 (fun h H locs X M => ?_)
        refine lv_iconst (v := 0) hx hb d_MenuScreensModel_lamp_32 (by decide) ?_
        refine lv_istore_n (lv' := [(3, .int 0), (0, .ref a), (1, .int p1), (2, .int p2)]) hx hb d_MenuScreensModel_lamp_33 rfl hl (by decide) rfl (fun ls hl => ?_)
        refine lv_iconst (v := 0) hx hb d_MenuScreensModel_lamp_34 (by decide) ?_
        refine lv_istore (lv' := [(4, .int 0), (3, .int 0), (0, .ref a), (1, .int p1), (2, .int p2)]) hx hb d_MenuScreensModel_lamp_35 hl (by decide) rfl (fun ls hl => ?_)
        have lp : ∀ (n_lp : Nat) (k : Nat) (v : Int32) (i : Int32) (ls : Array Slot), (i = nI k) → (k ≤ 16) → (v = nI (cnt (fun k => decide (¬ upd (A 58) j (if p2 = 0 then 1 else 0) k = 0)) k)) → (16 - k) < n_lp → lv_has ls 5 [(0, .ref a), (1, .int p1), (2, .int p2), (3, .int v), (4, .int i)] → W p l e (vRm 0 0 0 0) s m args below meth c H locs 0 0 Q (F0 m 37 ls []) := by
          intro n_lp
          induction n_lp with
          | zero => intros; exact absurd (by assumption) (Nat.not_lt_zero _)
          | succ n_lp ih_lp =>
            intro k v i ls ei hk ev hmu_lp hl
            refine lv_iload hx hb d_MenuScreensModel_lamp_37 (lv_at hl 4 rfl) ?_
            refine lv_bipush (v := 16) hx hb d_MenuScreensModel_lamp_39 (by decide) ?_
            refine lv_icmp_ge (tgt := 68) hx hb d_MenuScreensModel_lamp_41 (by decide) (fun c3 => ?_) (fun c3 => ?_)
            · skip
              refine lv_iload_n hx hb d_MenuScreensModel_lamp_68 rfl (lv_at hl 3 rfl) ?_
              exact mq_iret hQ C X hr rfl hlk (⟨(upd x 0 0), y, (va_up A 58 (upd (A 58) j z)), B, M, rfl, rfl, rfl, Or.inr ⟨j, hj, ej, by
                  have : k = 16 := by
                    have := (nI_leI (a := 16) (b := k) (by omega) (by omega)).mp (by rw [← ei]; exact c3)
                    omega
                  rw [ev, this], by rw [ez]⟩⟩) (Nat.le_refl _) (Nat.le_refl _) d_MenuScreensModel_lamp_69
            · skip
              have hlt : k < 16 := by
                rcases Nat.lt_or_ge k 16 with q | q
                · exact q
                · exact absurd (by rw [ei]; exact nI_le (a := 16) q (by omega)) c3
              refine lv_aload_n hx hb d_MenuScreensModel_lamp_44 rfl (lv_at hl 0 rfl) ?_
              refine mm_get C X M 58 f_12_117_13 (.ref (ar 58)) rfl d_MenuScreensModel_lamp_45 ?_
              refine lv_iload hx hb d_MenuScreensModel_lamp_48 (lv_at hl 4 rfl) ?_
              refine mm_zald C X M 58 16 rfl (upd (A 58) j z) rfl (by decide) k ei (by omega) d_MenuScreensModel_lamp_50 ?_
              refine lv_if_eq (tgt := 60) hx hb d_MenuScreensModel_lamp_51 (by decide) (fun c4 => ?_) (fun c4 => ?_)
              · skip
                refine lv_iload_n hx hb d_MenuScreensModel_lamp_60 rfl (lv_at hl 3 rfl) ?_
                refine lv_istore_n (lv' := [(3, .int v), (0, .ref a), (1, .int p1), (2, .int p2), (4, .int i)]) hx hb d_MenuScreensModel_lamp_61 rfl hl (by decide) rfl (fun ls hl => ?_)
                have ev1 : v = nI (cnt (fun k => decide (¬ upd (A 58) j (if p2 = 0 then 1 else 0) k = 0)) (k + 1)) := by
                  rw [cnt_f (by show decide (¬ upd (A 58) j _ k = 0) = false; rw [← ez]; exact decide_eq_false (fun q => q c4))]; exact ev
                refine lv_iinc (v := (i + 1)) (lv' := [(4, .int (i + 1)), (3, .int v), (0, .ref a), (1, .int p1), (2, .int p2)]) hx hb d_MenuScreensModel_lamp_62 hl (k := 4) rfl rfl (by decide) rfl (fun ls hl => ?_)
                refine lv_goto (tgt := 37) hx hb d_MenuScreensModel_lamp_65 (by decide) ?_
                exact ih_lp (k + 1) v (i + 1) ls  (by rw [ei]; exact nI_1 _) (by omega) ev1 (by omega) (lv_sub hl [2, 3, 4, 1, 0] rfl)
              · skip
                refine lv_iload_n hx hb d_MenuScreensModel_lamp_54 rfl (lv_at hl 3 rfl) ?_
                refine lv_iconst (v := 1) hx hb d_MenuScreensModel_lamp_55 (by decide) ?_
                refine lv_iadd hx hb d_MenuScreensModel_lamp_56 ?_
                refine lv_goto (tgt := 61) hx hb d_MenuScreensModel_lamp_57 (by decide) ?_
                refine lv_istore_n (lv' := [(3, .int (v + 1)), (0, .ref a), (1, .int p1), (2, .int p2), (4, .int i)]) hx hb d_MenuScreensModel_lamp_61 rfl hl (by decide) rfl (fun ls hl => ?_)
                have ev1 : (v + 1) = nI (cnt (fun k => decide (¬ upd (A 58) j (if p2 = 0 then 1 else 0) k = 0)) (k + 1)) := by
                  rw [cnt_t (by show decide (¬ upd (A 58) j _ k = 0) = true; rw [← ez]; exact decide_eq_true c4), ev]; exact nI_1 _
                refine lv_iinc (v := (i + 1)) (lv' := [(4, .int (i + 1)), (3, .int (v + 1)), (0, .ref a), (1, .int p1), (2, .int p2)]) hx hb d_MenuScreensModel_lamp_62 hl (k := 4) rfl rfl (by decide) rfl (fun ls hl => ?_)
                refine lv_goto (tgt := 37) hx hb d_MenuScreensModel_lamp_65 (by decide) ?_
                exact ih_lp (k + 1) (v + 1) (i + 1) ls  (by rw [ei]; exact nI_1 _) (by omega) ev1 (by omega) (lv_sub hl [2, 3, 4, 1, 0] rfl)
        exact lp (16 - 0 + 1) 0 0 0 ls  rfl (by omega) rfl (Nat.lt_succ_self _) (lv_sub hl [2, 3, 4, 1, 0] rfl)
      refine lv_aload_n hx hb d_MenuScreensModel_lamp_17 rfl (lv_at hl 0 rfl) ?_
      refine mm_get C X M 58 f_12_117_13 (.ref (ar 58)) rfl d_MenuScreensModel_lamp_18 ?_
      refine lv_iload_n hx hb d_MenuScreensModel_lamp_21 rfl (lv_at hl 1 rfl) ?_
      refine lv_iload_n hx hb d_MenuScreensModel_lamp_22 rfl (lv_at hl 2 rfl) ?_
      refine lv_if_ne (tgt := 30) hx hb d_MenuScreensModel_lamp_23 (by decide) (fun c5 => ?_) (fun c5 => ?_)
      · skip
        refine lv_iconst (v := 0) hx hb d_MenuScreensModel_lamp_30 (by decide) ?_
        exact j31 0 ls (by rw [if_neg c5]) (lv_sub hl [0, 1, 2] rfl)
      · skip
        refine lv_iconst (v := 1) hx hb d_MenuScreensModel_lamp_26 (by decide) ?_
        refine lv_goto (tgt := 31) hx hb d_MenuScreensModel_lamp_27 (by decide) ?_
        exact j31 1 ls (by rw [if_pos c5]) (lv_sub hl [0, 1, 2] rfl)
    · skip
      refine lv_iconst (v := (-1)) hx hb d_MenuScreensModel_lamp_15 (by decide) ?_
      exact mq_iret hQ C X hr rfl hlk (⟨(upd x 0 0), y, A, B, M, rfl, rfl, rfl, Or.inl ⟨by clear X C hl hr; simp_all, rfl, rfl⟩⟩) (Nat.le_refl _) (Nat.le_refl _) d_MenuScreensModel_lamp_16
