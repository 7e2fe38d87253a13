theorem lwI.mo {z : Nat} {dT : Nat → ClassId} {dE : Nat} {hcv h : vH} {ad : Nat → Nat → Nat} {L : vL} {cap : Nat} {x : Nat → Int32} {y : Nat → Int64} {A : Nat → Nat → Int32} {B : Nat → Nat → Int64} {k cu su : Nat} (I : lwI z dT dE hcv h ad L cap x y A B k cu su) : lwI z dT dE hcv h ad L cap x y A B (k + 1) cu su := by
  obtain ⟨a, b, d, ⟨n0, a1, a2, a3, a4, a5, a6⟩, me, ce, b1, b2, b3, b4⟩ := I
  exact ⟨a, b, d, ⟨n0, a1, a2, a3, a4, by omega, by omega⟩, me, ce, b1, b2, by omega, by omega⟩
theorem sw_out {v : Int32} (h : ∀ j, j ≤ 14 → ¬ v = nI j) : v.toInt < 0 ∨ 14 < v.toInt := by
  rcases Int.lt_or_le v.toInt 0 with w | w
  · exact Or.inl w
  · rcases Int.lt_or_le 14 v.toInt with u | u
    · exact Or.inr u
    · exact absurd (Int32.toInt_inj.mp (by rw [nI_toInt (by omega)]; omega)) (h v.toInt.toNat (by omega))
theorem d_law_38 : decode code 38 = .ok (.iload_n 3, 1) := by decide +kernel
theorem d_law_39 : decode code 39 = .ok (.aload_n 0, 1) := by decide +kernel
theorem d_law_40 : decode code 40 = .ok (.arraylength, 1) := by decide +kernel
theorem d_law_41 : decode code 41 = .ok (.iconst 5, 1) := by decide +kernel
theorem d_law_42 : decode code 42 = .ok (.isub, 1) := by decide +kernel
theorem d_law_43 : decode code 43 = .ok (.if_icmp .gt 717, 3) := by decide +kernel
theorem d_law_46 : decode code 46 = .ok (.aload_n 0, 1) := by decide +kernel
theorem d_law_47 : decode code 47 = .ok (.iload_n 3, 1) := by decide +kernel
theorem d_law_48 : decode code 48 = .ok (.iaload, 1) := by decide +kernel
theorem d_law_49 : decode code 49 = .ok (.bipush 15, 2) := by decide +kernel
theorem d_law_51 : decode code 51 = .ok (.iand, 1) := by decide +kernel
theorem d_law_52 : decode code 52 = .ok (.tableswitch 702 0 14 #[76, 97, 110, 199, 222, 255, 318, 341, 364, 457, 491, 544, 567, 590, 653], 76) := by decide +kernel
theorem d_law_754 : decode code 754 = .ok (.iinc 3 5, 3) := by decide +kernel
theorem d_law_757 : decode code 757 = .ok (.goto (-719), 3) := by decide +kernel
theorem d_law_760 : decode code 760 = .ok (.iconst 1, 1) := by decide +kernel
theorem d_law_761 : decode code 761 = .ok (.ireturn, 1) := by decide +kernel
set_option maxRecDepth 100000 in
set_option maxHeartbeats 4000000 in
theorem law_loop {p : Program} {l : Launch} {e : Env} {s : State} {m : MethodId} {below : List Frame} {meth : Method} {c : Code} {b n a0 a5 : Nat} {D : va_G} {dT : Nat → ClassId} {dE mO : Nat} {hcv : vH} {xs : Nat → Int32} (hE : vEnv s b D dT) (hJ : vJ s dE mO) (hcE : ∃ fE, hcv dE = some (aR dT 0 fE)) (C : vC p s m #[Value.ref b] c code 4 "MenuScreensLaw" GT D vcl (vty dT)) (hsc : hcv b = some (.inl (dT 0, n, .inl xs))) (hn9 : n ≤ 2562) (hr : meth.sig.returnType = ret) (hlk : meth.locks = false) {lt ltv : Nat} {txl : String} {lz2 lz3 : Value} {fl0 : Nat → Int32} (hlt : vk_R "MenuScreens$Line" 18 txl lt s) (hlt1 : hcv lt = some (.inr (0, [.ref ltv, .int 0, lz2, lz3]))) (hlt2 : hcv ltv = some (.inl (dT 2, 0, .inl fl0))) {dl dlv : Nat} {txdl : String} {dl2 dl3 : Value} {fdl : Nat → Int32} (hdl : vk_R "MenuScreens$Reader" 170 txdl dl s) (hdl1 : hcv dl = some (.inr (0, [.ref dlv, .int 0, dl2, dl3]))) (hdl2 : hcv dlv = some (.inl (dT 2, 1, .inl fdl))) (hdl3 : fdl 0 = 45) {le lev : Nat} {txle : String} {le2 le3 : Value} {fle : Nat → Int32} (hle : vk_R "MenuScreens$Reader" 189 txle le s) (hle1 : hcv le = some (.inr (0, [.ref lev, .int 0, le2, le3]))) (hle2 : hcv lev = some (.inl (dT 2, 1, .inl fle))) (hle3 : fle 0 = 61) {ll llv : Nat} {txll : String} {ll2 ll3 : Value} {fll : Nat → Int32} (hll : vk_R "MenuScreens$Reader" 191 txll ll s) (hll1 : hcv ll = some (.inr (0, [.ref llv, .int 0, ll2, ll3]))) (hll2 : hcv llv = some (.inl (dT 2, 1, .inl fll))) (hll3 : fll 0 = 60) {lg lgv : Nat} {txlg : String} {lg2 lg3 : Value} {flg : Nat → Int32} (hlg : vk_R "MenuScreens$Reader" 193 txlg lg s) (hlg1 : hcv lg = some (.inr (0, [.ref lgv, .int 0, lg2, lg3]))) (hlg2 : hcv lgv = some (.inl (dT 2, 1, .inl flg))) (hlg3 : flg 0 = 62) {lw0 lw0v : Nat} {txlw0 : String} {lw02 lw03 : Value} (hlw0 : vk_R "MenuScreens$Reader" 58 txlw0 lw0 s) (hlw01 : hcv lw0 = some (.inr (0, [.ref lw0v, .int 0, lw02, lw03]))) (hlw02 : hcv lw0v = some (.inl (dT 2, (ltW 0).1, .inl (ltW 0).2))) {lw1 lw1v : Nat} {txlw1 : String} {lw12 lw13 : Value} (hlw1 : vk_R "MenuScreens$Reader" 68 txlw1 lw1 s) (hlw11 : hcv lw1 = some (.inr (0, [.ref lw1v, .int 0, lw12, lw13]))) (hlw12 : hcv lw1v = some (.inl (dT 2, (ltW 1).1, .inl (ltW 1).2))) {lw2 lw2v : Nat} {txlw2 : String} {lw22 lw23 : Value} (hlw2 : vk_R "MenuScreens$Reader" 73 txlw2 lw2 s) (hlw21 : hcv lw2 = some (.inr (0, [.ref lw2v, .int 0, lw22, lw23]))) (hlw22 : hcv lw2v = some (.inl (dT 2, (ltW 2).1, .inl (ltW 2).2))) {lw3 lw3v : Nat} {txlw3 : String} {lw32 lw33 : Value} (hlw3 : vk_R "MenuScreens$Reader" 81 txlw3 lw3 s) (hlw31 : hcv lw3 = some (.inr (0, [.ref lw3v, .int 0, lw32, lw33]))) (hlw32 : hcv lw3v = some (.inl (dT 2, (ltW 3).1, .inl (ltW 3).2))) {lw4 lw4v : Nat} {txlw4 : String} {lw42 lw43 : Value} (hlw4 : vk_R "MenuScreens$Reader" 87 txlw4 lw4 s) (hlw41 : hcv lw4 = some (.inr (0, [.ref lw4v, .int 0, lw42, lw43]))) (hlw42 : hcv lw4v = some (.inl (dT 2, (ltW 4).1, .inl (ltW 4).2))) {lw5 lw5v : Nat} {txlw5 : String} {lw52 lw53 : Value} (hlw5 : vk_R "MenuScreens$Reader" 92 txlw5 lw5 s) (hlw51 : hcv lw5 = some (.inr (0, [.ref lw5v, .int 0, lw52, lw53]))) (hlw52 : hcv lw5v = some (.inl (dT 2, (ltW 5).1, .inl (ltW 5).2))) {lw6 lw6v : Nat} {txlw6 : String} {lw62 lw63 : Value} (hlw6 : vk_R "MenuScreens$Reader" 97 txlw6 lw6 s) (hlw61 : hcv lw6 = some (.inr (0, [.ref lw6v, .int 0, lw62, lw63]))) (hlw62 : hcv lw6v = some (.inl (dT 2, (ltW 6).1, .inl (ltW 6).2))) {lw7 lw7v : Nat} {txlw7 : String} {lw72 lw73 : Value} (hlw7 : vk_R "MenuScreens$Reader" 102 txlw7 lw7 s) (hlw71 : hcv lw7 = some (.inr (0, [.ref lw7v, .int 0, lw72, lw73]))) (hlw72 : hcv lw7v = some (.inl (dT 2, (ltW 7).1, .inl (ltW 7).2))) {lw8 lw8v : Nat} {txlw8 : String} {lw82 lw83 : Value} (hlw8 : vk_R "MenuScreens$Reader" 107 txlw8 lw8 s) (hlw81 : hcv lw8 = some (.inr (0, [.ref lw8v, .int 0, lw82, lw83]))) (hlw82 : hcv lw8v = some (.inl (dT 2, (ltW 8).1, .inl (ltW 8).2))) : ∀ (j k : Nat), 513 ≤ k + j → k ≤ 512 → ∀ (h : vH) (ad : Nat → Nat → Nat) (L : vL) (cap : Nat) (x : Nat → Int32) (y : Nat → Int64) (A : Nat → Nat → Int32) (B : Nat → Nat → Int64) (cu su : Nat) (H : Heap) (locs : List Loc) (ls : Array Slot), ad 0 0 = a0 → ad 50 0 = a5 → lwI s.heap.size dT dE hcv h ad L cap x y A B k cu su → vO s D vcl h s H locs → lv_has ls 4 [(0, .ref b), (1, .ref a0), (2, .ref a5), (3, .int (nI (2 + 5 * k)))] → W p l e room_1 s m #[Value.ref b] below meth c H locs cu su (lw_Z below #[Value.ref b] s) (F0 m 38 ls []) := by
  have hx := C.1.1
  have hb := C.1.2.1
  intro j
  induction j with
  | zero => intro k h1 h2; exact absurd h1 (by omega)
  | succ j ih =>
    intro k hj9 hk8 h ad L cap x y A B cu su H locs ls ea0 ea5 I X hl
    rw [← ea0, ← ea5] at hl
    refine lv_iload_n hx hb d_law_38 rfl (lv_at hl 3 rfl) ?_
    refine lv_aload_n hx hb d_law_39 rfl (lv_at hl 0 rfl) ?_
    refine mv_alen C X (I.1.old hsc) 0 rfl d_law_40 ?_
    refine lv_iconst (v := 5) hx hb d_law_41 (by decide) ?_
    refine lv_isub hx hb d_law_42 ?_
    refine lv_icmp_gt (tgt := 760) hx hb d_law_43 (by decide) (fun c1 => ?_) (fun c1 => ?_)
    · skip
      have hu1 : cu ≤ 600000 := by
        obtain ⟨-, -, -, ⟨n0, _, _, _, _, a5, a6⟩, -⟩ := I
        omega
      have hu2 : su ≤ 7302250 := by
        obtain ⟨-, -, -, ⟨n0, _, _, _, _, a5, a6⟩, -⟩ := I
        omega
      refine lv_iconst (v := 1) hx hb d_law_760 (by decide) ?_
      refine va_forget (fun q hq => X.2.1.2.2 q hq) ?_
      refine W.widen (k := 600000) (n := 7302250) hu1 hu2 ?_
      exact lw_ret hx hb hr hlk d_law_761
    · skip
      have hi9 : 2 + 5 * k + 5 ≤ n := lw_le hn9 (by omega) c1
      refine lv_aload_n hx hb d_law_46 rfl (lv_at hl 0 rfl) ?_
      refine lv_iload_n hx hb d_law_47 rfl (lv_at hl 3 rfl) ?_
      refine mv_iald C X (I.1.old hsc) 0 rfl (2 + 5 * k) rfl (by omega) (by omega) d_law_48 ?_
      refine lv_bipush (v := 15) hx hb d_law_49 (by decide) ?_
      refine lv_iand hx hb d_law_51 ?_
      have hk9 : k ≤ 511 := by omega
      have K : ∀ (h' : vH) (ad' : Nat → Nat → Nat) (L' : vL) (cap' : Nat) (x' : Nat → Int32) (y' : Nat → Int64) (A' : Nat → Nat → Int32) (B' : Nat → Nat → Int64) (cu' su' : Nat) (H' : Heap) (locs' : List Loc) (ls' : Array Slot), ad' 0 0 = ad 0 0 → ad' 50 0 = ad 50 0 → lwI s.heap.size dT dE hcv h' ad' L' cap' x' y' A' B' (k + 1) cu' su' → vO s D vcl h' s H' locs' → lv_has ls' 4 [(0, .ref b), (1, .ref (ad 0 0)), (2, .ref (ad 50 0)), (3, .int (nI (2 + 5 * k)))] → W p l e room_1 s m #[Value.ref b] below meth c H' locs' cu' su' (lw_Z below #[Value.ref b] s) (F0 m 754 ls' []) := by
        intro h' ad' L' cap' x' y' A' B' cu' su' H' locs' ls' q1 q2 I2 X2 hl2
        refine lv_iinc (v := nI (2 + 5 * (k + 1))) (lv' := [(3, .int (nI (2 + 5 * (k + 1)))), (0, .ref b), (1, .ref (ad 0 0)), (2, .ref (ad 50 0))]) hx hb d_law_754 hl2 (k := 3) rfl (by rw [show 2 + 5 * (k + 1) = 2 + 5 * k + 5 by omega]; exact nI_add (2 + 5 * k) 5) (by decide) rfl (fun ls3 hl3 => ?_)
        refine lv_goto (tgt := 38) hx hb d_law_757 (by decide) ?_
        have hl4 : lv_has ls3 4 [(0, .ref b), (1, .ref a0), (2, .ref a5), (3, .int (nI (2 + 5 * (k + 1))))] := by
          rw [← ea0, ← ea5]; exact lv_sub hl3 [1, 2, 3, 0] rfl
        exact ih (k + 1) (by omega) (by omega) h' ad' L' cap' x' y' A' B' cu' su' H' locs' ls3 (q1.trans ea0) (q2.trans ea5) I2 X2 hl4
      refine lv_topi (fun sw esw => ?_)
      clear esw
      by_cases hs0 : sw = 0
      · subst hs0
        refine lv_tableIn (off := 76) (tgt := 128) hx hb d_law_52 (by decide) (by decide) (by decide) (by decide) ?_
        exact lw_sign hE hJ hcE C hsc hn9 hk9 hi9 I X (lv_sub hl [0, 1, 2, 3] rfl) K
      by_cases hs1 : sw = 1
      · subst hs1
        refine lv_tableIn (off := 97) (tgt := 149) hx hb d_law_52 (by decide) (by decide) (by decide) (by decide) ?_
        exact lw_read hE hJ hcE C hsc hn9 hk9 hi9 I hlt hlt1 hlt2 hdl hdl1 hdl2 hdl3 hle hle1 hle2 hle3 hll hll1 hll2 hll3 hlg hlg1 hlg2 hlg3 hlw0 hlw01 hlw02 hlw1 hlw11 hlw12 hlw2 hlw21 hlw22 hlw3 hlw31 hlw32 hlw4 hlw41 hlw42 hlw5 hlw51 hlw52 hlw6 hlw61 hlw62 hlw7 hlw71 hlw72 hlw8 hlw81 hlw82 X (lv_sub hl [0, 1, 2, 3] rfl) K
      by_cases hs2 : sw = 2
      · subst hs2
        refine lv_tableIn (off := 110) (tgt := 162) hx hb d_law_52 (by decide) (by decide) (by decide) (by decide) ?_
        exact lw_value hE hJ hcE C hsc hn9 hk9 hi9 I X (lv_sub hl [0, 1, 2, 3] rfl) K
      by_cases hs3 : sw = 3
      · subst hs3
        refine lv_tableIn (off := 199) (tgt := 251) hx hb d_law_52 (by decide) (by decide) (by decide) (by decide) ?_
        exact lw_press hE hJ hcE C hsc hn9 hk9 hi9 I X (lv_sub hl [0, 1, 2, 3] rfl) K
      by_cases hs4 : sw = 4
      · subst hs4
        refine lv_tableIn (off := 222) (tgt := 274) hx hb d_law_52 (by decide) (by decide) (by decide) (by decide) ?_
        exact lw_shown hE hJ hcE C hsc hn9 hk9 hi9 I X (lv_sub hl [0, 1, 2, 3] rfl) K
      by_cases hs5 : sw = 5
      · subst hs5
        refine lv_tableIn (off := 255) (tgt := 307) hx hb d_law_52 (by decide) (by decide) (by decide) (by decide) ?_
        exact lw_warn hE hJ hcE C hsc hn9 hk9 hi9 I X (lv_sub hl [0, 1, 2, 3] rfl) K
      by_cases hs6 : sw = 6
      · subst hs6
        refine lv_tableIn (off := 318) (tgt := 370) hx hb d_law_52 (by decide) (by decide) (by decide) (by decide) ?_
        exact lw_warning hE hJ hcE C hsc hn9 hk9 hi9 I X (lv_sub hl [0, 1, 2, 3] rfl) K
      by_cases hs7 : sw = 7
      · subst hs7
        refine lv_tableIn (off := 341) (tgt := 393) hx hb d_law_52 (by decide) (by decide) (by decide) (by decide) ?_
        exact lw_accept hE hJ hcE C hsc hn9 hk9 hi9 I X (lv_sub hl [0, 1, 2, 3] rfl) K
      by_cases hs8 : sw = 8
      · subst hs8
        refine lv_tableIn (off := 364) (tgt := 416) hx hb d_law_52 (by decide) (by decide) (by decide) (by decide) ?_
        exact lw_trip hE hJ hcE C hsc hn9 hk9 hi9 I X (lv_sub hl [0, 1, 2, 3] rfl) K
      by_cases hs9 : sw = 9
      · subst hs9
        refine lv_tableIn (off := 457) (tgt := 509) hx hb d_law_52 (by decide) (by decide) (by decide) (by decide) ?_
        exact lw_sum hE hJ hcE C hsc hn9 hk9 hi9 I X (lv_sub hl [0, 1, 2, 3] rfl) K
      by_cases hs10 : sw = 10
      · subst hs10
        refine lv_tableIn (off := 491) (tgt := 543) hx hb d_law_52 (by decide) (by decide) (by decide) (by decide) ?_
        exact lw_speed hE hJ hcE C hsc hn9 hk9 hi9 I X (lv_sub hl [0, 1, 2, 3] rfl) K
      by_cases hs11 : sw = 11
      · subst hs11
        refine lv_tableIn (off := 544) (tgt := 596) hx hb d_law_52 (by decide) (by decide) (by decide) (by decide) ?_
        exact lw_language hE hJ hcE C hsc hn9 hk9 hi9 I X (lv_sub hl [0, 1, 2, 3] rfl) K
      by_cases hs12 : sw = 12
      · subst hs12
        refine lv_tableIn (off := 567) (tgt := 619) hx hb d_law_52 (by decide) (by decide) (by decide) (by decide) ?_
        exact lw_ring hE hJ hcE C hsc hn9 hk9 hi9 I X (lv_sub hl [0, 1, 2, 3] rfl) K
      by_cases hs13 : sw = 13
      · subst hs13
        refine lv_tableIn (off := 590) (tgt := 642) hx hb d_law_52 (by decide) (by decide) (by decide) (by decide) ?_
        exact lw_setting hE hJ hcE C hsc hn9 hk9 hi9 I X (lv_sub hl [0, 1, 2, 3] rfl) K
      by_cases hs14 : sw = 14
      · subst hs14
        refine lv_tableIn (off := 653) (tgt := 705) hx hb d_law_52 (by decide) (by decide) (by decide) (by decide) ?_
        exact lw_lamp hE hJ hcE C hsc hn9 hk9 hi9 I X (lv_sub hl [0, 1, 2, 3] rfl) K
      refine lv_tableOut (tgt := 754) hx hb d_law_52 (sw_out (fun j hj => match j, hj with | 0, _ => hs0 | 1, _ => hs1 | 2, _ => hs2 | 3, _ => hs3 | 4, _ => hs4 | 5, _ => hs5 | 6, _ => hs6 | 7, _ => hs7 | 8, _ => hs8 | 9, _ => hs9 | 10, _ => hs10 | 11, _ => hs11 | 12, _ => hs12 | 13, _ => hs13 | 14, _ => hs14 | n + 15, q => absurd q (by omega))) (by decide) ?_
      exact K h ad L cap x y A B cu su H locs ls rfl rfl I.mo X (lv_sub hl [0, 1, 2, 3] rfl)
