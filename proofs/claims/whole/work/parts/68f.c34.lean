theorem d_law11_596 : decode code 596 = .ok (.aload_n 1, 1) := by decide +kernel
theorem d_law11_597 : decode code 597 = .ok (.aload_n 0, 1) := by decide +kernel
theorem d_law11_598 : decode code 598 = .ok (.iload_n 3, 1) := by decide +kernel
theorem d_law11_599 : decode code 599 = .ok (.iconst 1, 1) := by decide +kernel
theorem d_law11_600 : decode code 600 = .ok (.iadd, 1) := by decide +kernel
theorem d_law11_601 : decode code 601 = .ok (.iaload, 1) := by decide +kernel
theorem d_law11_602 : decode code 602 = .ok (.invokevirtual 76, 3) := by decide +kernel
theorem d_law11_605 : decode code 605 = .ok (.aload_n 2, 1) := by decide +kernel
theorem d_law11_606 : decode code 606 = .ok (.aload_n 0, 1) := by decide +kernel
theorem d_law11_607 : decode code 607 = .ok (.iload_n 3, 1) := by decide +kernel
theorem d_law11_608 : decode code 608 = .ok (.iconst 1, 1) := by decide +kernel
theorem d_law11_609 : decode code 609 = .ok (.iadd, 1) := by decide +kernel
theorem d_law11_610 : decode code 610 = .ok (.iaload, 1) := by decide +kernel
theorem d_law11_611 : decode code 611 = .ok (.invokevirtual 79, 3) := by decide +kernel
theorem d_law11_614 : decode code 614 = .ok (.if_icmp .eq 140, 3) := by decide +kernel
set_option maxRecDepth 100000 in
set_option maxHeartbeats 4000000 in
theorem lw_language {p : Program} {l : Launch} {e : Env} {S0 s : State} {m : MethodId} {args : Array Value} {below : List Frame} {meth : Method} {c : Code} {H : Heap} {locs : List Loc} {Q : State → Prop} {ls : Array Slot} {b n : Nat} {D : va_G} {dT : Nat → ClassId} {dE mO : Nat} {hcv h : vH} {xs : Nat → Int32} {ad : Nat → Nat → Nat} {L : vL} {cap : Nat} {x : Nat → Int32} {y : Nat → Int64} {A : Nat → Nat → Int32} {B : Nat → Nat → Int64} {k i0 cu su : Nat} (hE : vEnv S0 b D dT) (hJ : vJ S0 dE mO) (hcE : ∃ fE, hcv dE = some (aR dT 0 fE)) (C : vC p s m args c code 4 "MenuScreensLaw" GT D vcl (vty dT)) (hsc : hcv b = some (.inl (dT 0, n, .inl xs))) (hn9 : n ≤ 2562) (hk9 : k ≤ 511) (hi9 : i0 + 5 ≤ n) (I : lwI S0.heap.size dT dE hcv h ad L cap x y A B k cu su) (X : vO S0 D vcl h s H locs) (hl : lv_has ls 4 [(0, .ref b), (1, .ref (ad 0 0)), (2, .ref (ad 50 0)), (3, .int (nI i0))]) (K : ∀ (h' : vH) (ad' : Nat → Nat → Nat) (L' : vL) (cap' : Nat) (x' : Nat → Int32) (y' : Nat → Int64) (A' : Nat → Nat → Int32) (B' : Nat → Nat → Int64) (cu' su' : Nat) (H' : Heap) (locs' : List Loc) (ls' : Array Slot), ad' 0 0 = ad 0 0 → ad' 50 0 = ad 50 0 → lwI S0.heap.size dT dE hcv h' ad' L' cap' x' y' A' B' (k + 1) cu' su' → vO S0 D vcl h' s H' locs' → lv_has ls' 4 [(0, .ref b), (1, .ref (ad 0 0)), (2, .ref (ad 50 0)), (3, .int (nI i0))] → W p l e room_1 s m args below meth c H' locs' cu' su' Q (F0 m 754 ls' [])) : W p l e room_1 s m args below meth c H locs cu su Q (F0 m 596 ls []) := by
  have hx := C.1.1
  have hb := C.1.2.1
  obtain ⟨xl, hC, hM, ⟨n0, e30, hn4, hnc, hcap, hcu, hsu⟩, me, ce0, hme, hce, hme2, hce2⟩ := id I
  obtain ⟨⟨sp, bl, hTop, -⟩, -⟩ := id hC
  have hTop2 : L 0 0 = some (.inr (3, [.int (x 1), .int (x 2), .ref (ad 1 0), .ref (ad 6 0), .ref (ad 2 0), .ref (ad 8 0), .int (x 45), .int sp, .int (x 46), .int bl, .int (x 55), .long (y 56), .long (y 57)])) := hTop
  have hu1 : cu ≤ 18500 := by omega
  have hu2 : su ≤ 2600000 := by omega
  refine lv_aload_n hx hb d_law11_596 rfl (lv_at hl 1 rfl) ?_
  refine lv_aload_n hx hb d_law11_597 rfl (lv_at hl 0 rfl) ?_
  refine lv_iload_n hx hb d_law11_598 rfl (lv_at hl 3 rfl) ?_
  refine lv_iconst (v := 1) hx hb d_law11_599 (by decide) ?_
  refine lv_iadd hx hb d_law11_600 ?_
  refine mv_iald C X (xl.old hsc) 0 rfl (i0 + 1) (nI_add i0 1) (by omega) (by omega) d_law11_601 ?_
  refine mv_bi X (mv_rV (rest := []) (As := [.int (xs (i0 + 1))]) gt_good C X k_11_76 (cm_MenuScreens_language hE hJ xl hC) (xl.get (i := 0) (j := 0) hTop2) rfl rfl ⟨Nat.le_of_ble_eq_true rfl, Nat.le_of_ble_eq_true rfl⟩ rfl hl.1 rfl (Nat.le_of_ble_eq_true rfl) d_law11_602 ⟨by show cu + 0 ≤ 600000; omega, by show su + 0 ≤ 7302250; omega⟩) (fun r1 hN H locs hp X => ?_)
  obtain ⟨ad1, L1, q1, kp1, hst⟩ := hp
  have M1 := lw_mid hM q1 kp1
  refine lv_aload_n hx hb d_law11_605 rfl (lv_at hl 2 rfl) ?_
  refine lv_aload_n hx hb d_law11_606 rfl (lv_at hl 0 rfl) ?_
  refine lv_iload_n hx hb d_law11_607 rfl (lv_at hl 3 rfl) ?_
  refine lv_iconst (v := 1) hx hb d_law11_608 (by decide) ?_
  refine lv_iadd hx hb d_law11_609 ?_
  refine mv_iald C X (q1.1.old hsc) 0 rfl (i0 + 1) (nI_add i0 1) (by omega) (by omega) d_law11_610 ?_
  refine mv_bi X (mv_rV (rest := [.int r1]) (As := [.int (xs (i0 + 1))]) gt_good C X k_11_79 (cm_MenuScreensModel_language hE M1 _) M1.1 rfl rfl ⟨Nat.le_of_ble_eq_true rfl, Nat.le_of_ble_eq_true rfl⟩ rfl hl.1 rfl (Nat.le_of_ble_eq_true rfl) d_law11_611 ⟨by show (cu + 0) + 0 ≤ 600000; omega, by show (su + 0) + 0 ≤ 7302250; omega⟩) (fun r2 hN H locs hp X => ?_)
  obtain ⟨x', y', A', B', M2, hs1, hs2, hs3, hs⟩ := hp
  obtain ⟨er, hC2⟩ := hst _ x' y' A' B' ⟨hs1, hs2, hs3, hs⟩
  have ex3 : x' 3 = x 3 := by
    rcases hs with ⟨_, _, w⟩ | ⟨_, _, _, w⟩ <;> rw [w] <;> rfl
  obtain ⟨L2, hz⟩ := lw_end hM q1 kp1 M2 hC2
  refine lv_icmp_eq (tgt := 754) hx hb d_law11_614 (by decide) (fun c3 => ?_) (fun z => absurd er z)
  exact K _ _ _ _ _ _ _ _ _ _ _ _ _ kp1.2 (congrFun (kp1.1 50 (by decide)).2 0) (I.nx hz ex3 (by rw [hs1]) (by rw [hs1])) X (lv_sub hl [0, 1, 2, 3] rfl)
theorem d_law12_619 : decode code 619 = .ok (.aload_n 1, 1) := by decide +kernel
theorem d_law12_620 : decode code 620 = .ok (.aload_n 0, 1) := by decide +kernel
theorem d_law12_621 : decode code 621 = .ok (.iload_n 3, 1) := by decide +kernel
theorem d_law12_622 : decode code 622 = .ok (.iconst 1, 1) := by decide +kernel
theorem d_law12_623 : decode code 623 = .ok (.iadd, 1) := by decide +kernel
theorem d_law12_624 : decode code 624 = .ok (.iaload, 1) := by decide +kernel
theorem d_law12_625 : decode code 625 = .ok (.invokevirtual 80, 3) := by decide +kernel
theorem d_law12_628 : decode code 628 = .ok (.aload_n 2, 1) := by decide +kernel
theorem d_law12_629 : decode code 629 = .ok (.aload_n 0, 1) := by decide +kernel
theorem d_law12_630 : decode code 630 = .ok (.iload_n 3, 1) := by decide +kernel
theorem d_law12_631 : decode code 631 = .ok (.iconst 1, 1) := by decide +kernel
theorem d_law12_632 : decode code 632 = .ok (.iadd, 1) := by decide +kernel
theorem d_law12_633 : decode code 633 = .ok (.iaload, 1) := by decide +kernel
theorem d_law12_634 : decode code 634 = .ok (.invokevirtual 83, 3) := by decide +kernel
theorem d_law12_637 : decode code 637 = .ok (.if_icmp .eq 117, 3) := by decide +kernel
set_option maxRecDepth 100000 in
set_option maxHeartbeats 4000000 in
theorem lw_ring {p : Program} {l : Launch} {e : Env} {S0 s : State} {m : MethodId} {args : Array Value} {below : List Frame} {meth : Method} {c : Code} {H : Heap} {locs : List Loc} {Q : State → Prop} {ls : Array Slot} {b n : Nat} {D : va_G} {dT : Nat → ClassId} {dE mO : Nat} {hcv h : vH} {xs : Nat → Int32} {ad : Nat → Nat → Nat} {L : vL} {cap : Nat} {x : Nat → Int32} {y : Nat → Int64} {A : Nat → Nat → Int32} {B : Nat → Nat → Int64} {k i0 cu su : Nat} (hE : vEnv S0 b D dT) (hJ : vJ S0 dE mO) (hcE : ∃ fE, hcv dE = some (aR dT 0 fE)) (C : vC p s m args c code 4 "MenuScreensLaw" GT D vcl (vty dT)) (hsc : hcv b = some (.inl (dT 0, n, .inl xs))) (hn9 : n ≤ 2562) (hk9 : k ≤ 511) (hi9 : i0 + 5 ≤ n) (I : lwI S0.heap.size dT dE hcv h ad L cap x y A B k cu su) (X : vO S0 D vcl h s H locs) (hl : lv_has ls 4 [(0, .ref b), (1, .ref (ad 0 0)), (2, .ref (ad 50 0)), (3, .int (nI i0))]) (K : ∀ (h' : vH) (ad' : Nat → Nat → Nat) (L' : vL) (cap' : Nat) (x' : Nat → Int32) (y' : Nat → Int64) (A' : Nat → Nat → Int32) (B' : Nat → Nat → Int64) (cu' su' : Nat) (H' : Heap) (locs' : List Loc) (ls' : Array Slot), ad' 0 0 = ad 0 0 → ad' 50 0 = ad 50 0 → lwI S0.heap.size dT dE hcv h' ad' L' cap' x' y' A' B' (k + 1) cu' su' → vO S0 D vcl h' s H' locs' → lv_has ls' 4 [(0, .ref b), (1, .ref (ad 0 0)), (2, .ref (ad 50 0)), (3, .int (nI i0))] → W p l e room_1 s m args below meth c H' locs' cu' su' Q (F0 m 754 ls' [])) : W p l e room_1 s m args below meth c H locs cu su Q (F0 m 619 ls []) := by
  have hx := C.1.1
  have hb := C.1.2.1
  obtain ⟨xl, hC, hM, ⟨n0, e30, hn4, hnc, hcap, hcu, hsu⟩, me, ce0, hme, hce, hme2, hce2⟩ := id I
  obtain ⟨⟨sp, bl, hTop, -⟩, -⟩ := id hC
  have hTop2 : L 0 0 = some (.inr (3, [.int (x 1), .int (x 2), .ref (ad 1 0), .ref (ad 6 0), .ref (ad 2 0), .ref (ad 8 0), .int (x 45), .int sp, .int (x 46), .int bl, .int (x 55), .long (y 56), .long (y 57)])) := hTop
  have hu1 : cu ≤ 18500 := by omega
  have hu2 : su ≤ 2600000 := by omega
  obtain ⟨-, -, -, ⟨n50, e50, hWr⟩, ⟨nr, e48, hPl⟩, -, -, ⟨nv, ns, np, nc, pf, cb, ce, cs, c0, lh, hnum, ⟨pr, e45, hpr1, hpr2⟩, hRP, hTx, hrn⟩, hkey, hsm⟩ := id hC
  refine lv_aload_n hx hb d_law12_619 rfl (lv_at hl 1 rfl) ?_
  refine lv_aload_n hx hb d_law12_620 rfl (lv_at hl 0 rfl) ?_
  refine lv_iload_n hx hb d_law12_621 rfl (lv_at hl 3 rfl) ?_
  refine lv_iconst (v := 1) hx hb d_law12_622 (by decide) ?_
  refine lv_iadd hx hb d_law12_623 ?_
  refine mv_iald C X (xl.old hsc) 0 rfl (i0 + 1) (nI_add i0 1) (by omega) (by omega) d_law12_624 ?_
  refine mv_bi X (mv_rV (rest := []) (As := [.int (xs (i0 + 1))]) gt_good C X k_11_80 (cm_MenuScreens_ring hE hJ xl hC) (xl.get (i := 0) (j := 0) hTop2) rfl rfl ⟨Nat.le_of_ble_eq_true rfl, Nat.le_of_ble_eq_true rfl⟩ rfl hl.1 rfl (Nat.le_of_ble_eq_true rfl) d_law12_625 ⟨by show cu + 0 ≤ 600000; omega, by show su + 0 ≤ 7302250; omega⟩) (fun r1 hN H locs hp X => ?_)
  obtain ⟨ad1, L1, q1, kp1, hst⟩ := hp
  have M1 := lw_mid hM q1 kp1
  refine lv_aload_n hx hb d_law12_628 rfl (lv_at hl 2 rfl) ?_
  refine lv_aload_n hx hb d_law12_629 rfl (lv_at hl 0 rfl) ?_
  refine lv_iload_n hx hb d_law12_630 rfl (lv_at hl 3 rfl) ?_
  refine lv_iconst (v := 1) hx hb d_law12_631 (by decide) ?_
  refine lv_iadd hx hb d_law12_632 ?_
  refine mv_iald C X (q1.1.old hsc) 0 rfl (i0 + 1) (nI_add i0 1) (by omega) (by omega) d_law12_633 ?_
  refine mv_bi X (mv_rV (rest := [.int r1]) (As := [.int (xs (i0 + 1))]) gt_good C X k_11_83 (cm_MenuScreensModel_ring hE M1 _ e48 hPl.2.1) M1.1 rfl rfl ⟨Nat.le_of_ble_eq_true rfl, Nat.le_of_ble_eq_true rfl⟩ rfl hl.1 rfl (Nat.le_of_ble_eq_true rfl) d_law12_634 ⟨by show (cu + 0) + 0 ≤ 600000; omega, by show (su + 0) + 0 ≤ 7302250; omega⟩) (fun r2 hN H locs hp X => ?_)
  obtain ⟨x', y', A', B', M2, hs1, hs2, hs3, hs4, hs⟩ := hp
  obtain ⟨er, hC2⟩ := hst _ x' y' A' B' ⟨hs1, hs2, hs3, hs4, hs.imp id (fun ⟨j, q⟩ => ⟨nr, j, e48, hPl.2.1, q⟩)⟩
  obtain ⟨L2, hz⟩ := lw_end hM q1 kp1 M2 hC2
  refine lv_icmp_eq (tgt := 754) hx hb d_law12_637 (by decide) (fun c3 => ?_) (fun z => absurd er z)
  exact K _ _ _ _ _ _ _ _ _ _ _ _ _ kp1.2 (congrFun (kp1.1 50 (by decide)).2 0) (I.nx hz (by rw [hs1]; rfl) (by rw [hs2]) (by rw [hs2])) X (lv_sub hl [0, 1, 2, 3] rfl)
theorem d_law13_642 : decode code 642 = .ok (.aload_n 1, 1) := by decide +kernel
theorem d_law13_643 : decode code 643 = .ok (.aload_n 0, 1) := by decide +kernel
theorem d_law13_644 : decode code 644 = .ok (.iload_n 3, 1) := by decide +kernel
theorem d_law13_645 : decode code 645 = .ok (.iconst 1, 1) := by decide +kernel
theorem d_law13_646 : decode code 646 = .ok (.iadd, 1) := by decide +kernel
theorem d_law13_647 : decode code 647 = .ok (.iaload, 1) := by decide +kernel
theorem d_law13_648 : decode code 648 = .ok (.aload_n 0, 1) := by decide +kernel
theorem d_law13_649 : decode code 649 = .ok (.iload_n 3, 1) := by decide +kernel
theorem d_law13_650 : decode code 650 = .ok (.iconst 2, 1) := by decide +kernel
theorem d_law13_651 : decode code 651 = .ok (.iadd, 1) := by decide +kernel
theorem d_law13_652 : decode code 652 = .ok (.iaload, 1) := by decide +kernel
theorem d_law13_653 : decode code 653 = .ok (.i2l, 1) := by decide +kernel
theorem d_law13_654 : decode code 654 = .ok (.bipush 32, 2) := by decide +kernel
theorem d_law13_656 : decode code 656 = .ok (.lshl, 1) := by decide +kernel
theorem d_law13_657 : decode code 657 = .ok (.aload_n 0, 1) := by decide +kernel
theorem d_law13_658 : decode code 658 = .ok (.iload_n 3, 1) := by decide +kernel
theorem d_law13_659 : decode code 659 = .ok (.iconst 3, 1) := by decide +kernel
theorem d_law13_660 : decode code 660 = .ok (.iadd, 1) := by decide +kernel
theorem d_law13_661 : decode code 661 = .ok (.iaload, 1) := by decide +kernel
theorem d_law13_662 : decode code 662 = .ok (.i2l, 1) := by decide +kernel
theorem d_law13_663 : decode code 663 = .ok (.ldc2_w 31, 3) := by decide +kernel
theorem d_law13_666 : decode code 666 = .ok (.land, 1) := by decide +kernel
theorem d_law13_667 : decode code 667 = .ok (.lor, 1) := by decide +kernel
theorem d_law13_668 : decode code 668 = .ok (.invokevirtual 84, 3) := by decide +kernel
theorem d_law13_671 : decode code 671 = .ok (.aload_n 2, 1) := by decide +kernel
theorem d_law13_672 : decode code 672 = .ok (.aload_n 0, 1) := by decide +kernel
theorem d_law13_673 : decode code 673 = .ok (.iload_n 3, 1) := by decide +kernel
theorem d_law13_674 : decode code 674 = .ok (.iconst 1, 1) := by decide +kernel
theorem d_law13_675 : decode code 675 = .ok (.iadd, 1) := by decide +kernel
theorem d_law13_676 : decode code 676 = .ok (.iaload, 1) := by decide +kernel
theorem d_law13_677 : decode code 677 = .ok (.aload_n 0, 1) := by decide +kernel
theorem d_law13_678 : decode code 678 = .ok (.iload_n 3, 1) := by decide +kernel
theorem d_law13_679 : decode code 679 = .ok (.iconst 2, 1) := by decide +kernel
theorem d_law13_680 : decode code 680 = .ok (.iadd, 1) := by decide +kernel
theorem d_law13_681 : decode code 681 = .ok (.iaload, 1) := by decide +kernel
theorem d_law13_682 : decode code 682 = .ok (.i2l, 1) := by decide +kernel
theorem d_law13_683 : decode code 683 = .ok (.bipush 32, 2) := by decide +kernel
theorem d_law13_685 : decode code 685 = .ok (.lshl, 1) := by decide +kernel
theorem d_law13_686 : decode code 686 = .ok (.aload_n 0, 1) := by decide +kernel
theorem d_law13_687 : decode code 687 = .ok (.iload_n 3, 1) := by decide +kernel
theorem d_law13_688 : decode code 688 = .ok (.iconst 3, 1) := by decide +kernel
theorem d_law13_689 : decode code 689 = .ok (.iadd, 1) := by decide +kernel
theorem d_law13_690 : decode code 690 = .ok (.iaload, 1) := by decide +kernel
theorem d_law13_691 : decode code 691 = .ok (.i2l, 1) := by decide +kernel
theorem d_law13_692 : decode code 692 = .ok (.ldc2_w 31, 3) := by decide +kernel
theorem d_law13_695 : decode code 695 = .ok (.land, 1) := by decide +kernel
theorem d_law13_696 : decode code 696 = .ok (.lor, 1) := by decide +kernel
theorem d_law13_697 : decode code 697 = .ok (.invokevirtual 87, 3) := by decide +kernel
theorem d_law13_700 : decode code 700 = .ok (.if_icmp .eq 54, 3) := by decide +kernel
set_option maxRecDepth 100000 in
set_option maxHeartbeats 4000000 in
theorem lw_setting {p : Program} {l : Launch} {e : Env} {S0 s : State} {m : MethodId} {args : Array Value} {below : List Frame} {meth : Method} {c : Code} {H : Heap} {locs : List Loc} {Q : State → Prop} {ls : Array Slot} {b n : Nat} {D : va_G} {dT : Nat → ClassId} {dE mO : Nat} {hcv h : vH} {xs : Nat → Int32} {ad : Nat → Nat → Nat} {L : vL} {cap : Nat} {x : Nat → Int32} {y : Nat → Int64} {A : Nat → Nat → Int32} {B : Nat → Nat → Int64} {k i0 cu su : Nat} (hE : vEnv S0 b D dT) (hJ : vJ S0 dE mO) (hcE : ∃ fE, hcv dE = some (aR dT 0 fE)) (C : vC p s m args c code 4 "MenuScreensLaw" GT D vcl (vty dT)) (hsc : hcv b = some (.inl (dT 0, n, .inl xs))) (hn9 : n ≤ 2562) (hk9 : k ≤ 511) (hi9 : i0 + 5 ≤ n) (I : lwI S0.heap.size dT dE hcv h ad L cap x y A B k cu su) (X : vO S0 D vcl h s H locs) (hl : lv_has ls 4 [(0, .ref b), (1, .ref (ad 0 0)), (2, .ref (ad 50 0)), (3, .int (nI i0))]) (K : ∀ (h' : vH) (ad' : Nat → Nat → Nat) (L' : vL) (cap' : Nat) (x' : Nat → Int32) (y' : Nat → Int64) (A' : Nat → Nat → Int32) (B' : Nat → Nat → Int64) (cu' su' : Nat) (H' : Heap) (locs' : List Loc) (ls' : Array Slot), ad' 0 0 = ad 0 0 → ad' 50 0 = ad 50 0 → lwI S0.heap.size dT dE hcv h' ad' L' cap' x' y' A' B' (k + 1) cu' su' → vO S0 D vcl h' s H' locs' → lv_has ls' 4 [(0, .ref b), (1, .ref (ad 0 0)), (2, .ref (ad 50 0)), (3, .int (nI i0))] → W p l e room_1 s m args below meth c H' locs' cu' su' Q (F0 m 754 ls' [])) : W p l e room_1 s m args below meth c H locs cu su Q (F0 m 642 ls []) := by
  have hx := C.1.1
  have hb := C.1.2.1
  obtain ⟨xl, hC, hM, ⟨n0, e30, hn4, hnc, hcap, hcu, hsu⟩, me, ce0, hme, hce, hme2, hce2⟩ := id I
  obtain ⟨⟨sp, bl, hTop, -⟩, -⟩ := id hC
  have hTop2 : L 0 0 = some (.inr (3, [.int (x 1), .int (x 2), .ref (ad 1 0), .ref (ad 6 0), .ref (ad 2 0), .ref (ad 8 0), .int (x 45), .int sp, .int (x 46), .int bl, .int (x 55), .long (y 56), .long (y 57)])) := hTop
  have hu1 : cu ≤ 18500 := by omega
  have hu2 : su ≤ 2600000 := by omega
  obtain ⟨-, -, -, ⟨n50, e50, hWr⟩, ⟨nr, e48, hPl⟩, -, -, ⟨nv, ns, np, nc, pf, cb, ce, cs, c0, lh, hnum, ⟨pr, e45, hpr1, hpr2⟩, hRP, hTx, hrn⟩, hkey, hsm⟩ := id hC
  refine lv_aload_n hx hb d_law13_642 rfl (lv_at hl 1 rfl) ?_
  refine lv_aload_n hx hb d_law13_643 rfl (lv_at hl 0 rfl) ?_
  refine lv_iload_n hx hb d_law13_644 rfl (lv_at hl 3 rfl) ?_
  refine lv_iconst (v := 1) hx hb d_law13_645 (by decide) ?_
  refine lv_iadd hx hb d_law13_646 ?_
  refine mv_iald C X (xl.old hsc) 0 rfl (i0 + 1) (nI_add i0 1) (by omega) (by omega) d_law13_647 ?_
  refine lv_aload_n hx hb d_law13_648 rfl (lv_at hl 0 rfl) ?_
  refine lv_iload_n hx hb d_law13_649 rfl (lv_at hl 3 rfl) ?_
  refine lv_iconst (v := 2) hx hb d_law13_650 (by decide) ?_
  refine lv_iadd hx hb d_law13_651 ?_
  refine mv_iald C X (xl.old hsc) 0 rfl (i0 + 2) (nI_add i0 2) (by omega) (by omega) d_law13_652 ?_
  refine lv_i2l (v := ((xs (i0 + 2)) : Int32).toInt64) hx hb d_law13_653 rfl ?_
  refine lv_bipush (v := 32) hx hb d_law13_654 (by decide) ?_
  refine lv_lshl (v := ((((xs (i0 + 2)) : Int32).toInt64) <<< ((32 : Int32).toInt64 &&& 63))) hx hb d_law13_656 rfl ?_
  refine lv_aload_n hx hb d_law13_657 rfl (lv_at hl 0 rfl) ?_
  refine lv_iload_n hx hb d_law13_658 rfl (lv_at hl 3 rfl) ?_
  refine lv_iconst (v := 3) hx hb d_law13_659 (by decide) ?_
  refine lv_iadd hx hb d_law13_660 ?_
  refine mv_iald C X (xl.old hsc) 0 rfl (i0 + 3) (nI_add i0 3) (by omega) (by omega) d_law13_661 ?_
  refine lv_i2l (v := ((xs (i0 + 3)) : Int32).toInt64) hx hb d_law13_662 rfl ?_
  refine lv_ldc2 (v := 4294967295) hx hb C.1.2.2.2.1 (C.1.2.2.2.2 _ (gt_6 138 (by decide +kernel) rfl)) d_law13_663 ?_
  refine lv_land hx hb d_law13_666 ?_
  refine lv_lor hx hb d_law13_667 ?_
  refine mv_bi X (mv_rV (rest := []) (As := [.int (xs (i0 + 1)), .long (((((xs (i0 + 2)) : Int32).toInt64) <<< ((32 : Int32).toInt64 &&& 63)) ||| ((((xs (i0 + 3)) : Int32).toInt64) &&& 4294967295))]) gt_good C X k_11_84 (cm_MenuScreens_setting hE hJ xl hC hcE) (xl.get (i := 0) (j := 0) hTop2) rfl rfl ⟨Nat.le_of_ble_eq_true rfl, Nat.le_of_ble_eq_true rfl⟩ rfl hl.1 rfl (Nat.le_of_ble_eq_true rfl) d_law13_668 ⟨by show cu + 0 ≤ 600000; omega, by show su + 0 ≤ 7302250; omega⟩) (fun r1 hN H locs hp X => ?_)
  obtain ⟨ad1, L1, q1, kp1, hst⟩ := hp
  have M1 := lw_mid hM q1 kp1
  refine lv_aload_n hx hb d_law13_671 rfl (lv_at hl 2 rfl) ?_
  refine lv_aload_n hx hb d_law13_672 rfl (lv_at hl 0 rfl) ?_
  refine lv_iload_n hx hb d_law13_673 rfl (lv_at hl 3 rfl) ?_
  refine lv_iconst (v := 1) hx hb d_law13_674 (by decide) ?_
  refine lv_iadd hx hb d_law13_675 ?_
  refine mv_iald C X (q1.1.old hsc) 0 rfl (i0 + 1) (nI_add i0 1) (by omega) (by omega) d_law13_676 ?_
  refine lv_aload_n hx hb d_law13_677 rfl (lv_at hl 0 rfl) ?_
  refine lv_iload_n hx hb d_law13_678 rfl (lv_at hl 3 rfl) ?_
  refine lv_iconst (v := 2) hx hb d_law13_679 (by decide) ?_
  refine lv_iadd hx hb d_law13_680 ?_
  refine mv_iald C X (q1.1.old hsc) 0 rfl (i0 + 2) (nI_add i0 2) (by omega) (by omega) d_law13_681 ?_
  refine lv_i2l (v := ((xs (i0 + 2)) : Int32).toInt64) hx hb d_law13_682 rfl ?_
  refine lv_bipush (v := 32) hx hb d_law13_683 (by decide) ?_
  refine lv_lshl (v := ((((xs (i0 + 2)) : Int32).toInt64) <<< ((32 : Int32).toInt64 &&& 63))) hx hb d_law13_685 rfl ?_
  refine lv_aload_n hx hb d_law13_686 rfl (lv_at hl 0 rfl) ?_
  refine lv_iload_n hx hb d_law13_687 rfl (lv_at hl 3 rfl) ?_
  refine lv_iconst (v := 3) hx hb d_law13_688 (by decide) ?_
  refine lv_iadd hx hb d_law13_689 ?_
  refine mv_iald C X (q1.1.old hsc) 0 rfl (i0 + 3) (nI_add i0 3) (by omega) (by omega) d_law13_690 ?_
  refine lv_i2l (v := ((xs (i0 + 3)) : Int32).toInt64) hx hb d_law13_691 rfl ?_
  refine lv_ldc2 (v := 4294967295) hx hb C.1.2.2.2.1 (C.1.2.2.2.2 _ (gt_6 138 (by decide +kernel) rfl)) d_law13_692 ?_
  refine lv_land hx hb d_law13_695 ?_
  refine lv_lor hx hb d_law13_696 ?_
  refine mv_bi X (mv_rV (rest := [.int r1]) (As := [.int (xs (i0 + 1)), .long (((((xs (i0 + 2)) : Int32).toInt64) <<< ((32 : Int32).toInt64 &&& 63)) ||| ((((xs (i0 + 3)) : Int32).toInt64) &&& 4294967295))]) gt_good C X k_11_87 (cm_MenuScreensModel_setting hE M1 _ _ hnum.1 hnum.2.1) M1.1 rfl rfl ⟨Nat.le_of_ble_eq_true rfl, Nat.le_of_ble_eq_true rfl⟩ rfl hl.1 rfl (Nat.le_of_ble_eq_true rfl) d_law13_697 ⟨by show (cu + 0) + 0 ≤ 600000; omega, by show (su + 0) + 0 ≤ 7302250; omega⟩) (fun r2 hN H locs hp X => ?_)
  obtain ⟨x', y', A', B', M2, hs1, hs2, hs3, hs⟩ := hp
  obtain ⟨er, hC2⟩ := hst _ x' y' A' B' ⟨hs1, hs2, hs3, nv, hnum.1, hnum.2.1, hs⟩
  obtain ⟨L2, hz⟩ := lw_end hM q1 kp1 M2 hC2
  refine lv_icmp_eq (tgt := 754) hx hb d_law13_700 (by decide) (fun c3 => ?_) (fun z => absurd er z)
  exact K _ _ _ _ _ _ _ _ _ _ _ _ _ kp1.2 (congrFun (kp1.1 50 (by decide)).2 0) (I.nx hz (by rw [hs1]; rfl) (by rw [hs2]) (by rw [hs2])) X (lv_sub hl [0, 1, 2, 3] rfl)
theorem d_law14_705 : decode code 705 = .ok (.aload_n 1, 1) := by decide +kernel
theorem d_law14_706 : decode code 706 = .ok (.aload_n 0, 1) := by decide +kernel
theorem d_law14_707 : decode code 707 = .ok (.iload_n 3, 1) := by decide +kernel
theorem d_law14_708 : decode code 708 = .ok (.iconst 1, 1) := by decide +kernel
theorem d_law14_709 : decode code 709 = .ok (.iadd, 1) := by decide +kernel
theorem d_law14_710 : decode code 710 = .ok (.iaload, 1) := by decide +kernel
theorem d_law14_711 : decode code 711 = .ok (.aload_n 0, 1) := by decide +kernel
theorem d_law14_712 : decode code 712 = .ok (.iload_n 3, 1) := by decide +kernel
theorem d_law14_713 : decode code 713 = .ok (.iconst 2, 1) := by decide +kernel
theorem d_law14_714 : decode code 714 = .ok (.iadd, 1) := by decide +kernel
theorem d_law14_715 : decode code 715 = .ok (.iaload, 1) := by decide +kernel
theorem d_law14_716 : decode code 716 = .ok (.ifCond .eq 7, 3) := by decide +kernel
theorem d_law14_719 : decode code 719 = .ok (.iconst 1, 1) := by decide +kernel
theorem d_law14_720 : decode code 720 = .ok (.goto 4, 3) := by decide +kernel
theorem d_law14_723 : decode code 723 = .ok (.iconst 0, 1) := by decide +kernel
theorem d_law14_724 : decode code 724 = .ok (.invokevirtual 88, 3) := by decide +kernel
theorem d_law14_727 : decode code 727 = .ok (.aload_n 2, 1) := by decide +kernel
theorem d_law14_728 : decode code 728 = .ok (.aload_n 0, 1) := by decide +kernel
theorem d_law14_729 : decode code 729 = .ok (.iload_n 3, 1) := by decide +kernel
theorem d_law14_730 : decode code 730 = .ok (.iconst 1, 1) := by decide +kernel
theorem d_law14_731 : decode code 731 = .ok (.iadd, 1) := by decide +kernel
theorem d_law14_732 : decode code 732 = .ok (.iaload, 1) := by decide +kernel
theorem d_law14_733 : decode code 733 = .ok (.aload_n 0, 1) := by decide +kernel
theorem d_law14_734 : decode code 734 = .ok (.iload_n 3, 1) := by decide +kernel
theorem d_law14_735 : decode code 735 = .ok (.iconst 2, 1) := by decide +kernel
theorem d_law14_736 : decode code 736 = .ok (.iadd, 1) := by decide +kernel
theorem d_law14_737 : decode code 737 = .ok (.iaload, 1) := by decide +kernel
theorem d_law14_738 : decode code 738 = .ok (.ifCond .eq 7, 3) := by decide +kernel
theorem d_law14_741 : decode code 741 = .ok (.iconst 1, 1) := by decide +kernel
theorem d_law14_742 : decode code 742 = .ok (.goto 4, 3) := by decide +kernel
theorem d_law14_745 : decode code 745 = .ok (.iconst 0, 1) := by decide +kernel
theorem d_law14_746 : decode code 746 = .ok (.invokevirtual 92, 3) := by decide +kernel
theorem d_law14_749 : decode code 749 = .ok (.if_icmp .eq 5, 3) := by decide +kernel
set_option maxRecDepth 100000 in
set_option maxHeartbeats 4000000 in
theorem lw_lamp {p : Program} {l : Launch} {e : Env} {S0 s : State} {m : MethodId} {args : Array Value} {below : List Frame} {meth : Method} {c : Code} {H : Heap} {locs : List Loc} {Q : State → Prop} {ls : Array Slot} {b n : Nat} {D : va_G} {dT : Nat → ClassId} {dE mO : Nat} {hcv h : vH} {xs : Nat → Int32} {ad : Nat → Nat → Nat} {L : vL} {cap : Nat} {x : Nat → Int32} {y : Nat → Int64} {A : Nat → Nat → Int32} {B : Nat → Nat → Int64} {k i0 cu su : Nat} (hE : vEnv S0 b D dT) (hJ : vJ S0 dE mO) (hcE : ∃ fE, hcv dE = some (aR dT 0 fE)) (C : vC p s m args c code 4 "MenuScreensLaw" GT D vcl (vty dT)) (hsc : hcv b = some (.inl (dT 0, n, .inl xs))) (hn9 : n ≤ 2562) (hk9 : k ≤ 511) (hi9 : i0 + 5 ≤ n) (I : lwI S0.heap.size dT dE hcv h ad L cap x y A B k cu su) (X : vO S0 D vcl h s H locs) (hl : lv_has ls 4 [(0, .ref b), (1, .ref (ad 0 0)), (2, .ref (ad 50 0)), (3, .int (nI i0))]) (K : ∀ (h' : vH) (ad' : Nat → Nat → Nat) (L' : vL) (cap' : Nat) (x' : Nat → Int32) (y' : Nat → Int64) (A' : Nat → Nat → Int32) (B' : Nat → Nat → Int64) (cu' su' : Nat) (H' : Heap) (locs' : List Loc) (ls' : Array Slot), ad' 0 0 = ad 0 0 → ad' 50 0 = ad 50 0 → lwI S0.heap.size dT dE hcv h' ad' L' cap' x' y' A' B' (k + 1) cu' su' → vO S0 D vcl h' s H' locs' → lv_has ls' 4 [(0, .ref b), (1, .ref (ad 0 0)), (2, .ref (ad 50 0)), (3, .int (nI i0))] → W p l e room_1 s m args below meth c H' locs' cu' su' Q (F0 m 754 ls' [])) : W p l e room_1 s m args below meth c H locs cu su Q (F0 m 705 ls []) := by
  have hx := C.1.1
  have hb := C.1.2.1
  obtain ⟨xl, hC, hM, ⟨n0, e30, hn4, hnc, hcap, hcu, hsu⟩, me, ce0, hme, hce, hme2, hce2⟩ := id I
  obtain ⟨⟨sp, bl, hTop, -⟩, -⟩ := id hC
  have hTop2 : L 0 0 = some (.inr (3, [.int (x 1), .int (x 2), .ref (ad 1 0), .ref (ad 6 0), .ref (ad 2 0), .ref (ad 8 0), .int (x 45), .int sp, .int (x 46), .int bl, .int (x 55), .long (y 56), .long (y 57)])) := hTop
  have hu1 : cu ≤ 18500 := by omega
  have hu2 : su ≤ 2600000 := by omega
  refine lv_aload_n hx hb d_law14_705 rfl (lv_at hl 1 rfl) ?_
  refine lv_aload_n hx hb d_law14_706 rfl (lv_at hl 0 rfl) ?_
  refine lv_iload_n hx hb d_law14_707 rfl (lv_at hl 3 rfl) ?_
  refine lv_iconst (v := 1) hx hb d_law14_708 (by decide) ?_
  refine lv_iadd hx hb d_law14_709 ?_
  refine mv_iald C X (xl.old hsc) 0 rfl (i0 + 1) (nI_add i0 1) (by omega) (by omega) d_law14_710 ?_
  refine lv_aload_n hx hb d_law14_711 rfl (lv_at hl 0 rfl) ?_
  refine lv_iload_n hx hb d_law14_712 rfl (lv_at hl 3 rfl) ?_
  refine lv_iconst (v := 2) hx hb d_law14_713 (by decide) ?_
  refine lv_iadd hx hb d_law14_714 ?_
  refine mv_iald C X (xl.old hsc) 0 rfl (i0 + 2) (nI_add i0 2) (by omega) (by omega) d_law14_715 ?_
  refine lv_if_eq (tgt := 723) hx hb d_law14_716 (by decide) (fun c1 => ?_) (fun c1 => ?_)
  · skip
    refine lv_iconst (v := 0) hx hb d_law14_723 (by decide) ?_
    refine mv_bi X (mv_rV (rest := []) (As := [.int (xs (i0 + 1)), .int 0]) gt_good C X k_11_88 (cm_MenuScreens_lamp hE hJ xl hC) (xl.get (i := 0) (j := 0) hTop2) rfl rfl ⟨Nat.le_of_ble_eq_true rfl, Nat.le_of_ble_eq_true rfl⟩ rfl hl.1 rfl (Nat.le_of_ble_eq_true rfl) d_law14_724 ⟨by show cu + 0 ≤ 600000; omega, by show su + 0 ≤ 7302250; omega⟩) (fun r2 hN H locs hp X => ?_)
    obtain ⟨ad1, L1, q1, kp1, hst⟩ := hp
    have M1 := lw_mid hM q1 kp1
    refine lv_aload_n hx hb d_law14_727 rfl (lv_at hl 2 rfl) ?_
    refine lv_aload_n hx hb d_law14_728 rfl (lv_at hl 0 rfl) ?_
    refine lv_iload_n hx hb d_law14_729 rfl (lv_at hl 3 rfl) ?_
    refine lv_iconst (v := 1) hx hb d_law14_730 (by decide) ?_
    refine lv_iadd hx hb d_law14_731 ?_
    refine mv_iald C X (q1.1.old hsc) 0 rfl (i0 + 1) (nI_add i0 1) (by omega) (by omega) d_law14_732 ?_
    refine lv_aload_n hx hb d_law14_733 rfl (lv_at hl 0 rfl) ?_
    refine lv_iload_n hx hb d_law14_734 rfl (lv_at hl 3 rfl) ?_
    refine lv_iconst (v := 2) hx hb d_law14_735 (by decide) ?_
    refine lv_iadd hx hb d_law14_736 ?_
    refine mv_iald C X (q1.1.old hsc) 0 rfl (i0 + 2) (nI_add i0 2) (by omega) (by omega) d_law14_737 ?_
    refine lv_if_eq (tgt := 745) hx hb d_law14_738 (by decide) (fun c3 => ?_) (fun z => absurd c1 z)
    refine lv_iconst (v := 0) hx hb d_law14_745 (by decide) ?_
    refine mv_bi X (mv_rV (rest := [.int r2]) (As := [.int (xs (i0 + 1)), .int 0]) gt_good C X k_11_92 (cm_MenuScreensModel_lamp hE M1 _ _) M1.1 rfl rfl ⟨Nat.le_of_ble_eq_true rfl, Nat.le_of_ble_eq_true rfl⟩ rfl hl.1 rfl (Nat.le_of_ble_eq_true rfl) d_law14_746 ⟨by show (cu + 0) + 0 ≤ 600000; omega, by show (su + 0) + 0 ≤ 7302250; omega⟩) (fun r4 hN H locs hp X => ?_)
    obtain ⟨x', y', A', B', M2, hs1, hs2, hs3, hs⟩ := hp
    obtain ⟨er, hC2⟩ := hst _ x' y' A' B' ⟨hs1, hs2, hs3, hs⟩
    obtain ⟨L2, hz⟩ := lw_end hM q1 kp1 M2 hC2
    refine lv_icmp_eq (tgt := 754) hx hb d_law14_749 (by decide) (fun c5 => ?_) (fun z => absurd er z)
    exact K _ _ _ _ _ _ _ _ _ _ _ _ _ kp1.2 (congrFun (kp1.1 50 (by decide)).2 0) (I.nx hz (by rw [hs1]; rfl) (by rw [hs2]) (by rw [hs2])) X (lv_sub hl [0, 1, 2, 3] rfl)
  · skip
    refine lv_iconst (v := 1) hx hb d_law14_719 (by decide) ?_
    refine lv_goto (tgt := 724) hx hb d_law14_720 (by decide) ?_
    refine mv_bi X (mv_rV (rest := []) (As := [.int (xs (i0 + 1)), .int 1]) gt_good C X k_11_88 (cm_MenuScreens_lamp hE hJ xl hC) (xl.get (i := 0) (j := 0) hTop2) rfl rfl ⟨Nat.le_of_ble_eq_true rfl, Nat.le_of_ble_eq_true rfl⟩ rfl hl.1 rfl (Nat.le_of_ble_eq_true rfl) d_law14_724 ⟨by show cu + 0 ≤ 600000; omega, by show su + 0 ≤ 7302250; omega⟩) (fun r6 hN H locs hp X => ?_)
    obtain ⟨ad1, L1, q1, kp1, hst⟩ := hp
    have M1 := lw_mid hM q1 kp1
    refine lv_aload_n hx hb d_law14_727 rfl (lv_at hl 2 rfl) ?_
    refine lv_aload_n hx hb d_law14_728 rfl (lv_at hl 0 rfl) ?_
    refine lv_iload_n hx hb d_law14_729 rfl (lv_at hl 3 rfl) ?_
    refine lv_iconst (v := 1) hx hb d_law14_730 (by decide) ?_
    refine lv_iadd hx hb d_law14_731 ?_
    refine mv_iald C X (q1.1.old hsc) 0 rfl (i0 + 1) (nI_add i0 1) (by omega) (by omega) d_law14_732 ?_
    refine lv_aload_n hx hb d_law14_733 rfl (lv_at hl 0 rfl) ?_
    refine lv_iload_n hx hb d_law14_734 rfl (lv_at hl 3 rfl) ?_
    refine lv_iconst (v := 2) hx hb d_law14_735 (by decide) ?_
    refine lv_iadd hx hb d_law14_736 ?_
    refine mv_iald C X (q1.1.old hsc) 0 rfl (i0 + 2) (nI_add i0 2) (by omega) (by omega) d_law14_737 ?_
    refine lv_if_eq (tgt := 745) hx hb d_law14_738 (by decide) (fun z => absurd z c1) (fun c7 => ?_)
    refine lv_iconst (v := 1) hx hb d_law14_741 (by decide) ?_
    refine lv_goto (tgt := 746) hx hb d_law14_742 (by decide) ?_
    refine mv_bi X (mv_rV (rest := [.int r6]) (As := [.int (xs (i0 + 1)), .int 1]) gt_good C X k_11_92 (cm_MenuScreensModel_lamp hE M1 _ _) M1.1 rfl rfl ⟨Nat.le_of_ble_eq_true rfl, Nat.le_of_ble_eq_true rfl⟩ rfl hl.1 rfl (Nat.le_of_ble_eq_true rfl) d_law14_746 ⟨by show (cu + 0) + 0 ≤ 600000; omega, by show (su + 0) + 0 ≤ 7302250; omega⟩) (fun r8 hN H locs hp X => ?_)
    obtain ⟨x', y', A', B', M2, hs1, hs2, hs3, hs⟩ := hp
    obtain ⟨er, hC2⟩ := hst _ x' y' A' B' ⟨hs1, hs2, hs3, hs⟩
    obtain ⟨L2, hz⟩ := lw_end hM q1 kp1 M2 hC2
    refine lv_icmp_eq (tgt := 754) hx hb d_law14_749 (by decide) (fun c9 => ?_) (fun z => absurd er z)
    exact K _ _ _ _ _ _ _ _ _ _ _ _ _ kp1.2 (congrFun (kp1.1 50 (by decide)).2 0) (I.nx hz (by rw [hs1]; rfl) (by rw [hs2]) (by rw [hs2])) X (lv_sub hl [0, 1, 2, 3] rfl)
