theorem d_law7_393 : decode code 393 = .ok (.aload_n 1, 1) := by decide +kernel
theorem d_law7_394 : decode code 394 = .ok (.aload_n 0, 1) := by decide +kernel
theorem d_law7_395 : decode code 395 = .ok (.iload_n 3, 1) := by decide +kernel
theorem d_law7_396 : decode code 396 = .ok (.iconst 1, 1) := by decide +kernel
theorem d_law7_397 : decode code 397 = .ok (.iadd, 1) := by decide +kernel
theorem d_law7_398 : decode code 398 = .ok (.iaload, 1) := by decide +kernel
theorem d_law7_399 : decode code 399 = .ok (.invokevirtual 57, 3) := by decide +kernel
theorem d_law7_402 : decode code 402 = .ok (.aload_n 2, 1) := by decide +kernel
theorem d_law7_403 : decode code 403 = .ok (.aload_n 0, 1) := by decide +kernel
theorem d_law7_404 : decode code 404 = .ok (.iload_n 3, 1) := by decide +kernel
theorem d_law7_405 : decode code 405 = .ok (.iconst 1, 1) := by decide +kernel
theorem d_law7_406 : decode code 406 = .ok (.iadd, 1) := by decide +kernel
theorem d_law7_407 : decode code 407 = .ok (.iaload, 1) := by decide +kernel
theorem d_law7_408 : decode code 408 = .ok (.invokevirtual 60, 3) := by decide +kernel
theorem d_law7_411 : decode code 411 = .ok (.if_icmp .eq 343, 3) := by decide +kernel
set_option maxRecDepth 100000 in
set_option maxHeartbeats 4000000 in
theorem lw_accept {p : Program} {l : Launch} {e : Env} {S0 s : State} {m : MethodId} {args : Array Value} {below : List Frame} {meth : Method} {c : Code} {H : Heap} {locs : List Loc} {Q : State → Prop} {ls : Array Slot} {b n : Nat} {D : va_G} {dT : Nat → ClassId} {dE mO : Nat} {hcv h : vH} {xs : Nat → Int32} {ad : Nat → Nat → Nat} {L : vL} {cap : Nat} {x : Nat → Int32} {y : Nat → Int64} {A : Nat → Nat → Int32} {B : Nat → Nat → Int64} {k i0 cu su : Nat} (hE : vEnv S0 b D dT) (hJ : vJ S0 dE mO) (hcE : ∃ fE, hcv dE = some (aR dT 0 fE)) (C : vC p s m args c code 4 "MenuScreensLaw" GT D vcl (vty dT)) (hsc : hcv b = some (.inl (dT 0, n, .inl xs))) (hn9 : n ≤ 2562) (hk9 : k ≤ 511) (hi9 : i0 + 5 ≤ n) (I : lwI S0.heap.size dT dE hcv h ad L cap x y A B k cu su) (X : vO S0 D vcl h s H locs) (hl : lv_has ls 4 [(0, .ref b), (1, .ref (ad 0 0)), (2, .ref (ad 50 0)), (3, .int (nI i0))]) (K : ∀ (h' : vH) (ad' : Nat → Nat → Nat) (L' : vL) (cap' : Nat) (x' : Nat → Int32) (y' : Nat → Int64) (A' : Nat → Nat → Int32) (B' : Nat → Nat → Int64) (cu' su' : Nat) (H' : Heap) (locs' : List Loc) (ls' : Array Slot), ad' 0 0 = ad 0 0 → ad' 50 0 = ad 50 0 → lwI S0.heap.size dT dE hcv h' ad' L' cap' x' y' A' B' (k + 1) cu' su' → vO S0 D vcl h' s H' locs' → lv_has ls' 4 [(0, .ref b), (1, .ref (ad 0 0)), (2, .ref (ad 50 0)), (3, .int (nI i0))] → W p l e room_1 s m args below meth c H' locs' cu' su' Q (F0 m 754 ls' [])) : W p l e room_1 s m args below meth c H locs cu su Q (F0 m 393 ls []) := by
  have hx := C.1.1
  have hb := C.1.2.1
  obtain ⟨xl, hC, hM, ⟨n0, e30, hn4, hnc, hcap, hcu, hsu⟩, me, ce0, hme, hce, hme2, hce2⟩ := id I
  obtain ⟨⟨sp, bl, hTop, -⟩, -⟩ := id hC
  have hTop2 : L 0 0 = some (.inr (3, [.int (x 1), .int (x 2), .ref (ad 1 0), .ref (ad 6 0), .ref (ad 2 0), .ref (ad 8 0), .int (x 45), .int sp, .int (x 46), .int bl, .int (x 55), .long (y 56), .long (y 57)])) := hTop
  have hu1 : cu ≤ 18500 := by omega
  have hu2 : su ≤ 2600000 := by omega
  obtain ⟨-, -, -, ⟨n50, e50, hWr⟩, ⟨nr, e48, hPl⟩, -, -, ⟨nv, ns, np, nc, pf, cb, ce, cs, c0, lh, hnum, ⟨pr, e45, hpr1, hpr2⟩, hRP, hTx, hrn⟩, hkey, hsm⟩ := id hC
  have hn200 : n50 ≤ 200 := by obtain ⟨_, _, _, _, _, _, _, _, _, _, _, _, _, _, q, _⟩ := hWr; exact q
  refine lv_aload_n hx hb d_law7_393 rfl (lv_at hl 1 rfl) ?_
  refine lv_aload_n hx hb d_law7_394 rfl (lv_at hl 0 rfl) ?_
  refine lv_iload_n hx hb d_law7_395 rfl (lv_at hl 3 rfl) ?_
  refine lv_iconst (v := 1) hx hb d_law7_396 (by decide) ?_
  refine lv_iadd hx hb d_law7_397 ?_
  refine mv_iald C X (xl.old hsc) 0 rfl (i0 + 1) (nI_add i0 1) (by omega) (by omega) d_law7_398 ?_
  refine mv_bi X (mv_rV (rest := []) (As := [.int (xs (i0 + 1))]) gt_good C X k_11_57 (cm_MenuScreens_accept hE hJ xl hC) (xl.get (i := 0) (j := 0) hTop2) rfl rfl ⟨Nat.le_of_ble_eq_true rfl, Nat.le_of_ble_eq_true rfl⟩ rfl hl.1 rfl (Nat.le_of_ble_eq_true rfl) d_law7_399 ⟨by show cu + 0 ≤ 600000; omega, by show su + 0 ≤ 7302250; omega⟩) (fun r1 hN H locs hp X => ?_)
  obtain ⟨ad1, L1, q1, kp1, hst⟩ := hp
  have M1 := lw_mid hM q1 kp1
  refine lv_aload_n hx hb d_law7_402 rfl (lv_at hl 2 rfl) ?_
  refine lv_aload_n hx hb d_law7_403 rfl (lv_at hl 0 rfl) ?_
  refine lv_iload_n hx hb d_law7_404 rfl (lv_at hl 3 rfl) ?_
  refine lv_iconst (v := 1) hx hb d_law7_405 (by decide) ?_
  refine lv_iadd hx hb d_law7_406 ?_
  refine mv_iald C X (q1.1.old hsc) 0 rfl (i0 + 1) (nI_add i0 1) (by omega) (by omega) d_law7_407 ?_
  refine mv_bi X (mv_rV (rest := [.int r1]) (As := [.int (xs (i0 + 1))]) gt_good C X k_11_60 (cm_MenuScreensModel_accept hE M1 _ e50 hn200) M1.1 rfl rfl ⟨Nat.le_of_ble_eq_true rfl, Nat.le_of_ble_eq_true rfl⟩ rfl hl.1 rfl (Nat.le_of_ble_eq_true rfl) d_law7_408 ⟨by show (cu + 0) + 0 ≤ 600000; omega, by show (su + 0) + 0 ≤ 7302250; omega⟩) (fun r2 hN H locs hp X => ?_)
  obtain ⟨x', y', A', B', M2, hs1, hs2, hs3, hs⟩ := hp
  obtain ⟨er, hC2⟩ := hst _ x' y' A' B' ⟨hs1, hs2, hs3, n50, e50, hn200, hs⟩
  obtain ⟨L2, hz⟩ := lw_end hM q1 kp1 M2 hC2
  refine lv_icmp_eq (tgt := 754) hx hb d_law7_411 (by decide) (fun c3 => ?_) (fun z => absurd er z)
  exact K _ _ _ _ _ _ _ _ _ _ _ _ _ kp1.2 (congrFun (kp1.1 50 (by decide)).2 0) (I.nx hz (by rw [hs1]; rfl) (by rw [hs2]) (by rw [hs2])) X (lv_sub hl [0, 1, 2, 3] rfl)
theorem d_law8_416 : decode code 416 = .ok (.aload_n 1, 1) := by decide +kernel
theorem d_law8_417 : decode code 417 = .ok (.aload_n 0, 1) := by decide +kernel
theorem d_law8_418 : decode code 418 = .ok (.iload_n 3, 1) := by decide +kernel
theorem d_law8_419 : decode code 419 = .ok (.iconst 1, 1) := by decide +kernel
theorem d_law8_420 : decode code 420 = .ok (.iadd, 1) := by decide +kernel
theorem d_law8_421 : decode code 421 = .ok (.iaload, 1) := by decide +kernel
theorem d_law8_422 : decode code 422 = .ok (.i2l, 1) := by decide +kernel
theorem d_law8_423 : decode code 423 = .ok (.bipush 32, 2) := by decide +kernel
theorem d_law8_425 : decode code 425 = .ok (.lshl, 1) := by decide +kernel
theorem d_law8_426 : decode code 426 = .ok (.aload_n 0, 1) := by decide +kernel
theorem d_law8_427 : decode code 427 = .ok (.iload_n 3, 1) := by decide +kernel
theorem d_law8_428 : decode code 428 = .ok (.iconst 2, 1) := by decide +kernel
theorem d_law8_429 : decode code 429 = .ok (.iadd, 1) := by decide +kernel
theorem d_law8_430 : decode code 430 = .ok (.iaload, 1) := by decide +kernel
theorem d_law8_431 : decode code 431 = .ok (.i2l, 1) := by decide +kernel
theorem d_law8_432 : decode code 432 = .ok (.ldc2_w 31, 3) := by decide +kernel
theorem d_law8_435 : decode code 435 = .ok (.land, 1) := by decide +kernel
theorem d_law8_436 : decode code 436 = .ok (.lor, 1) := by decide +kernel
theorem d_law8_437 : decode code 437 = .ok (.aload_n 0, 1) := by decide +kernel
theorem d_law8_438 : decode code 438 = .ok (.iload_n 3, 1) := by decide +kernel
theorem d_law8_439 : decode code 439 = .ok (.iconst 3, 1) := by decide +kernel
theorem d_law8_440 : decode code 440 = .ok (.iadd, 1) := by decide +kernel
theorem d_law8_441 : decode code 441 = .ok (.iaload, 1) := by decide +kernel
theorem d_law8_442 : decode code 442 = .ok (.i2l, 1) := by decide +kernel
theorem d_law8_443 : decode code 443 = .ok (.bipush 32, 2) := by decide +kernel
theorem d_law8_445 : decode code 445 = .ok (.lshl, 1) := by decide +kernel
theorem d_law8_446 : decode code 446 = .ok (.aload_n 0, 1) := by decide +kernel
theorem d_law8_447 : decode code 447 = .ok (.iload_n 3, 1) := by decide +kernel
theorem d_law8_448 : decode code 448 = .ok (.iconst 4, 1) := by decide +kernel
theorem d_law8_449 : decode code 449 = .ok (.iadd, 1) := by decide +kernel
theorem d_law8_450 : decode code 450 = .ok (.iaload, 1) := by decide +kernel
theorem d_law8_451 : decode code 451 = .ok (.i2l, 1) := by decide +kernel
theorem d_law8_452 : decode code 452 = .ok (.ldc2_w 31, 3) := by decide +kernel
theorem d_law8_455 : decode code 455 = .ok (.land, 1) := by decide +kernel
theorem d_law8_456 : decode code 456 = .ok (.lor, 1) := by decide +kernel
theorem d_law8_457 : decode code 457 = .ok (.invokevirtual 61, 3) := by decide +kernel
theorem d_law8_460 : decode code 460 = .ok (.aload_n 2, 1) := by decide +kernel
theorem d_law8_461 : decode code 461 = .ok (.aload_n 0, 1) := by decide +kernel
theorem d_law8_462 : decode code 462 = .ok (.iload_n 3, 1) := by decide +kernel
theorem d_law8_463 : decode code 463 = .ok (.iconst 1, 1) := by decide +kernel
theorem d_law8_464 : decode code 464 = .ok (.iadd, 1) := by decide +kernel
theorem d_law8_465 : decode code 465 = .ok (.iaload, 1) := by decide +kernel
theorem d_law8_466 : decode code 466 = .ok (.i2l, 1) := by decide +kernel
theorem d_law8_467 : decode code 467 = .ok (.bipush 32, 2) := by decide +kernel
theorem d_law8_469 : decode code 469 = .ok (.lshl, 1) := by decide +kernel
theorem d_law8_470 : decode code 470 = .ok (.aload_n 0, 1) := by decide +kernel
theorem d_law8_471 : decode code 471 = .ok (.iload_n 3, 1) := by decide +kernel
theorem d_law8_472 : decode code 472 = .ok (.iconst 2, 1) := by decide +kernel
theorem d_law8_473 : decode code 473 = .ok (.iadd, 1) := by decide +kernel
theorem d_law8_474 : decode code 474 = .ok (.iaload, 1) := by decide +kernel
theorem d_law8_475 : decode code 475 = .ok (.i2l, 1) := by decide +kernel
theorem d_law8_476 : decode code 476 = .ok (.ldc2_w 31, 3) := by decide +kernel
theorem d_law8_479 : decode code 479 = .ok (.land, 1) := by decide +kernel
theorem d_law8_480 : decode code 480 = .ok (.lor, 1) := by decide +kernel
theorem d_law8_481 : decode code 481 = .ok (.aload_n 0, 1) := by decide +kernel
theorem d_law8_482 : decode code 482 = .ok (.iload_n 3, 1) := by decide +kernel
theorem d_law8_483 : decode code 483 = .ok (.iconst 3, 1) := by decide +kernel
theorem d_law8_484 : decode code 484 = .ok (.iadd, 1) := by decide +kernel
theorem d_law8_485 : decode code 485 = .ok (.iaload, 1) := by decide +kernel
theorem d_law8_486 : decode code 486 = .ok (.i2l, 1) := by decide +kernel
theorem d_law8_487 : decode code 487 = .ok (.bipush 32, 2) := by decide +kernel
theorem d_law8_489 : decode code 489 = .ok (.lshl, 1) := by decide +kernel
theorem d_law8_490 : decode code 490 = .ok (.aload_n 0, 1) := by decide +kernel
theorem d_law8_491 : decode code 491 = .ok (.iload_n 3, 1) := by decide +kernel
theorem d_law8_492 : decode code 492 = .ok (.iconst 4, 1) := by decide +kernel
theorem d_law8_493 : decode code 493 = .ok (.iadd, 1) := by decide +kernel
theorem d_law8_494 : decode code 494 = .ok (.iaload, 1) := by decide +kernel
theorem d_law8_495 : decode code 495 = .ok (.i2l, 1) := by decide +kernel
theorem d_law8_496 : decode code 496 = .ok (.ldc2_w 31, 3) := by decide +kernel
theorem d_law8_499 : decode code 499 = .ok (.land, 1) := by decide +kernel
theorem d_law8_500 : decode code 500 = .ok (.lor, 1) := by decide +kernel
theorem d_law8_501 : decode code 501 = .ok (.invokevirtual 65, 3) := by decide +kernel
theorem d_law8_504 : decode code 504 = .ok (.if_icmp .eq 250, 3) := by decide +kernel
set_option maxRecDepth 100000 in
set_option maxHeartbeats 4000000 in
theorem lw_trip {p : Program} {l : Launch} {e : Env} {S0 s : State} {m : MethodId} {args : Array Value} {below : List Frame} {meth : Method} {c : Code} {H : Heap} {locs : List Loc} {Q : State → Prop} {ls : Array Slot} {b n : Nat} {D : va_G} {dT : Nat → ClassId} {dE mO : Nat} {hcv h : vH} {xs : Nat → Int32} {ad : Nat → Nat → Nat} {L : vL} {cap : Nat} {x : Nat → Int32} {y : Nat → Int64} {A : Nat → Nat → Int32} {B : Nat → Nat → Int64} {k i0 cu su : Nat} (hE : vEnv S0 b D dT) (hJ : vJ S0 dE mO) (hcE : ∃ fE, hcv dE = some (aR dT 0 fE)) (C : vC p s m args c code 4 "MenuScreensLaw" GT D vcl (vty dT)) (hsc : hcv b = some (.inl (dT 0, n, .inl xs))) (hn9 : n ≤ 2562) (hk9 : k ≤ 511) (hi9 : i0 + 5 ≤ n) (I : lwI S0.heap.size dT dE hcv h ad L cap x y A B k cu su) (X : vO S0 D vcl h s H locs) (hl : lv_has ls 4 [(0, .ref b), (1, .ref (ad 0 0)), (2, .ref (ad 50 0)), (3, .int (nI i0))]) (K : ∀ (h' : vH) (ad' : Nat → Nat → Nat) (L' : vL) (cap' : Nat) (x' : Nat → Int32) (y' : Nat → Int64) (A' : Nat → Nat → Int32) (B' : Nat → Nat → Int64) (cu' su' : Nat) (H' : Heap) (locs' : List Loc) (ls' : Array Slot), ad' 0 0 = ad 0 0 → ad' 50 0 = ad 50 0 → lwI S0.heap.size dT dE hcv h' ad' L' cap' x' y' A' B' (k + 1) cu' su' → vO S0 D vcl h' s H' locs' → lv_has ls' 4 [(0, .ref b), (1, .ref (ad 0 0)), (2, .ref (ad 50 0)), (3, .int (nI i0))] → W p l e room_1 s m args below meth c H' locs' cu' su' Q (F0 m 754 ls' [])) : W p l e room_1 s m args below meth c H locs cu su Q (F0 m 416 ls []) := by
  have hx := C.1.1
  have hb := C.1.2.1
  obtain ⟨xl, hC, hM, ⟨n0, e30, hn4, hnc, hcap, hcu, hsu⟩, me, ce0, hme, hce, hme2, hce2⟩ := id I
  obtain ⟨⟨sp, bl, hTop, -⟩, -⟩ := id hC
  have hTop2 : L 0 0 = some (.inr (3, [.int (x 1), .int (x 2), .ref (ad 1 0), .ref (ad 6 0), .ref (ad 2 0), .ref (ad 8 0), .int (x 45), .int sp, .int (x 46), .int bl, .int (x 55), .long (y 56), .long (y 57)])) := hTop
  have hu1 : cu ≤ 18500 := by omega
  have hu2 : su ≤ 2600000 := by omega
  refine lv_aload_n hx hb d_law8_416 rfl (lv_at hl 1 rfl) ?_
  refine lv_aload_n hx hb d_law8_417 rfl (lv_at hl 0 rfl) ?_
  refine lv_iload_n hx hb d_law8_418 rfl (lv_at hl 3 rfl) ?_
  refine lv_iconst (v := 1) hx hb d_law8_419 (by decide) ?_
  refine lv_iadd hx hb d_law8_420 ?_
  refine mv_iald C X (xl.old hsc) 0 rfl (i0 + 1) (nI_add i0 1) (by omega) (by omega) d_law8_421 ?_
  refine lv_i2l (v := ((xs (i0 + 1)) : Int32).toInt64) hx hb d_law8_422 rfl ?_
  refine lv_bipush (v := 32) hx hb d_law8_423 (by decide) ?_
  refine lv_lshl (v := ((((xs (i0 + 1)) : Int32).toInt64) <<< ((32 : Int32).toInt64 &&& 63))) hx hb d_law8_425 rfl ?_
  refine lv_aload_n hx hb d_law8_426 rfl (lv_at hl 0 rfl) ?_
  refine lv_iload_n hx hb d_law8_427 rfl (lv_at hl 3 rfl) ?_
  refine lv_iconst (v := 2) hx hb d_law8_428 (by decide) ?_
  refine lv_iadd hx hb d_law8_429 ?_
  refine mv_iald C X (xl.old hsc) 0 rfl (i0 + 2) (nI_add i0 2) (by omega) (by omega) d_law8_430 ?_
  refine lv_i2l (v := ((xs (i0 + 2)) : Int32).toInt64) hx hb d_law8_431 rfl ?_
  refine lv_ldc2 (v := 4294967295) hx hb C.1.2.2.2.1 (C.1.2.2.2.2 _ (gt_6 138 (by decide +kernel) rfl)) d_law8_432 ?_
  refine lv_land hx hb d_law8_435 ?_
  refine lv_lor hx hb d_law8_436 ?_
  refine lv_aload_n hx hb d_law8_437 rfl (lv_at hl 0 rfl) ?_
  refine lv_iload_n hx hb d_law8_438 rfl (lv_at hl 3 rfl) ?_
  refine lv_iconst (v := 3) hx hb d_law8_439 (by decide) ?_
  refine lv_iadd hx hb d_law8_440 ?_
  refine mv_iald C X (xl.old hsc) 0 rfl (i0 + 3) (nI_add i0 3) (by omega) (by omega) d_law8_441 ?_
  refine lv_i2l (v := ((xs (i0 + 3)) : Int32).toInt64) hx hb d_law8_442 rfl ?_
  refine lv_bipush (v := 32) hx hb d_law8_443 (by decide) ?_
  refine lv_lshl (v := ((((xs (i0 + 3)) : Int32).toInt64) <<< ((32 : Int32).toInt64 &&& 63))) hx hb d_law8_445 rfl ?_
  refine lv_aload_n hx hb d_law8_446 rfl (lv_at hl 0 rfl) ?_
  refine lv_iload_n hx hb d_law8_447 rfl (lv_at hl 3 rfl) ?_
  refine lv_iconst (v := 4) hx hb d_law8_448 (by decide) ?_
  refine lv_iadd hx hb d_law8_449 ?_
  refine mv_iald C X (xl.old hsc) 0 rfl (i0 + 4) (nI_add i0 4) (by omega) (by omega) d_law8_450 ?_
  refine lv_i2l (v := ((xs (i0 + 4)) : Int32).toInt64) hx hb d_law8_451 rfl ?_
  refine lv_ldc2 (v := 4294967295) hx hb C.1.2.2.2.1 (C.1.2.2.2.2 _ (gt_6 138 (by decide +kernel) rfl)) d_law8_452 ?_
  refine lv_land hx hb d_law8_455 ?_
  refine lv_lor hx hb d_law8_456 ?_
  refine mv_bi X (mv_rV (rest := []) (As := [.long (((((xs (i0 + 1)) : Int32).toInt64) <<< ((32 : Int32).toInt64 &&& 63)) ||| ((((xs (i0 + 2)) : Int32).toInt64) &&& 4294967295)), .long (((((xs (i0 + 3)) : Int32).toInt64) <<< ((32 : Int32).toInt64 &&& 63)) ||| ((((xs (i0 + 4)) : Int32).toInt64) &&& 4294967295))]) gt_good C X k_11_61 (cm_MenuScreens_trip hE hJ xl hC) (xl.get (i := 0) (j := 0) hTop2) rfl rfl ⟨Nat.le_of_ble_eq_true rfl, Nat.le_of_ble_eq_true rfl⟩ rfl hl.1 rfl (Nat.le_of_ble_eq_true rfl) d_law8_457 ⟨by show cu + 0 ≤ 600000; omega, by show su + 0 ≤ 7302250; omega⟩) (fun r1 hN H locs hp X => ?_)
  obtain ⟨ad1, L1, q1, kp1, hst⟩ := hp
  have M1 := lw_mid hM q1 kp1
  refine lv_aload_n hx hb d_law8_460 rfl (lv_at hl 2 rfl) ?_
  refine lv_aload_n hx hb d_law8_461 rfl (lv_at hl 0 rfl) ?_
  refine lv_iload_n hx hb d_law8_462 rfl (lv_at hl 3 rfl) ?_
  refine lv_iconst (v := 1) hx hb d_law8_463 (by decide) ?_
  refine lv_iadd hx hb d_law8_464 ?_
  refine mv_iald C X (q1.1.old hsc) 0 rfl (i0 + 1) (nI_add i0 1) (by omega) (by omega) d_law8_465 ?_
  refine lv_i2l (v := ((xs (i0 + 1)) : Int32).toInt64) hx hb d_law8_466 rfl ?_
  refine lv_bipush (v := 32) hx hb d_law8_467 (by decide) ?_
  refine lv_lshl (v := ((((xs (i0 + 1)) : Int32).toInt64) <<< ((32 : Int32).toInt64 &&& 63))) hx hb d_law8_469 rfl ?_
  refine lv_aload_n hx hb d_law8_470 rfl (lv_at hl 0 rfl) ?_
  refine lv_iload_n hx hb d_law8_471 rfl (lv_at hl 3 rfl) ?_
  refine lv_iconst (v := 2) hx hb d_law8_472 (by decide) ?_
  refine lv_iadd hx hb d_law8_473 ?_
  refine mv_iald C X (q1.1.old hsc) 0 rfl (i0 + 2) (nI_add i0 2) (by omega) (by omega) d_law8_474 ?_
  refine lv_i2l (v := ((xs (i0 + 2)) : Int32).toInt64) hx hb d_law8_475 rfl ?_
  refine lv_ldc2 (v := 4294967295) hx hb C.1.2.2.2.1 (C.1.2.2.2.2 _ (gt_6 138 (by decide +kernel) rfl)) d_law8_476 ?_
  refine lv_land hx hb d_law8_479 ?_
  refine lv_lor hx hb d_law8_480 ?_
  refine lv_aload_n hx hb d_law8_481 rfl (lv_at hl 0 rfl) ?_
  refine lv_iload_n hx hb d_law8_482 rfl (lv_at hl 3 rfl) ?_
  refine lv_iconst (v := 3) hx hb d_law8_483 (by decide) ?_
  refine lv_iadd hx hb d_law8_484 ?_
  refine mv_iald C X (q1.1.old hsc) 0 rfl (i0 + 3) (nI_add i0 3) (by omega) (by omega) d_law8_485 ?_
  refine lv_i2l (v := ((xs (i0 + 3)) : Int32).toInt64) hx hb d_law8_486 rfl ?_
  refine lv_bipush (v := 32) hx hb d_law8_487 (by decide) ?_
  refine lv_lshl (v := ((((xs (i0 + 3)) : Int32).toInt64) <<< ((32 : Int32).toInt64 &&& 63))) hx hb d_law8_489 rfl ?_
  refine lv_aload_n hx hb d_law8_490 rfl (lv_at hl 0 rfl) ?_
  refine lv_iload_n hx hb d_law8_491 rfl (lv_at hl 3 rfl) ?_
  refine lv_iconst (v := 4) hx hb d_law8_492 (by decide) ?_
  refine lv_iadd hx hb d_law8_493 ?_
  refine mv_iald C X (q1.1.old hsc) 0 rfl (i0 + 4) (nI_add i0 4) (by omega) (by omega) d_law8_494 ?_
  refine lv_i2l (v := ((xs (i0 + 4)) : Int32).toInt64) hx hb d_law8_495 rfl ?_
  refine lv_ldc2 (v := 4294967295) hx hb C.1.2.2.2.1 (C.1.2.2.2.2 _ (gt_6 138 (by decide +kernel) rfl)) d_law8_496 ?_
  refine lv_land hx hb d_law8_499 ?_
  refine lv_lor hx hb d_law8_500 ?_
  refine mv_bi X (mv_rV (rest := [.int r1]) (As := [.long (((((xs (i0 + 1)) : Int32).toInt64) <<< ((32 : Int32).toInt64 &&& 63)) ||| ((((xs (i0 + 2)) : Int32).toInt64) &&& 4294967295)), .long (((((xs (i0 + 3)) : Int32).toInt64) <<< ((32 : Int32).toInt64 &&& 63)) ||| ((((xs (i0 + 4)) : Int32).toInt64) &&& 4294967295))]) gt_good C X k_11_65 (cm_MenuScreensModel_trip hE M1 _ _) M1.1 rfl rfl ⟨Nat.le_of_ble_eq_true rfl, Nat.le_of_ble_eq_true rfl⟩ rfl hl.1 rfl (Nat.le_of_ble_eq_true rfl) d_law8_501 ⟨by show (cu + 0) + 0 ≤ 600000; omega, by show (su + 0) + 0 ≤ 7302250; omega⟩) (fun r2 hN H locs hp X => ?_)
  obtain ⟨x', y', A', B', M2, hs1, hs2, hs⟩ := hp
  obtain ⟨er, hC2⟩ := hst _ x' y' A' B' ⟨hs1, hs2, hs⟩
  obtain ⟨L2, hz⟩ := lw_end hM q1 kp1 M2 hC2
  refine lv_icmp_eq (tgt := 754) hx hb d_law8_504 (by decide) (fun c3 => ?_) (fun z => absurd er z)
  exact K _ _ _ _ _ _ _ _ _ _ _ _ _ kp1.2 (congrFun (kp1.1 50 (by decide)).2 0) (by
    rcases hs with ⟨_, _, w1, w2⟩ | ⟨g, _, w1, w2⟩
    · exact I.nx hz (by rw [w1]; rfl) (by rw [w2]) (by rw [w2])
    · exact I.tp g hz (by rw [w1]; rfl) w2) X (lv_sub hl [0, 1, 2, 3] rfl)
theorem d_law9_509 : decode code 509 = .ok (.aload_n 1, 1) := by decide +kernel
theorem d_law9_510 : decode code 510 = .ok (.aload_n 0, 1) := by decide +kernel
theorem d_law9_511 : decode code 511 = .ok (.iload_n 3, 1) := by decide +kernel
theorem d_law9_512 : decode code 512 = .ok (.iconst 1, 1) := by decide +kernel
theorem d_law9_513 : decode code 513 = .ok (.iadd, 1) := by decide +kernel
theorem d_law9_514 : decode code 514 = .ok (.iaload, 1) := by decide +kernel
theorem d_law9_515 : decode code 515 = .ok (.aload_n 0, 1) := by decide +kernel
theorem d_law9_516 : decode code 516 = .ok (.iload_n 3, 1) := by decide +kernel
theorem d_law9_517 : decode code 517 = .ok (.iconst 2, 1) := by decide +kernel
theorem d_law9_518 : decode code 518 = .ok (.iadd, 1) := by decide +kernel
theorem d_law9_519 : decode code 519 = .ok (.iaload, 1) := by decide +kernel
theorem d_law9_520 : decode code 520 = .ok (.invokevirtual 66, 3) := by decide +kernel
theorem d_law9_523 : decode code 523 = .ok (.aload_n 2, 1) := by decide +kernel
theorem d_law9_524 : decode code 524 = .ok (.aload_n 0, 1) := by decide +kernel
theorem d_law9_525 : decode code 525 = .ok (.iload_n 3, 1) := by decide +kernel
theorem d_law9_526 : decode code 526 = .ok (.iconst 1, 1) := by decide +kernel
theorem d_law9_527 : decode code 527 = .ok (.iadd, 1) := by decide +kernel
theorem d_law9_528 : decode code 528 = .ok (.iaload, 1) := by decide +kernel
theorem d_law9_529 : decode code 529 = .ok (.aload_n 0, 1) := by decide +kernel
theorem d_law9_530 : decode code 530 = .ok (.iload_n 3, 1) := by decide +kernel
theorem d_law9_531 : decode code 531 = .ok (.iconst 2, 1) := by decide +kernel
theorem d_law9_532 : decode code 532 = .ok (.iadd, 1) := by decide +kernel
theorem d_law9_533 : decode code 533 = .ok (.iaload, 1) := by decide +kernel
theorem d_law9_534 : decode code 534 = .ok (.invokevirtual 70, 3) := by decide +kernel
theorem d_law9_537 : decode code 537 = .ok (.lcmp, 1) := by decide +kernel
theorem d_law9_538 : decode code 538 = .ok (.ifCond .eq 216, 3) := by decide +kernel
set_option maxRecDepth 100000 in
set_option maxHeartbeats 4000000 in
theorem lw_sum {p : Program} {l : Launch} {e : Env} {S0 s : State} {m : MethodId} {args : Array Value} {below : List Frame} {meth : Method} {c : Code} {H : Heap} {locs : List Loc} {Q : State → Prop} {ls : Array Slot} {b n : Nat} {D : va_G} {dT : Nat → ClassId} {dE mO : Nat} {hcv h : vH} {xs : Nat → Int32} {ad : Nat → Nat → Nat} {L : vL} {cap : Nat} {x : Nat → Int32} {y : Nat → Int64} {A : Nat → Nat → Int32} {B : Nat → Nat → Int64} {k i0 cu su : Nat} (hE : vEnv S0 b D dT) (hJ : vJ S0 dE mO) (hcE : ∃ fE, hcv dE = some (aR dT 0 fE)) (C : vC p s m args c code 4 "MenuScreensLaw" GT D vcl (vty dT)) (hsc : hcv b = some (.inl (dT 0, n, .inl xs))) (hn9 : n ≤ 2562) (hk9 : k ≤ 511) (hi9 : i0 + 5 ≤ n) (I : lwI S0.heap.size dT dE hcv h ad L cap x y A B k cu su) (X : vO S0 D vcl h s H locs) (hl : lv_has ls 4 [(0, .ref b), (1, .ref (ad 0 0)), (2, .ref (ad 50 0)), (3, .int (nI i0))]) (K : ∀ (h' : vH) (ad' : Nat → Nat → Nat) (L' : vL) (cap' : Nat) (x' : Nat → Int32) (y' : Nat → Int64) (A' : Nat → Nat → Int32) (B' : Nat → Nat → Int64) (cu' su' : Nat) (H' : Heap) (locs' : List Loc) (ls' : Array Slot), ad' 0 0 = ad 0 0 → ad' 50 0 = ad 50 0 → lwI S0.heap.size dT dE hcv h' ad' L' cap' x' y' A' B' (k + 1) cu' su' → vO S0 D vcl h' s H' locs' → lv_has ls' 4 [(0, .ref b), (1, .ref (ad 0 0)), (2, .ref (ad 50 0)), (3, .int (nI i0))] → W p l e room_1 s m args below meth c H' locs' cu' su' Q (F0 m 754 ls' [])) : W p l e room_1 s m args below meth c H locs cu su Q (F0 m 509 ls []) := by
  have hx := C.1.1
  have hb := C.1.2.1
  obtain ⟨xl, hC, hM, ⟨n0, e30, hn4, hnc, hcap, hcu, hsu⟩, me, ce0, hme, hce, hme2, hce2⟩ := id I
  obtain ⟨⟨sp, bl, hTop, -⟩, -⟩ := id hC
  have hTop2 : L 0 0 = some (.inr (3, [.int (x 1), .int (x 2), .ref (ad 1 0), .ref (ad 6 0), .ref (ad 2 0), .ref (ad 8 0), .int (x 45), .int sp, .int (x 46), .int bl, .int (x 55), .long (y 56), .long (y 57)])) := hTop
  have hu1 : cu ≤ 18500 := by omega
  have hu2 : su ≤ 2600000 := by omega
  refine lv_aload_n hx hb d_law9_509 rfl (lv_at hl 1 rfl) ?_
  refine lv_aload_n hx hb d_law9_510 rfl (lv_at hl 0 rfl) ?_
  refine lv_iload_n hx hb d_law9_511 rfl (lv_at hl 3 rfl) ?_
  refine lv_iconst (v := 1) hx hb d_law9_512 (by decide) ?_
  refine lv_iadd hx hb d_law9_513 ?_
  refine mv_iald C X (xl.old hsc) 0 rfl (i0 + 1) (nI_add i0 1) (by omega) (by omega) d_law9_514 ?_
  refine lv_aload_n hx hb d_law9_515 rfl (lv_at hl 0 rfl) ?_
  refine lv_iload_n hx hb d_law9_516 rfl (lv_at hl 3 rfl) ?_
  refine lv_iconst (v := 2) hx hb d_law9_517 (by decide) ?_
  refine lv_iadd hx hb d_law9_518 ?_
  refine mv_iald C X (xl.old hsc) 0 rfl (i0 + 2) (nI_add i0 2) (by omega) (by omega) d_law9_519 ?_
  refine mv_bl X (mv_rV (rest := []) (As := [.int (xs (i0 + 1)), .int (xs (i0 + 2))]) gt_good C X k_11_66 (cm_MenuScreens_sum hE hJ xl hC hme hce (by omega) (by omega)) (xl.get (i := 0) (j := 0) hTop2) rfl rfl ⟨Nat.le_of_ble_eq_true rfl, Nat.le_of_ble_eq_true rfl⟩ rfl hl.1 rfl (Nat.le_of_ble_eq_true rfl) d_law9_520 ⟨by show cu + 0 ≤ 600000; omega, by show su + 0 ≤ 7302250; omega⟩) (fun r1 hN H locs hp X => ?_)
  obtain ⟨eh, hq⟩ := hp
  have hC1 : CR dT dE hN ad L cap x y A B := by rw [eh]; exact hC
  have q1 : LR S0.heap.size hcv h ad L hN ad L := by rw [eh]; exact LR.of xl
  have kp1 : kpF ad L ad L := ⟨fun _ _ => ⟨rfl, rfl⟩, rfl⟩
  have M1 := lw_mid hM q1 kp1
  refine lv_aload_n hx hb d_law9_523 rfl (lv_at hl 2 rfl) ?_
  refine lv_aload_n hx hb d_law9_524 rfl (lv_at hl 0 rfl) ?_
  refine lv_iload_n hx hb d_law9_525 rfl (lv_at hl 3 rfl) ?_
  refine lv_iconst (v := 1) hx hb d_law9_526 (by decide) ?_
  refine lv_iadd hx hb d_law9_527 ?_
  refine mv_iald C X (q1.1.old hsc) 0 rfl (i0 + 1) (nI_add i0 1) (by omega) (by omega) d_law9_528 ?_
  refine lv_aload_n hx hb d_law9_529 rfl (lv_at hl 0 rfl) ?_
  refine lv_iload_n hx hb d_law9_530 rfl (lv_at hl 3 rfl) ?_
  refine lv_iconst (v := 2) hx hb d_law9_531 (by decide) ?_
  refine lv_iadd hx hb d_law9_532 ?_
  refine mv_iald C X (q1.1.old hsc) 0 rfl (i0 + 2) (nI_add i0 2) (by omega) (by omega) d_law9_533 ?_
  refine mv_bl X (mv_rV (rest := [.long r1]) (As := [.int (xs (i0 + 1)), .int (xs (i0 + 2))]) gt_good C X k_11_70 (cm_MenuScreensModel_sum hE M1 _ _ hme hce (by omega) (by omega)) M1.1 rfl rfl ⟨Nat.le_of_ble_eq_true rfl, Nat.le_of_ble_eq_true rfl⟩ rfl hl.1 rfl (Nat.le_of_ble_eq_true rfl) d_law9_534 ⟨by show (cu + 0) + 0 ≤ 600000; omega, by show (su + 0) + 0 ≤ 7302250; omega⟩) (fun r2 hN H locs hp X => ?_)
  obtain ⟨x', M2, hs1, hs⟩ := hp
  have er := sum_eq hq hs
  have hC2 := hC1.same
  rw [← hs1] at hC2
  obtain ⟨L2, hz⟩ := lw_end hM q1 kp1 M2 hC2
  refine W.lcmp hx hb d_law9_537 ?_
  refine lv_if_eq (tgt := 754) hx hb d_law9_538 (by decide) (fun c3 => ?_) (fun z => absurd ((lg_cmp_eq _ _).mpr er) z)
  exact K _ _ _ _ _ _ _ _ _ _ _ _ _ kp1.2 (congrFun (kp1.1 50 (by decide)).2 0) (I.nx hz (by rw [hs1]; rfl) rfl rfl) X (lv_sub hl [0, 1, 2, 3] rfl)
theorem d_law10_543 : decode code 543 = .ok (.aload_n 1, 1) := by decide +kernel
theorem d_law10_544 : decode code 544 = .ok (.aload_n 0, 1) := by decide +kernel
theorem d_law10_545 : decode code 545 = .ok (.iload_n 3, 1) := by decide +kernel
theorem d_law10_546 : decode code 546 = .ok (.iconst 1, 1) := by decide +kernel
theorem d_law10_547 : decode code 547 = .ok (.iadd, 1) := by decide +kernel
theorem d_law10_548 : decode code 548 = .ok (.iaload, 1) := by decide +kernel
theorem d_law10_549 : decode code 549 = .ok (.i2l, 1) := by decide +kernel
theorem d_law10_550 : decode code 550 = .ok (.bipush 32, 2) := by decide +kernel
theorem d_law10_552 : decode code 552 = .ok (.lshl, 1) := by decide +kernel
theorem d_law10_553 : decode code 553 = .ok (.aload_n 0, 1) := by decide +kernel
theorem d_law10_554 : decode code 554 = .ok (.iload_n 3, 1) := by decide +kernel
theorem d_law10_555 : decode code 555 = .ok (.iconst 2, 1) := by decide +kernel
theorem d_law10_556 : decode code 556 = .ok (.iadd, 1) := by decide +kernel
theorem d_law10_557 : decode code 557 = .ok (.iaload, 1) := by decide +kernel
theorem d_law10_558 : decode code 558 = .ok (.i2l, 1) := by decide +kernel
theorem d_law10_559 : decode code 559 = .ok (.ldc2_w 31, 3) := by decide +kernel
theorem d_law10_562 : decode code 562 = .ok (.land, 1) := by decide +kernel
theorem d_law10_563 : decode code 563 = .ok (.lor, 1) := by decide +kernel
theorem d_law10_564 : decode code 564 = .ok (.invokevirtual 71, 3) := by decide +kernel
theorem d_law10_567 : decode code 567 = .ok (.aload_n 2, 1) := by decide +kernel
theorem d_law10_568 : decode code 568 = .ok (.aload_n 0, 1) := by decide +kernel
theorem d_law10_569 : decode code 569 = .ok (.iload_n 3, 1) := by decide +kernel
theorem d_law10_570 : decode code 570 = .ok (.iconst 1, 1) := by decide +kernel
theorem d_law10_571 : decode code 571 = .ok (.iadd, 1) := by decide +kernel
theorem d_law10_572 : decode code 572 = .ok (.iaload, 1) := by decide +kernel
theorem d_law10_573 : decode code 573 = .ok (.i2l, 1) := by decide +kernel
theorem d_law10_574 : decode code 574 = .ok (.bipush 32, 2) := by decide +kernel
theorem d_law10_576 : decode code 576 = .ok (.lshl, 1) := by decide +kernel
theorem d_law10_577 : decode code 577 = .ok (.aload_n 0, 1) := by decide +kernel
theorem d_law10_578 : decode code 578 = .ok (.iload_n 3, 1) := by decide +kernel
theorem d_law10_579 : decode code 579 = .ok (.iconst 2, 1) := by decide +kernel
theorem d_law10_580 : decode code 580 = .ok (.iadd, 1) := by decide +kernel
theorem d_law10_581 : decode code 581 = .ok (.iaload, 1) := by decide +kernel
theorem d_law10_582 : decode code 582 = .ok (.i2l, 1) := by decide +kernel
theorem d_law10_583 : decode code 583 = .ok (.ldc2_w 31, 3) := by decide +kernel
theorem d_law10_586 : decode code 586 = .ok (.land, 1) := by decide +kernel
theorem d_law10_587 : decode code 587 = .ok (.lor, 1) := by decide +kernel
theorem d_law10_588 : decode code 588 = .ok (.invokevirtual 75, 3) := by decide +kernel
theorem d_law10_591 : decode code 591 = .ok (.if_icmp .eq 163, 3) := by decide +kernel
set_option maxRecDepth 100000 in
set_option maxHeartbeats 4000000 in
theorem lw_speed {p : Program} {l : Launch} {e : Env} {S0 s : State} {m : MethodId} {args : Array Value} {below : List Frame} {meth : Method} {c : Code} {H : Heap} {locs : List Loc} {Q : State → Prop} {ls : Array Slot} {b n : Nat} {D : va_G} {dT : Nat → ClassId} {dE mO : Nat} {hcv h : vH} {xs : Nat → Int32} {ad : Nat → Nat → Nat} {L : vL} {cap : Nat} {x : Nat → Int32} {y : Nat → Int64} {A : Nat → Nat → Int32} {B : Nat → Nat → Int64} {k i0 cu su : Nat} (hE : vEnv S0 b D dT) (hJ : vJ S0 dE mO) (hcE : ∃ fE, hcv dE = some (aR dT 0 fE)) (C : vC p s m args c code 4 "MenuScreensLaw" GT D vcl (vty dT)) (hsc : hcv b = some (.inl (dT 0, n, .inl xs))) (hn9 : n ≤ 2562) (hk9 : k ≤ 511) (hi9 : i0 + 5 ≤ n) (I : lwI S0.heap.size dT dE hcv h ad L cap x y A B k cu su) (X : vO S0 D vcl h s H locs) (hl : lv_has ls 4 [(0, .ref b), (1, .ref (ad 0 0)), (2, .ref (ad 50 0)), (3, .int (nI i0))]) (K : ∀ (h' : vH) (ad' : Nat → Nat → Nat) (L' : vL) (cap' : Nat) (x' : Nat → Int32) (y' : Nat → Int64) (A' : Nat → Nat → Int32) (B' : Nat → Nat → Int64) (cu' su' : Nat) (H' : Heap) (locs' : List Loc) (ls' : Array Slot), ad' 0 0 = ad 0 0 → ad' 50 0 = ad 50 0 → lwI S0.heap.size dT dE hcv h' ad' L' cap' x' y' A' B' (k + 1) cu' su' → vO S0 D vcl h' s H' locs' → lv_has ls' 4 [(0, .ref b), (1, .ref (ad 0 0)), (2, .ref (ad 50 0)), (3, .int (nI i0))] → W p l e room_1 s m args below meth c H' locs' cu' su' Q (F0 m 754 ls' [])) : W p l e room_1 s m args below meth c H locs cu su Q (F0 m 543 ls []) := by
  have hx := C.1.1
  have hb := C.1.2.1
  obtain ⟨xl, hC, hM, ⟨n0, e30, hn4, hnc, hcap, hcu, hsu⟩, me, ce0, hme, hce, hme2, hce2⟩ := id I
  obtain ⟨⟨sp, bl, hTop, -⟩, -⟩ := id hC
  have hTop2 : L 0 0 = some (.inr (3, [.int (x 1), .int (x 2), .ref (ad 1 0), .ref (ad 6 0), .ref (ad 2 0), .ref (ad 8 0), .int (x 45), .int sp, .int (x 46), .int bl, .int (x 55), .long (y 56), .long (y 57)])) := hTop
  have hu1 : cu ≤ 18500 := by omega
  have hu2 : su ≤ 2600000 := by omega
  obtain ⟨-, -, -, ⟨n50, e50, hWr⟩, ⟨nr, e48, hPl⟩, -, -, ⟨nv, ns, np, nc, pf, cb, ce, cs, c0, lh, hnum, ⟨pr, e45, hpr1, hpr2⟩, hRP, hTx, hrn⟩, hkey, hsm⟩ := id hC
  have hns30 := hnum.2.2.2
  refine lv_aload_n hx hb d_law10_543 rfl (lv_at hl 1 rfl) ?_
  refine lv_aload_n hx hb d_law10_544 rfl (lv_at hl 0 rfl) ?_
  refine lv_iload_n hx hb d_law10_545 rfl (lv_at hl 3 rfl) ?_
  refine lv_iconst (v := 1) hx hb d_law10_546 (by decide) ?_
  refine lv_iadd hx hb d_law10_547 ?_
  refine mv_iald C X (xl.old hsc) 0 rfl (i0 + 1) (nI_add i0 1) (by omega) (by omega) d_law10_548 ?_
  refine lv_i2l (v := ((xs (i0 + 1)) : Int32).toInt64) hx hb d_law10_549 rfl ?_
  refine lv_bipush (v := 32) hx hb d_law10_550 (by decide) ?_
  refine lv_lshl (v := ((((xs (i0 + 1)) : Int32).toInt64) <<< ((32 : Int32).toInt64 &&& 63))) hx hb d_law10_552 rfl ?_
  refine lv_aload_n hx hb d_law10_553 rfl (lv_at hl 0 rfl) ?_
  refine lv_iload_n hx hb d_law10_554 rfl (lv_at hl 3 rfl) ?_
  refine lv_iconst (v := 2) hx hb d_law10_555 (by decide) ?_
  refine lv_iadd hx hb d_law10_556 ?_
  refine mv_iald C X (xl.old hsc) 0 rfl (i0 + 2) (nI_add i0 2) (by omega) (by omega) d_law10_557 ?_
  refine lv_i2l (v := ((xs (i0 + 2)) : Int32).toInt64) hx hb d_law10_558 rfl ?_
  refine lv_ldc2 (v := 4294967295) hx hb C.1.2.2.2.1 (C.1.2.2.2.2 _ (gt_6 138 (by decide +kernel) rfl)) d_law10_559 ?_
  refine lv_land hx hb d_law10_562 ?_
  refine lv_lor hx hb d_law10_563 ?_
  refine mv_bi X (mv_rV (rest := []) (As := [.long (((((xs (i0 + 1)) : Int32).toInt64) <<< ((32 : Int32).toInt64 &&& 63)) ||| ((((xs (i0 + 2)) : Int32).toInt64) &&& 4294967295))]) gt_good C X k_11_71 (cm_MenuScreens_speed hE hJ xl hC hcE) (xl.get (i := 0) (j := 0) hTop2) rfl rfl ⟨Nat.le_of_ble_eq_true rfl, Nat.le_of_ble_eq_true rfl⟩ rfl hl.1 rfl (Nat.le_of_ble_eq_true rfl) d_law10_564 ⟨by show cu + 0 ≤ 600000; omega, by show su + 0 ≤ 7302250; omega⟩) (fun r1 hN H locs hp X => ?_)
  obtain ⟨ad1, L1, q1, kp1, hst⟩ := hp
  have M1 := lw_mid hM q1 kp1
  refine lv_aload_n hx hb d_law10_567 rfl (lv_at hl 2 rfl) ?_
  refine lv_aload_n hx hb d_law10_568 rfl (lv_at hl 0 rfl) ?_
  refine lv_iload_n hx hb d_law10_569 rfl (lv_at hl 3 rfl) ?_
  refine lv_iconst (v := 1) hx hb d_law10_570 (by decide) ?_
  refine lv_iadd hx hb d_law10_571 ?_
  refine mv_iald C X (q1.1.old hsc) 0 rfl (i0 + 1) (nI_add i0 1) (by omega) (by omega) d_law10_572 ?_
  refine lv_i2l (v := ((xs (i0 + 1)) : Int32).toInt64) hx hb d_law10_573 rfl ?_
  refine lv_bipush (v := 32) hx hb d_law10_574 (by decide) ?_
  refine lv_lshl (v := ((((xs (i0 + 1)) : Int32).toInt64) <<< ((32 : Int32).toInt64 &&& 63))) hx hb d_law10_576 rfl ?_
  refine lv_aload_n hx hb d_law10_577 rfl (lv_at hl 0 rfl) ?_
  refine lv_iload_n hx hb d_law10_578 rfl (lv_at hl 3 rfl) ?_
  refine lv_iconst (v := 2) hx hb d_law10_579 (by decide) ?_
  refine lv_iadd hx hb d_law10_580 ?_
  refine mv_iald C X (q1.1.old hsc) 0 rfl (i0 + 2) (nI_add i0 2) (by omega) (by omega) d_law10_581 ?_
  refine lv_i2l (v := ((xs (i0 + 2)) : Int32).toInt64) hx hb d_law10_582 rfl ?_
  refine lv_ldc2 (v := 4294967295) hx hb C.1.2.2.2.1 (C.1.2.2.2.2 _ (gt_6 138 (by decide +kernel) rfl)) d_law10_583 ?_
  refine lv_land hx hb d_law10_586 ?_
  refine lv_lor hx hb d_law10_587 ?_
  refine mv_bi X (mv_rV (rest := [.int r1]) (As := [.long (((((xs (i0 + 1)) : Int32).toInt64) <<< ((32 : Int32).toInt64 &&& 63)) ||| ((((xs (i0 + 2)) : Int32).toInt64) &&& 4294967295))]) gt_good C X k_11_75 (cm_MenuScreensModel_speed hE M1 _ e45 (by omega)) M1.1 rfl rfl ⟨Nat.le_of_ble_eq_true rfl, Nat.le_of_ble_eq_true rfl⟩ rfl hl.1 rfl (Nat.le_of_ble_eq_true rfl) d_law10_588 ⟨by show (cu + 0) + 0 ≤ 600000; omega, by show (su + 0) + 0 ≤ 7302250; omega⟩) (fun r2 hN H locs hp X => ?_)
  obtain ⟨x', y', A', B', M2, hs1, hs2, hs3, hs⟩ := hp
  obtain ⟨er, hC2⟩ := hst _ x' y' A' B' ⟨hs1, hs2, hs3, pr, e45, by omega, hs⟩
  have ey : ∀ j, j ≠ 47 → y' j = y j := by
    intro j hj
    rcases hs with ⟨_, _, w⟩ | ⟨_, _, _, w⟩
    · rw [w]
    · rw [w]; exact pk_uLn hj
  obtain ⟨L2, hz⟩ := lw_end hM q1 kp1 M2 hC2
  refine lv_icmp_eq (tgt := 754) hx hb d_law10_591 (by decide) (fun c3 => ?_) (fun z => absurd er z)
  exact K _ _ _ _ _ _ _ _ _ _ _ _ _ kp1.2 (congrFun (kp1.1 50 (by decide)).2 0) (I.nx hz (by rw [hs1]; rfl) (ey 56 (by decide)) (ey 57 (by decide))) X (lv_sub hl [0, 1, 2, 3] rfl)
