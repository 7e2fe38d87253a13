/-- a warning less -/
theorem W_del {dT : Nat → ClassId} {n no pl : Nat} {ad : Nat → Nat → Nat} {L' : vL} {fr fo f2 rk ac : Nat → Int32} {tm ft : Nat → Int64} {op : Nat → Nat} {la : Int64} (hn : n ≤ 200) (hpl : pl < no) (hwk : ∀ k, 1 ≤ k → k ≤ n → fr (k - 1) = rk k ∧ ft (k - 1) = tm k ∧ 0 ≤ (rk k).toInt ∧ (rk k).toInt ≤ 99 ∧ tm k ≤ la) (hwo : ∀ j, j < no → fo j = nI (op j)) (hop : wOp n rk ac op no) (hac : ∀ k, n < k → ac k = 0) (hmo : ∀ i j, 1 ≤ i → i ≤ j → j ≤ n → tm i ≤ tm j) (hnon : no ≤ n) (hla : 0 ≤ la.toInt) (i1 : ∀ j, pl ≤ j → j < no - 1 → f2 j = fo (j + 1)) (i2 : ∀ j, j < pl → f2 j = fo j)
    (l0 : L' 8 0 = some (.inr (7, [.ref (ad 8 1), .ref (ad 8 2), .ref (ad 8 3), .int (nI n), .int (nI (no - 1)), .long la]))) (l1 : L' 8 1 = some (aI dT 200 fr)) (l2 : L' 8 2 = some (aL dT 200 ft)) (l3 : L' 8 3 = some (aI dT 200 f2)) : cWrn dT ad L' n la rk (upd ac (op pl) 1) tm := by
  have h1 := hop.1 pl hpl
  refine ⟨no - 1, delL op pl, fr, ft, f2, l0, l1, l2, l3, hwk, fun j hj => ?_, wOp_del hop hpl, fun k hk => by rw [pk_un (by omega)]; exact hac k hk, hmo, hn, by omega, hla⟩
  unfold delL
  by_cases w : j < pl
  · rw [if_pos w, i2 j w, hwo j (by omega)]
  · rw [if_neg w, i1 j (by omega) hj, hwo (j + 1) (by omega)]
