/-! small numbers -/
theorem ix_lt {i : Int32} {n : Nat} (h0 : ¬ i < 0) (h1 : i < nI n) (hn : n < 2 ^ 31) : ∃ j : Nat, j < n ∧ i = nI j := by
  rcases pk_ix i hn with h | h | h
  · exact absurd h h0
  · exact absurd h1 (Int32.not_lt.mpr h)
  · exact h
theorem ix_le1 {i : Int32} {n : Nat} (h0 : ¬ i < 1) (h1 : i ≤ nI n) (hn : n < 2 ^ 30) : ∃ j : Nat, 1 ≤ j ∧ j ≤ n ∧ i = nI j := by
  have h1' := Int32.le_iff_toInt_le.mp h1
  have h0' : ¬ i.toInt < 1 := fun q => h0 (Int32.lt_iff_toInt_lt.mpr q)
  rw [nI_toInt (by omega)] at h1'
  rcases pk_ix i (n := n + 1) (by omega) with h | h | ⟨j, hj, e⟩
  · have := Int32.lt_iff_toInt_lt.mp h
    rw [Int32.toInt_zero] at this
    omega
  · have := Int32.le_iff_toInt_le.mp h
    rw [nI_toInt (by omega)] at this
    omega
  · refine ⟨j, ?_, by omega, e⟩
    rw [e, nI_toInt (by omega)] at h0'
    omega
theorem nI_eqI {a b : Nat} (ha : a < 2 ^ 31) (hb : b < 2 ^ 31) (h : nI a = nI b) : a = b := (nI_eq ha hb).mp h
theorem nI_neI {a b : Nat} (ha : a < 2 ^ 31) (hb : b < 2 ^ 31) (h : ¬ nI a = nI b) : a ≠ b := fun q => h (by rw [q])
