/-- the first v from v on, of n of them, for which g holds; 0 if none -/
def fnd (g : Nat → Bool) : Nat → Nat → Nat
  | 0, _ => 0
  | n + 1, v => if g v = true then v else fnd g n (v + 1)
theorem fnd_s {g : Nat → Bool} {n k : Nat} (h : k < n) (hg : g k = false) : fnd g (n - k) k = fnd g (n - (k + 1)) (k + 1) := by
  rw [show n - k = (n - (k + 1)) + 1 by omega, fnd, if_neg (by rw [hg]; decide)]
theorem fnd_f {g : Nat → Bool} {n k : Nat} (h : k < n) (hg : g k = true) : fnd g (n - k) k = k := by
  rw [show n - k = (n - (k + 1)) + 1 by omega, fnd, if_pos hg]
theorem fnd_in (g : Nat → Bool) : ∀ n k, fnd g n k = 0 ∨ (k ≤ fnd g n k ∧ fnd g n k < k + n ∧ g (fnd g n k) = true ∧ ∀ j, k ≤ j → j < fnd g n k → g j = false) := by
  intro n
  induction n with
  | zero => intro k; exact Or.inl rfl
  | succ n ih =>
    intro k
    rw [fnd]
    split
    · next h => exact Or.inr ⟨Nat.le_refl _, by omega, h, fun j h1 h2 => by omega⟩
    · next h =>
      rcases ih (k + 1) with q | ⟨q1, q2, q3, q4⟩
      · exact Or.inl q
      · refine Or.inr ⟨by omega, by omega, q3, fun j h1 h2 => ?_⟩
        rcases Nat.eq_or_lt_of_le h1 with z | z
        · rw [← z]; simpa using h
        · exact q4 j z h2
