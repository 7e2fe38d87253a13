theorem anyK_t {g : Nat → Bool} {k : Nat} (h1 : 1 ≤ k) : ∀ {n : Nat}, k ≤ n → g k = true → anyK g n = true := by
  intro n
  induction n with
  | zero => intro h; omega
  | succ n ih =>
    intro h hg
    rw [anyK]
    by_cases w : k = n + 1
    · rw [← w, hg, Bool.or_true]
    · rw [ih (by omega) hg, Bool.true_or]
