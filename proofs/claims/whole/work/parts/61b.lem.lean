theorem fnd_s1 {g : Nat → Bool} {n k : Nat} (h : k < n) (hg : g (k + 1) = false) : fnd g (n - k) (k + 1) = fnd g (n - (k + 1)) (k + 1 + 1) := by
  rw [show n - k = (n - (k + 1)) + 1 by omega, fnd, if_neg (by rw [hg]; decide)]
theorem fnd_f1 {g : Nat → Bool} {n k : Nat} (h : k < n) (hg : g (k + 1) = true) : fnd g (n - k) (k + 1) = k + 1 := by
  rw [show n - k = (n - (k + 1)) + 1 by omega, fnd, if_pos hg]
