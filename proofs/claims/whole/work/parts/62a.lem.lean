theorem nI_mul (a b : Nat) : nI a * nI b = nI (a * b) := (Int32.ofNat_mul a b).symm
theorem nmB_f {f : Nat → Int32} {F n k : Nat} (hk : k < n) (h : ¬ (97 ≤ f (F + k) ∧ f (F + k) ≤ 122)) : nmB f F n = false := by
  cases w : nmB f F n with
  | false => rfl
  | true => exact absurd (nmB_at n w k hk) h
theorem dgB_f {f : Nat → Int32} {F n k : Nat} (hk : k < n) (h : ¬ (48 ≤ f (F + k) ∧ f (F + k) ≤ 57)) : dgB f F n = false := by
  cases w : dgB f F n with
  | false => rfl
  | true =>
    obtain ⟨c, c1, c2, e⟩ := dgB_at n w k hk
    exact absurd (by rw [e]; exact ⟨nI_le (a := 48) c1 (by omega), nI_le (b := 57) c2 (by decide)⟩) h
theorem fitB_tx {g f : Nat → Int32} {n : Nat} (h : ∀ k, k < n → g k = f k ∧ ∃ c, 0 < c ∧ c < 128 ∧ f k = nI c) : fitB g n := fun i hi => by
  obtain ⟨h1, c, -, c2, e⟩ := h i hi
  rw [h1, e]; exact bt_f c2
theorem vcan {h : vH} {s e a : Nat} {x x' y y' w w' : va_E} (n1 : s ≠ e) (n2 : s ≠ a) (n3 : e ≠ a) : vup (vup (vup (vup (vup (vup h s x) e y) a w) s x') e y') a w' = vup (vup (vup h s x') e y') a w' := funext (fun b => by
  by_cases q1 : b = a
  · rw [q1, vup_s, vup_s]
  · rw [vup_n _ _ q1, vup_n _ _ q1]
    by_cases q2 : b = e
    · rw [q2, vup_s, vup_s]
    · rw [vup_n _ _ q2, vup_n _ _ q2]
      by_cases q3 : b = s
      · rw [q3, vup_s, vup_s]
      · rw [vup_n _ _ q3, vup_n _ _ q3, vup_n _ _ q1, vup_n _ _ q2, vup_n _ _ q3])
