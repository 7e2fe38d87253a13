theorem anyK_ext {g g' : Nat → Bool} : ∀ n, (∀ k, 1 ≤ k → k ≤ n → g k = g' k) → anyK g n = anyK g' n := by
  intro n
  induction n with
  | zero => intro _; rfl
  | succ n ih => intro h; rw [anyK, anyK, ih (fun k a b => h k a (by omega)), h (n + 1) (by omega) (Nat.le_refl _)]
/-- a key to nowhere, as the class finds it -/
theorem bdS_c {A : Nat → Nat → Int32} {nv ns s : Nat} {hb : Nat → Bool} {gn : Nat → Int64} {g : Nat → Int32} (gN0 : gN A nv ns) (hns : ns ≤ 30) (hs : s < ns) (h1 : ∀ k, 1 ≤ k → k ≤ 9 → gn k = kyV A (10 * (s + 1) + k)) (h2 : ∀ k, 1 ≤ k → k ≤ 9 → g k = nI (ldS A ns (10 * (s + 1) + k))) : bdS A ns hb (s + 1) = (!hb (s + 1) || anyK (fun k => decide (¬ gn k = 0) && decide (g k = 0)) 9) := by
  unfold bdS
  congr 1
  refine anyK_ext 9 (fun k a b => ?_)
  have e1 := kyV_0 (q := 10 * (s + 1) + k) gN0 (by omega) (by omega)
  have e2 := a27_le (q := 10 * (s + 1) + k) gN0 (by omega) (by omega)
  have e3 := ldS_le A ns (10 * (s + 1) + k)
  show (decide (0 < A 27 (10 * (s + 1) + k)) && decide (ldS A ns (10 * (s + 1) + k) = 0)) = (decide (¬ gn k = 0) && decide (g k = 0))
  rw [h1 k a b, h2 k a b]
  congr 1
  · apply decide_eq_decide.mpr
    rw [e1, ← e2]; exact Int32.not_le.symm
  · apply decide_eq_decide.mpr
    constructor
    · intro z; rw [z]; rfl
    · intro z; exact nI_eqI (b := 0) (by omega) (by decide) z
