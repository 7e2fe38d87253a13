theorem vfx.new1 {h h' : vH} {a : Nat} {e : va_E} (p : vfx (fun _ => False) h h') (ha : h' a = none) : vfx (fun _ => False) h (vup h' a e) := p.new (p.non ha)
/-- equal letters -/
def eqB (f : Nat → Int32) (n : Nat) (g : Nat → Int32) (m : Nat) : Bool := decide (n = m) && allB (fun k => decide (f k = g k)) n
theorem allB_f {g : Nat → Bool} {k : Nat} : ∀ n, k < n → g k = false → allB g n = false := by
  intro n
  induction n with
  | zero => intro h; exact absurd h (Nat.not_lt_zero _)
  | succ n ih =>
    intro h hg
    rw [allB]
    rcases Nat.eq_or_lt_of_le (Nat.le_of_lt_succ h) with q | q
    · rw [← q, hg, Bool.and_false]
    · rw [ih q hg, Bool.false_and]
theorem allB_t {g : Nat → Bool} : ∀ n, (∀ k, k < n → g k = true) → allB g n = true := by
  intro n
  induction n with
  | zero => intro _; rfl
  | succ n ih => intro h; rw [allB, ih (fun k hk => h k (by omega)), h n (by omega)]; rfl
theorem allB_at {g : Nat → Bool} {n k : Nat} (h : allB g n = true) (hk : k < n) : g k = true := by
  cases q : g k with
  | true => rfl
  | false => rw [allB_f n hk q] at h; cases h
theorem eqB_rf (f : Nat → Int32) (n : Nat) : eqB f n f n = true := by
  unfold eqB
  rw [decide_eq_true rfl, allB_t n (fun k _ => decide_eq_true rfl)]; rfl
def fitB (f : Nat → Int32) (n : Nat) : Prop := ∀ i, i < n → fits .byte (.int (f i)) = true
