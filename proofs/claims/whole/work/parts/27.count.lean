/-- how many j below n have g -/
def cnt (g : Nat → Bool) : Nat → Nat
  | 0 => 0
  | n + 1 => if g n = true then cnt g n + 1 else cnt g n
theorem cnt_t {g : Nat → Bool} {n : Nat} (h : g n = true) : cnt g (n + 1) = cnt g n + 1 := by rw [cnt, if_pos h]
theorem cnt_f {g : Nat → Bool} {n : Nat} (h : g n = false) : cnt g (n + 1) = cnt g n := by rw [cnt, if_neg (by rw [h]; decide)]
theorem cnt_le (g : Nat → Bool) : ∀ n, cnt g n ≤ n := by
  intro n
  induction n with
  | zero => exact Nat.le_refl _
  | succ n ih => rw [cnt]; split <;> omega
/-- k stands before w -/
def fstB (rk : Nat → Int32) (tm : Nat → Int64) (w : Nat) (own : Int32) (k : Nat) : Bool := if rk w < rk k then decide (own = 0) else decide (rk k = rk w) && (decide (tm k < tm w) || (decide (tm k = tm w) && decide (k < w)))
def befN (rk : Nat → Int32) (tm : Nat → Int64) (ac : Nat → Int32) (n w : Nat) (own : Int32) : Nat := cnt (fun j => fstB rk tm w own (j + 1) && decide (ac (j + 1) = 0)) n
/-- the screen that a key's place leads to -/
def ldS (A : Nat → Nat → Int32) (n q : Nat) : Nat := if A 27 q = 0 then 0 else fnd (fun v => smW (A 6) (A 21 v).toNatClampNeg (A 22 v).toNatClampNeg (A 26 q).toNatClampNeg (A 27 q).toNatClampNeg) n 1
theorem ldS_le (A : Nat → Nat → Int32) (n q : Nat) : ldS A n q ≤ n := by
  unfold ldS
  split
  · exact Nat.zero_le _
  · rcases fnd_in (fun v => smW (A 6) (A 21 v).toNatClampNeg (A 22 v).toNatClampNeg (A 26 q).toNatClampNeg (A 27 q).toNatClampNeg) n 1 with h | ⟨h1, h2, -⟩
    · rw [h]; exact Nat.zero_le _
    · omega
theorem lN_0 : lN 0 = 0 := rfl
