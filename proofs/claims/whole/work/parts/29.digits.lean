/-! DIGITS of a value of at most six -/
def smL (z : Int64) : Prop := -999999 ≤ z.toInt ∧ z.toInt ≤ 999999
def dgc (m : Nat) : Nat := if m < 10 then 1 else if m < 100 then 2 else if m < 1000 then 3 else if m < 10000 then 4 else if m < 100000 then 5 else 6
def isD (m d : Nat) : Prop := 1 ≤ d ∧ d ≤ 6 ∧ m < 10 ^ d ∧ (d = 1 ∨ 10 ^ d ≤ 10 * m)
theorem isD_dgc {m d : Nat} (h : isD m d) : d = dgc m := by
  obtain ⟨h1, h2, h3, h4⟩ := h
  unfold dgc
  rcases (show d = 1 ∨ d = 2 ∨ d = 3 ∨ d = 4 ∨ d = 5 ∨ d = 6 by omega) with rfl | rfl | rfl | rfl | rfl | rfl
  · rw [if_pos (by omega)]
  · have : ¬ m < 10 := by omega
    rw [if_neg this, if_pos (by omega)]
  · rw [if_neg (by omega), if_neg (by omega), if_pos (by omega)]
  · rw [if_neg (by omega), if_neg (by omega), if_neg (by omega), if_pos (by omega)]
  · rw [if_neg (by omega), if_neg (by omega), if_neg (by omega), if_neg (by omega), if_pos (by omega)]
  · rw [if_neg (by omega), if_neg (by omega), if_neg (by omega), if_neg (by omega), if_neg (by omega)]
/-- the sign at place k of n, of a value -/
def dgF (valid : Int32) (now : Int64) (n k : Nat) : Int32 := if valid = 0 then 45 else if n < (if now < 0 then dgc now.toInt.natAbs + 1 else dgc now.toInt.natAbs) then 35 else if dgc now.toInt.natAbs ≤ n - 1 - k then (if n - 1 - k = dgc now.toInt.natAbs ∧ now < 0 then 45 else 32) else nI (48 + now.toInt.natAbs / 10 ^ (n - 1 - k) % 10)
theorem negL {z : Int64} {m : Nat} (h : z.toInt = -(m : Int)) (hm : m < 2 ^ 62) : -z = lN m := by
  apply Int64.toInt_inj.mp
  rw [Int64.toInt_neg, h, pk_lT (by omega), Int.neg_neg]
  exact Int.bmod_eq_of_le (by omega) (by omega)
theorem posL {z : Int64} {m : Nat} (h : z.toInt = (m : Int)) (hm : m < 2 ^ 62) : z = lN m := by
  apply Int64.toInt_inj.mp
  rw [h, pk_lT (by omega)]
theorem lt0L {z : Int64} : z < 0 ↔ z.toInt < 0 := by
  rw [Int64.lt_iff_toInt_lt, Int64.toInt_zero]
theorem absN {z : Int64} (h : z < 0) (hs : smL z) : -z = lN z.toInt.natAbs := negL (by have := lt0L.mp h; omega) (by have := hs.1; have := lt0L.mp h; omega)
theorem absP {z : Int64} (h : ¬ z < 0) (hs : smL z) : z = lN z.toInt.natAbs := by
  have h9 : ¬ z.toInt < 0 := fun q => h (lt0L.mpr q)
  obtain ⟨s1, s2⟩ := hs
  exact posL (by omega) (by omega)
theorem abs6 {z : Int64} (hs : smL z) : z.toInt.natAbs ≤ 999999 := by obtain ⟨h1, h2⟩ := hs; omega
theorem p10_6 {d : Nat} (h : d ≤ 6) : 10 ^ d ≤ 1000000 := Nat.pow_le_pow_right (n := 10) (by decide) h
