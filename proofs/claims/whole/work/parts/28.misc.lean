/-- all c below n have g -/
def allB (g : Nat → Bool) : Nat → Bool
  | 0 => true
  | n + 1 => allB g n && g n
/-- the k-th byte, from the highest on -/
def byt (c : Int32) (k : Nat) : Int32 := (c >>> ((24 - 8 * nI k) &&& 31)) &&& 255
/-- a text of n0 signs t0, behind k bytes -/
def sgN (c : Int32) (n0 : Nat) (t0 : Nat → Int32) : Nat → Nat × (Nat → Int32)
  | 0 => (n0, t0)
  | k + 1 => if byt c k = 0 ∨ 127 < byt c k ∨ (sgN c n0 t0 k).1 = 4000 then sgN c n0 t0 k else ((sgN c n0 t0 k).1 + 1, upd (sgN c n0 t0 k).2 (sgN c n0 t0 k).1 (byt c k))
/-- the condition c holds -/
def cnB (A : Nat → Nat → Int32) (B : Nat → Nat → Int64) (c : Nat) : Bool := decide (¬ A 19 (A 42 c).toNatClampNeg = 0) && (if A 43 c = 61 then decide (B 18 (A 42 c).toNatClampNeg = B 44 c) else if A 43 c = 60 then decide (B 18 (A 42 c).toNatClampNeg < B 44 c) else decide (B 44 c < B 18 (A 42 c).toNatClampNeg))
/-- words as numbers -/
def wv (f : Nat → Int32) (F : Nat) : Nat → Int64
  | 0 => 0
  | n + 1 => wv f F n * 128 + (f (F + n)).toInt64
theorem wv_s {f : Nat → Int32} {F k : Nat} (h : F ≤ k) : wv f F (k + 1 - F) = wv f F (k - F) * 128 + (f k).toInt64 := by
  rw [show k + 1 - F = (k - F) + 1 by omega, wv, show F + (k - F) = k by omega]
def tl (q : Nat → Int32) : Nat → Int64
  | 0 => 0
  | n + 1 => if q n = 0 then tl q n else tl q n * 128 + (q n).toInt64
theorem gcd_st (p q : Nat) : Nat.gcd q (p % q) = Nat.gcd p q := by
  rw [Nat.gcd_comm q (p % q), ← Nat.gcd_rec, Nat.gcd_comm]
theorem va_up_id {α : Type} (f : Nat → α) (k : Nat) : va_up f k (f k) = f := funext (fun j => by
  by_cases h : j = k
  · rw [h, va_up_self]
  · rw [va_up_ne _ _ h])
theorem va_up_comm {α : Type} (f : Nat → α) {j k : Nat} (v w : α) (h : j ≠ k) : va_up (va_up f j v) k w = va_up (va_up f k w) j v := funext (fun i => by
  by_cases h1 : i = j
  · subst h1; rw [va_up_ne _ _ h, va_up_self, va_up_self]
  · by_cases h2 : i = k
    · subst h2; rw [va_up_self, va_up_ne _ _ h1, va_up_self]
    · rw [va_up_ne _ _ h2, va_up_ne _ _ h1, va_up_ne _ _ h1, va_up_ne _ _ h2])
