/-- the first k signs of t over f -/
def cpf (t f : Nat → Int32) : Nat → (Nat → Int32)
  | 0 => f
  | k + 1 => upd (cpf t f k) k (t k)
/-- the arrays as read begins, its text copied -/
abbrev rdA (A : Nat → Nat → Int32) (n : Nat) : Nat → Nat → Int32 := va_up A 6 (cpf (A 4) (A 6) n)
abbrev rdR (A : Nat → Nat → Int32) (B : Nat → Nat → Int64) (n : Nat) : Nat × Option PS := pAll (rdA A n 6) n (n + 1) 0 0 (0, 0, 0, 0, rdA A n, B)
