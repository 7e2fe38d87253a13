/-! THE END: which screens lead home; L s k: the screen behind key k of screen s -/
def hK (L : Nat → Nat → Nat) (s : Nat) : Nat → Nat → (Nat → Bool) → (Nat → Bool)
  | 0, _, h => h
  | m + 1, k, h => hK L s m (k + 1) (va_up h s (h s || (decide (0 < L s k) && h (L s k))))
def hS (L : Nat → Nat → Nat) : Nat → Nat → (Nat → Bool) → (Nat → Bool)
  | 0, _, h => h
  | m + 1, s, h => hS L m (s + 1) (hK L s 9 1 h)
def hIt (L : Nat → Nat → Nat) (ns : Nat) : Nat → (Nat → Bool) → (Nat → Bool)
  | 0, h => h
  | m + 1, h => hIt L ns m (hS L ns 1 h)
def hEnd (L : Nat → Nat → Nat) (ns : Nat) : Nat → Bool := hIt L ns ns (fun s => decide (s = 1))
theorem hK_s {L : Nat → Nat → Nat} {s k : Nat} {h : Nat → Bool} (hk : k < 10) : hK L s (10 - k) k h = hK L s (10 - (k + 1)) (k + 1) (va_up h s (h s || (decide (0 < L s k) && h (L s k)))) := by
  rw [show 10 - k = (10 - (k + 1)) + 1 by omega, hK]
theorem hS_s {L : Nat → Nat → Nat} {n s : Nat} {h : Nat → Bool} (hs : s < n) : hS L (n - s) s h = hS L (n - (s + 1)) (s + 1) (hK L s 9 1 h) := by
  rw [show n - s = (n - (s + 1)) + 1 by omega, hS]
theorem hIt_s {L : Nat → Nat → Nat} {n t : Nat} {h : Nat → Bool} (ht : t < n) : hIt L n (n - t) h = hIt L n (n - (t + 1)) (hS L n 1 h) := by
  rw [show n - t = (n - (t + 1)) + 1 by omega, hIt]
/-- any of the first n keys -/
def anyK (g : Nat → Bool) : Nat → Bool
  | 0 => false
  | n + 1 => anyK g n || g (n + 1)
def rg (hb : Nat → Bool) (f : Nat → Int32) : Nat → (Nat → Int32)
  | 0 => f
  | s + 1 => if hb (s + 1) = true then rg hb f s else upd (rg hb f s) (cnt (fun j => !hb (j + 1)) s) (nI (s + 1))
def bdS (A : Nat → Nat → Int32) (ns : Nat) (hb : Nat → Bool) (s : Nat) : Bool := !hb s || anyK (fun k => decide (0 < A 27 (10 * s + k)) && decide (ldS A ns (10 * s + k) = 0)) 9
def ffS (A : Nat → Nat → Int32) (ns : Nat) (hb : Nat → Bool) : Nat → Int32
  | 0 => 0
  | s + 1 => if bdS A ns hb (s + 1) = true ∧ ffS A ns hb s = 0 then A 23 (s + 1) else ffS A ns hb s
