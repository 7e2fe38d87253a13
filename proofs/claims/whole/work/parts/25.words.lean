/-! WORDS: f the letters -/
def bI (b : Bool) : Int32 := if b then 1 else 0
theorem bI_t : bI true = 1 := rfl
theorem bI_f : bI false = 0 := rfl
theorem bI_0 {b : Bool} (h : bI b = 0) : b = false := by cases b; rfl; exact absurd h (by decide)
theorem bI_n {b : Bool} (h : ¬ bI b = 0) : b = true := by cases b; exact absurd rfl h; rfl
theorem bI_nar (b : Bool) : narrow .boolean (.int (bI b)) = .int (bI b) := by cases b <;> rfl
/-- n letters from F on are a to z -/
def nmB (f : Nat → Int32) (F : Nat) : Nat → Bool
  | 0 => true
  | n + 1 => nmB f F n && (decide (97 ≤ f (F + n)) && decide (f (F + n) ≤ 122))
/-- a NAME -/
def isNm (f : Nat → Int32) (F T : Nat) : Bool := (decide (0 < T - F) && decide (T - F ≤ 8)) && nmB f F (T - F)
/-- n letters from a on and from c on are the same -/
def smB (f : Nat → Int32) (a c : Nat) : Nat → Bool
  | 0 => true
  | n + 1 => smB f a c n && decide (f (a + n) = f (c + n))
def smW (f : Nat → Int32) (a b c d : Nat) : Bool := decide (b - a = d - c) && smB f a c (b - a)
/-- n digits from a on -/
def dgB (f : Nat → Int32) (a : Nat) : Nat → Bool
  | 0 => true
  | n + 1 => dgB f a n && (decide (48 ≤ f (a + n)) && decide (f (a + n) ≤ 57))
/-- their number, as the sum goes -/
def dvL (f : Nat → Int32) (a : Nat) : Nat → Int64
  | 0 => 0
  | n + 1 => dvL f a n * 10 + (f (a + n)).toInt64 - 48
/-- where the digits begin -/
def dg1 (f : Nat → Int32) (F : Nat) : Nat := if f F = 45 then F + 1 else F
/-- a NUMBER -/
def isNu (f : Nat → Int32) (F T : Nat) : Bool := (decide (dg1 f F < T) && decide (T - dg1 f F < 7)) && dgB f (dg1 f F) (T - dg1 f F)
def nuV (f : Nat → Int32) (F T : Nat) : Int64 := if f F = 45 then - dvL f (F + 1) (T - (F + 1)) else dvL f F (T - F)
/-- next word from i on, before the end e -/
def nF (f : Nat → Int32) (e i : Nat) : Nat := skp f (e - i) i
def nT (f : Nat → Int32) (e i : Nat) : Nat := wnd f (e - nF f e i) (nF f e i)
theorem nF_in (f : Nat → Int32) {e i : Nat} (h : i ≤ e) : i ≤ nF f e i ∧ nF f e i ≤ e := ⟨(skp_in f e _ i rfl h).1, (skp_in f e _ i rfl h).2.1⟩
theorem nT_in (f : Nat → Int32) {e i : Nat} (h : i ≤ e) : nF f e i ≤ nT f e i ∧ nT f e i ≤ e := ⟨(wnd_in f e _ _ rfl (nF_in f h).2).1, (wnd_in f e _ _ rfl (nF_in f h).2).2.1⟩
theorem nmB_s {f : Nat → Int32} {F k : Nat} (h : F ≤ k) : nmB f F (k + 1 - F) = (nmB f F (k - F) && (decide (97 ≤ f k) && decide (f k ≤ 122))) := by
  rw [show k + 1 - F = (k - F) + 1 by omega, nmB, show F + (k - F) = k by omega]
theorem dgB_s {f : Nat → Int32} {F k : Nat} (h : F ≤ k) : dgB f F (k + 1 - F) = (dgB f F (k - F) && (decide (48 ≤ f k) && decide (f k ≤ 57))) := by
  rw [show k + 1 - F = (k - F) + 1 by omega, dgB, show F + (k - F) = k by omega]
theorem dvL_s {f : Nat → Int32} {F k : Nat} (h : F ≤ k) : dvL f F (k + 1 - F) = dvL f F (k - F) * 10 + (f k).toInt64 - 48 := by
  rw [show k + 1 - F = (k - F) + 1 by omega, dvL, show F + (k - F) = k by omega]
theorem dgB_mono {f : Nat → Int32} {F : Nat} : ∀ {n m : Nat}, n ≤ m → dgB f F n = false → dgB f F m = false := by
  intro n m h
  induction m with
  | zero => intro h1; rw [show n = 0 by omega] at h1; exact h1
  | succ m ih =>
    intro h1
    rcases Nat.eq_or_lt_of_le h with q | q
    · rw [← q]; exact h1
    · rw [dgB, ih (by omega) h1]; rfl
theorem smB_mono {f : Nat → Int32} {a c : Nat} : ∀ {n m : Nat}, n ≤ m → smB f a c n = false → smB f a c m = false := by
  intro n m h
  induction m with
  | zero => intro h1; rw [show n = 0 by omega] at h1; exact h1
  | succ m ih =>
    intro h1
    rcases Nat.eq_or_lt_of_le h with q | q
    · rw [← q]; exact h1
    · rw [smB, ih (by omega) h1]; rfl
/-- differences of small numbers -/
theorem nI_sub {a b : Nat} (h : b ≤ a) : nI a - nI b = nI (a - b) := pk_sub h
