/-! THE END as the class finds it -/
def kyB (L : Nat → Nat → Nat) (h : Nat → Bool) (s k : Nat) : Bool := decide (0 < L s k) && h (L s k)
theorem va_up_u {α : Type} (f : Nat → α) (k : Nat) (v w : α) : va_up (va_up f k v) k w = va_up f k w := funext (fun j => by
  by_cases q : j = k
  · rw [q, va_up_self, va_up_self]
  · rw [va_up_ne _ _ q, va_up_ne _ _ q, va_up_ne _ _ q])
theorem va_up_same {α : Type} {f : Nat → α} {k : Nat} {v : α} (h : f k = v) : va_up f k v = f := funext (fun j => by
  by_cases q : j = k
  · rw [q, va_up_self, h]
  · rw [va_up_ne _ _ q])
theorem hK_go (L : Nat → Nat → Nat) (s : Nat) (h : Nat → Bool) : ∀ m k, m + k = 10 → 1 ≤ k → hK L s m k (va_up h s (h s || anyK (kyB L h s) (k - 1))) = va_up h s (h s || anyK (kyB L h s) 9) := by
  intro m
  induction m with
  | zero => intro k hk _; rw [hK, show k - 1 = 9 by omega]
  | succ m ih =>
    intro k hk h1
    have e : va_up (va_up h s (h s || anyK (kyB L h s) (k - 1))) s ((va_up h s (h s || anyK (kyB L h s) (k - 1))) s || (decide (0 < L s k) && (va_up h s (h s || anyK (kyB L h s) (k - 1))) (L s k))) = va_up h s (h s || anyK (kyB L h s) (k + 1 - 1)) := by
      rw [va_up_u, va_up_self]
      congr 1
      rw [show k + 1 - 1 = (k - 1) + 1 by omega, anyK, show k - 1 + 1 = k by omega]
      show _ = (h s || (anyK (kyB L h s) (k - 1) || (decide (0 < L s k) && h (L s k))))
      by_cases q : L s k = s
      · rw [q, va_up_self]
        cases h s <;> cases anyK (kyB L h s) (k - 1) <;> cases decide (0 < s) <;> rfl
      · rw [va_up_ne _ _ q, Bool.or_assoc]
    rw [hK, e]
    exact ih (k + 1) (by omega) (by omega)
theorem hK_all (L : Nat → Nat → Nat) (s : Nat) (h : Nat → Bool) : hK L s 9 1 h = va_up h s (h s || anyK (kyB L h s) 9) := by
  have := hK_go L s h 9 1 rfl (Nat.le_refl _)
  rw [show 1 - 1 = 0 from rfl, show anyK (kyB L h s) 0 = false from rfl, Bool.or_false, va_up_same rfl] at this
  exact this
/-- a round of the class over the screens from s on, and t rounds -/
def cS (L : Nat → Nat → Nat) : Nat → Nat → (Nat → Bool) → (Nat → Bool)
  | 0, _, h => h
  | m + 1, s, h => cS L m (s + 1) (va_up h s (decide (s = 1) || (h s || anyK (kyB L h s) 9)))
def cIt (L : Nat → Nat → Nat) (ns : Nat) : Nat → (Nat → Bool) → (Nat → Bool)
  | 0, h => h
  | m + 1, h => cIt L ns m (cS L ns 1 h)
theorem cS_s {L : Nat → Nat → Nat} {n s : Nat} {h : Nat → Bool} (hs : s < n) : cS L (n - s) (s + 1) h = cS L (n - (s + 1)) (s + 1 + 1) (va_up h (s + 1) (decide (s = 0) || (h (s + 1) || anyK (kyB L h (s + 1)) 9))) := by
  rw [show n - s = (n - (s + 1)) + 1 by omega, cS, decide_eq_decide.mpr (show s + 1 = 1 ↔ s = 0 by omega)]
theorem cIt_s {L : Nat → Nat → Nat} {n t : Nat} {h : Nat → Bool} (ht : t < n) : cIt L n (n - t) h = cIt L n (n - (t + 1)) (cS L n 1 h) := by
  rw [show n - t = (n - (t + 1)) + 1 by omega, cIt]
theorem cS_hS (L : Nat → Nat → Nat) : ∀ m s h, 2 ≤ s ∨ h 1 = true → cS L m s h = hS L m s h := by
  intro m
  induction m with
  | zero => intro s h _; rfl
  | succ m ih =>
    intro s h hs
    rw [cS, hS, hK_all]
    have e : va_up h s (decide (s = 1) || (h s || anyK (kyB L h s) 9)) = va_up h s (h s || anyK (kyB L h s) 9) := by
      congr 1
      by_cases q : s = 1
      · rcases hs with z | z
        · omega
        · rw [q, z]; rfl
      · rw [decide_eq_false q, Bool.false_or]
    rw [e]
    refine ih _ _ ?_
    rcases hs with z | z
    · exact Or.inl (by omega)
    · right
      by_cases q : 1 = s
      · rw [← q, va_up_self, z]; rfl
      · rw [va_up_ne _ _ q]; exact z
theorem hS_1 (L : Nat → Nat → Nat) : ∀ m s h, h 1 = true → hS L m s h 1 = true := by
  intro m
  induction m with
  | zero => intro s h z; exact z
  | succ m ih =>
    intro s h z
    rw [hS, hK_all]
    refine ih _ _ ?_
    by_cases q : 1 = s
    · rw [← q, va_up_self, z]; rfl
    · rw [va_up_ne _ _ q]; exact z
theorem cIt_hIt (L : Nat → Nat → Nat) (n : Nat) : ∀ m h, h 1 = true → cIt L n m h = hIt L n m h := by
  intro m
  induction m with
  | zero => intro h _; rfl
  | succ m ih =>
    intro h z
    rw [cIt, hIt, cS_hS L n 1 h (Or.inr z)]
    exact ih _ (hS_1 L n 1 h z)
/-- the rounds of the class end as the reference's -/
theorem cIt_end (L : Nat → Nat → Nat) (n : Nat) (h : Nat → Bool) (h0 : h = fun _ => false) (hn : 0 < n) : cIt L n n h = hEnd L n := by
  obtain ⟨m, rfl⟩ : ∃ m, n = m + 1 := ⟨n - 1, by omega⟩
  rw [hEnd, cIt, hIt]
  have e : cS L (m + 1) 1 h = hS L (m + 1) 1 (fun s => decide (s = 1)) := by
    rw [cS, hS, hK_all, cS_hS _ _ _ _ (Or.inl (Nat.le_refl _))]
    congr 1
    rw [show decide ((1 : Nat) = 1) = true from rfl, Bool.true_or, Bool.true_or, va_up_same (f := fun s => decide (s = 1)) (k := 1) (v := true) rfl, h0]
    funext j
    by_cases q : j = 1
    · rw [q, va_up_self]; rfl
    · rw [va_up_ne _ _ q]; exact (decide_eq_false q).symm
  rw [e]
  exact cIt_hIt _ _ _ _ (hS_1 _ _ _ _ rfl)
/-! THE GREATEST DIVISOR: the class's steps are enough -/
/-- behind t steps -/
def euc : Nat → Nat → Nat → Nat × Nat
  | 0, p, q => (p, q)
  | t + 1, p, q => if q = 0 then (p, q) else euc t q (p % q)
theorem euc_gcd : ∀ t p q, Nat.gcd (euc t p q).1 (euc t p q).2 = Nat.gcd p q := by
  intro t
  induction t with
  | zero => intro p q; rfl
  | succ t ih =>
    intro p q
    rw [euc]
    by_cases z : q = 0
    · rw [if_pos z]
    · rw [if_neg z, ih, gcd_st]
theorem euc_0 : ∀ t p, euc t p 0 = (p, 0) := by
  intro t
  cases t with
  | zero => intro p; rfl
  | succ t => intro p; rw [euc, if_pos rfl]
/-- two steps halve -/
theorem euc_end : ∀ k p q, q < 2 ^ k → (euc (2 * k + 1) p q).2 = 0 := by
  intro k
  induction k with
  | zero =>
    intro p q h
    rw [show q = 0 by omega, euc_0]
  | succ k ih =>
    intro p q h
    rw [show 2 * (k + 1) + 1 = (2 * k + 1) + 1 + 1 by omega, euc]
    by_cases z : q = 0
    · rw [if_pos z]; exact z
    · rw [if_neg z, euc]
      by_cases y : p % q = 0
      · rw [if_pos y]; exact y
      · rw [if_neg y]
        apply ih
        have h1 : p % q < q := Nat.mod_lt _ (by omega)
        have h2 : q % (p % q) < p % q := Nat.mod_lt _ (by omega)
        have h3 : q % (p % q) + p % q ≤ q := by
          have h4 := Nat.div_add_mod q (p % q)
          have h5 : 1 ≤ q / (p % q) := Nat.div_pos (by omega) (by omega)
          have h6 : (p % q) * 1 ≤ (p % q) * (q / (p % q)) := Nat.mul_le_mul_left _ h5
          omega
        have h7 : 2 ^ (k + 1) = 2 * 2 ^ k := by rw [Nat.pow_succ]; omega
        omega
theorem euc_stay : ∀ t p q, (euc t p q).2 = 0 → ∀ u, euc (t + u) p q = euc t p q := by
  intro t
  induction t with
  | zero => intro p q h u; have h : q = 0 := h; rw [h, euc_0]; rfl
  | succ t ih =>
    intro p q h u
    rw [show t + 1 + u = (t + u) + 1 by omega, euc, euc]
    rw [euc] at h
    by_cases z : q = 0
    · rw [if_pos z, if_pos z]
    · rw [if_neg z] at h ⊢
      rw [if_neg z]; exact ih _ _ h u
/-- a hundred steps end with the greatest divisor -/
theorem euc_100 {p q : Nat} (h : q < 2 ^ 49) : euc 100 p q = (Nat.gcd p q, 0) := by
  have h1 := euc_end 49 p q h
  have h2 := euc_stay 99 p q h1 1
  have h3 := euc_gcd 99 p q
  rw [h1, Nat.gcd_zero_right] at h3
  rw [show 100 = 99 + 1 from rfl, h2]
  exact Prod.ext h3 h1
/-- one step more -/
theorem euc_s : ∀ t p q, euc (t + 1) p q = if (euc t p q).2 = 0 then euc t p q else ((euc t p q).2, (euc t p q).1 % (euc t p q).2) := by
  intro t
  induction t with
  | zero =>
    intro p q
    rw [euc]
    rfl
  | succ t ih =>
    intro p q
    rw [euc]
    by_cases z : q = 0
    · rw [if_pos z, euc, if_pos z, if_pos z]
    · rw [if_neg z, ih, euc, if_neg z]
theorem euc_le : ∀ t p q M, p ≤ M → q ≤ M → (euc t p q).1 ≤ M ∧ (euc t p q).2 ≤ M := by
  intro t
  induction t with
  | zero => intro p q M h1 h2; exact ⟨h1, h2⟩
  | succ t ih =>
    intro p q M h1 h2
    rw [euc]
    by_cases z : q = 0
    · rw [if_pos z]; exact ⟨h1, h2⟩
    · rw [if_neg z]; exact ih _ _ _ h2 (Nat.le_trans (Nat.le_of_lt (Nat.mod_lt _ (by omega))) h2)
