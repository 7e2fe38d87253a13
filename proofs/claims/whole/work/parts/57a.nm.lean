/-! NAMES of the class: five bits a letter -/
/-- f's signs below n are letters of ASCII, none of them 0 -/
def txt (f : Nat → Int32) (n : Nat) : Prop := ∀ k, k < n → ∃ c, 0 < c ∧ c < 128 ∧ f k = nI c
/-- n digits of base b, w the digit of a sign -/
def cdN (b : Nat) (w : Nat → Nat) (F : Nat) : Nat → Nat
  | 0 => 0
  | n + 1 => cdN b w F n * b + w (F + n)
theorem cdN_inj {b : Nat} {w w' : Nat → Nat} {F G : Nat} : ∀ (n m : Nat), (∀ k, k < n → 0 < w (F + k) ∧ w (F + k) < b) → (∀ k, k < m → 0 < w' (G + k) ∧ w' (G + k) < b) → cdN b w F n = cdN b w' G m → n = m ∧ ∀ k, k < n → w (F + k) = w' (G + k) := by
  intro n
  induction n with
  | zero =>
    intro m _ hm h
    cases m with
    | zero => exact ⟨rfl, fun k hk => absurd hk (Nat.not_lt_zero _)⟩
    | succ m =>
      rw [cdN, cdN] at h
      have := hm m (Nat.lt_succ_self _)
      omega
  | succ n ih =>
    intro m hn hm h
    cases m with
    | zero =>
      rw [cdN, cdN] at h
      have := hn n (Nat.lt_succ_self _)
      omega
    | succ m =>
      rw [cdN, cdN] at h
      have a1 := hn n (Nat.lt_succ_self _)
      have a2 := hm m (Nat.lt_succ_self _)
      have hb : 0 < b := by omega
      have e1 : w (F + n) = w' (G + m) := by
        have := congrArg (· % b) h
        simp only [Nat.mul_add_mod_self_right, Nat.mod_eq_of_lt a1.2, Nat.mod_eq_of_lt a2.2] at this
        exact this
      have e2 : cdN b w F n = cdN b w' G m := by
        rw [e1] at h
        exact Nat.eq_of_mul_eq_mul_right hb (by omega)
      obtain ⟨e3, e4⟩ := ih m (fun k hk => hn k (by omega)) (fun k hk => hm k (by omega)) e2
      refine ⟨by rw [e3], fun k hk => ?_⟩
      by_cases q : k = n
      · rw [q, e1, e3]
      · exact e4 k (by omega)
theorem cdN_lt {b : Nat} {w : Nat → Nat} {F : Nat} : ∀ n, (∀ k, k < n → w (F + k) < b) → cdN b w F n < b ^ n := by
  intro n
  induction n with
  | zero => intro _; exact Nat.one_pos
  | succ n ih =>
    intro h
    have h1 := ih (fun k hk => h k (by omega))
    have h2 := h n (Nat.lt_succ_self _)
    rw [cdN, Nat.pow_succ]
    have : cdN b w F n * b + b ≤ b ^ n * b := by
      rw [← Nat.succ_mul]; exact Nat.mul_le_mul_right b h1
    omega
theorem cdN_s {b : Nat} {w : Nat → Nat} {F k : Nat} (h : F ≤ k) : cdN b w F (k + 1 - F) = cdN b w F (k - F) * b + w k := by
  rw [show k + 1 - F = (k - F) + 1 by omega, cdN, show F + (k - F) = k by omega]
/-- a letter's number -/
def ltN (f : Nat → Int32) (k : Nat) : Nat := (f k).toNatClampNeg - 96
/-- the number of a NAME -/
def nmN (f : Nat → Int32) (F T : Nat) : Nat := cdN 32 (ltN f) F (T - F)
theorem nmB_at {f : Nat → Int32} {F : Nat} : ∀ n, nmB f F n = true → ∀ k, k < n → 97 ≤ f (F + k) ∧ f (F + k) ≤ 122 := by
  intro n
  induction n with
  | zero => intro _ k hk; exact absurd hk (Nat.not_lt_zero _)
  | succ n ih =>
    intro h k hk
    rw [nmB, Bool.and_eq_true, Bool.and_eq_true] at h
    by_cases q : k = n
    · rw [q]; exact ⟨of_decide_eq_true h.2.1, of_decide_eq_true h.2.2⟩
    · exact ih h.1 k (by omega)
theorem lt_in {x : Int32} (h1 : 97 ≤ x) (h2 : x ≤ 122) : ∃ c, 97 ≤ c ∧ c ≤ 122 ∧ x = nI c := by
  have a1 := Int32.le_iff_toInt_le.mp h1
  have a2 := Int32.le_iff_toInt_le.mp h2
  rw [show (97 : Int32).toInt = 97 from rfl] at a1
  rw [show (122 : Int32).toInt = 122 from rfl] at a2
  refine ⟨x.toInt.toNat, by omega, by omega, Int32.toInt_inj.mp ?_⟩
  rw [nI_toInt (by omega)]; omega
theorem ltN_in {f : Nat → Int32} {k : Nat} (h1 : 97 ≤ f k) (h2 : f k ≤ 122) : 1 ≤ ltN f k ∧ ltN f k ≤ 26 ∧ f k = nI (ltN f k + 96) := by
  obtain ⟨c, c1, c2, e⟩ := lt_in h1 h2
  rw [ltN, e, nI_clamp (by omega)]
  refine ⟨by omega, by omega, ?_⟩
  rw [show c - 96 + 96 = c by omega]
theorem isNm_at {f : Nat → Int32} {F T : Nat} (h : isNm f F T = true) : 0 < T - F ∧ T - F ≤ 8 ∧ ∀ k, k < T - F → 1 ≤ ltN f (F + k) ∧ ltN f (F + k) ≤ 26 ∧ f (F + k) = nI (ltN f (F + k) + 96) := by
  rw [isNm, Bool.and_eq_true, Bool.and_eq_true] at h
  exact ⟨of_decide_eq_true h.1.1, of_decide_eq_true h.1.2, fun k hk => ltN_in (nmB_at _ h.2 k hk).1 (nmB_at _ h.2 k hk).2⟩
theorem nmN_lt {f : Nat → Int32} {F T : Nat} (h : isNm f F T = true) : nmN f F T < 2 ^ 40 := by
  obtain ⟨h1, h2, h3⟩ := isNm_at h
  have := cdN_lt (b := 32) (w := ltN f) (F := F) (T - F) (fun k hk => by have := h3 k hk; omega)
  have h4 : 32 ^ (T - F) ≤ 32 ^ 8 := Nat.pow_le_pow_right (by decide) h2
  have h5 : (32 : Nat) ^ 8 = 2 ^ 40 := by decide
  show cdN 32 (ltN f) F (T - F) < _
  omega
theorem nmN_pos {f : Nat → Int32} {F T : Nat} (h : isNm f F T = true) : 0 < nmN f F T := by
  obtain ⟨h1, h2, h3⟩ := isNm_at h
  show 0 < cdN 32 (ltN f) F (T - F)
  rw [show T - F = (T - F - 1) + 1 by omega, cdN]
  have := h3 (T - F - 1) (by omega)
  omega
theorem smB_of {f : Nat → Int32} {a c : Nat} : ∀ n, (∀ k, k < n → f (a + k) = f (c + k)) → smB f a c n = true := by
  intro n
  induction n with
  | zero => intro _; rfl
  | succ n ih => intro h; rw [smB, ih (fun k hk => h k (by omega)), decide_eq_true (h n (Nat.lt_succ_self _))]; rfl
theorem smB_at {f : Nat → Int32} {a c : Nat} : ∀ n, smB f a c n = true → ∀ k, k < n → f (a + k) = f (c + k) := by
  intro n
  induction n with
  | zero => intro _ k hk; exact absurd hk (Nat.not_lt_zero _)
  | succ n ih =>
    intro h k hk
    rw [smB, Bool.and_eq_true] at h
    by_cases q : k = n
    · rw [q]; exact of_decide_eq_true h.2
    · exact ih h.1 k (by omega)
theorem cdN_ext {b : Nat} {w w' : Nat → Nat} {F G : Nat} : ∀ n, (∀ k, k < n → w (F + k) = w' (G + k)) → cdN b w F n = cdN b w' G n := by
  intro n
  induction n with
  | zero => intro _; rfl
  | succ n ih => intro h; rw [cdN, cdN, ih (fun k hk => h k (by omega)), h n (Nat.lt_succ_self _)]
/-- two NAMES are the same just when their numbers are -/
theorem smW_nm {f : Nat → Int32} {a b c d : Nat} (h1 : isNm f a b = true) (h2 : isNm f c d = true) : smW f a b c d = decide (nmN f a b = nmN f c d) := by
  obtain ⟨p1, p2, p3⟩ := isNm_at h1
  obtain ⟨q1, q2, q3⟩ := isNm_at h2
  by_cases z : nmN f a b = nmN f c d
  · rw [decide_eq_true z]
    obtain ⟨e1, e2⟩ := cdN_inj (b := 32) (w := ltN f) (w' := ltN f) (F := a) (G := c) (b - a) (d - c) (fun k hk => by have := p3 k hk; omega) (fun k hk => by have := q3 k hk; omega) z
    rw [smW, decide_eq_true e1, smB_of _ (fun k hk => by rw [(p3 k hk).2.2, (q3 k (by omega)).2.2, e2 k hk])]; rfl
  · rw [decide_eq_false z]
    cases w : smW f a b c d with
    | false => rfl
    | true =>
      rw [smW, Bool.and_eq_true] at w
      have e := of_decide_eq_true w.1
      refine absurd ?_ z
      show cdN 32 _ a (b - a) = cdN 32 _ c (d - c)
      rw [← e]
      exact cdN_ext _ (fun k hk => by rw [ltN, ltN, smB_at _ w.2 k hk])
/-- the number of a word as the class has it: 0 if it is no NAME -/
def nmL (f : Nat → Int32) (F T : Nat) : Int64 := if isNm f F T = true then lN (nmN f F T) else 0
theorem lN_inj {a b : Nat} (ha : a < 2 ^ 62) (hb : b < 2 ^ 62) (h : lN a = lN b) : a = b := by
  have := congrArg Int64.toInt h
  rw [pk_lT (by omega), pk_lT (by omega)] at this
  omega
theorem nmL_0 {f : Nat → Int32} {F T : Nat} : nmL f F T = 0 ↔ isNm f F T = false := by
  rw [nmL]
  cases h : isNm f F T with
  | false => simp
  | true =>
    simp only [if_true]
    have h1 := nmN_pos h
    have h2 := nmN_lt h
    constructor
    · intro z
      have := lN_inj (a := nmN f F T) (b := 0) (by omega) (by omega) z
      omega
    · intro z; cases z
theorem nmL_eq {f : Nat → Int32} {a b c d : Nat} (h1 : isNm f a b = true) (h2 : isNm f c d = true) : (nmL f a b = nmL f c d) ↔ smW f a b c d = true := by
  rw [smW_nm h1 h2, decide_eq_true_iff, nmL, nmL, if_pos h1, if_pos h2]
  have g1 := nmN_lt h1
  have g2 := nmN_lt h2
  exact ⟨fun z => lN_inj (by omega) (by omega) z, fun z => by rw [z]⟩
/-! NUMBERS of the class -/
def dvN (f : Nat → Int32) (a n : Nat) : Nat := cdN 10 (fun k => (f k).toNatClampNeg - 48) a n
theorem dg_in {x : Int32} (h1 : 48 ≤ x) (h2 : x ≤ 57) : ∃ c, 48 ≤ c ∧ c ≤ 57 ∧ x = nI c := by
  have a1 := Int32.le_iff_toInt_le.mp h1
  have a2 := Int32.le_iff_toInt_le.mp h2
  rw [show (48 : Int32).toInt = 48 from rfl] at a1
  rw [show (57 : Int32).toInt = 57 from rfl] at a2
  refine ⟨x.toInt.toNat, by omega, by omega, Int32.toInt_inj.mp ?_⟩
  rw [nI_toInt (by omega)]; omega
theorem dgB_at {f : Nat → Int32} {F : Nat} : ∀ n, dgB f F n = true → ∀ k, k < n → ∃ c, 48 ≤ c ∧ c ≤ 57 ∧ f (F + k) = nI c := by
  intro n
  induction n with
  | zero => intro _ k hk; exact absurd hk (Nat.not_lt_zero _)
  | succ n ih =>
    intro h k hk
    rw [dgB, Bool.and_eq_true, Bool.and_eq_true] at h
    by_cases q : k = n
    · rw [q]; exact dg_in (of_decide_eq_true h.2.1) (of_decide_eq_true h.2.2)
    · exact ih h.1 k (by omega)
theorem dvN_lt {f : Nat → Int32} {a n : Nat} (h : dgB f a n = true) (hn : n ≤ 6) : dvN f a n ≤ 999999 := by
  have h1 := cdN_lt (b := 10) (w := fun k => (f k).toNatClampNeg - 48) (F := a) n (fun k hk => by
    obtain ⟨c, c1, c2, e⟩ := dgB_at n h k hk
    show (f (a + k)).toNatClampNeg - 48 < 10
    rw [e, nI_clamp (by omega)]; omega)
  have h2 : 10 ^ n ≤ 10 ^ 6 := Nat.pow_le_pow_right (by decide) hn
  have h3 : (10 : Nat) ^ 6 = 1000000 := by decide
  show cdN 10 _ a n ≤ _
  omega
theorem dvL_N {f : Nat → Int32} {a : Nat} : ∀ n, dgB f a n = true → dvL f a n = lN (dvN f a n) := by
  intro n
  induction n with
  | zero => intro _; rfl
  | succ n ih =>
    intro h
    obtain ⟨c, c1, c2, e⟩ := dgB_at (n + 1) h n (Nat.lt_succ_self _)
    rw [dgB, Bool.and_eq_true] at h
    show dvL f a n * 10 + (f (a + n)).toInt64 - 48 = lN (cdN 10 _ a n * 10 + ((f (a + n)).toNatClampNeg - 48))
    rw [ih h.1, e, nI_l (by omega), nI_clamp (by omega), show (10 : Int64) = lN 10 from rfl, show (48 : Int64) = lN 48 from rfl, lN_mul, lN_add, lN_sub (by omega)]
    show lN (cdN 10 _ a n * 10 + c - 48) = _
    rw [show cdN 10 (fun k => (f k).toNatClampNeg - 48) a n * 10 + c - 48 = cdN 10 (fun k => (f k).toNatClampNeg - 48) a n * 10 + (c - 48) by omega]
/-- the number of a word as the class has it: -1000000 if it is no NUMBER -/
def nuI (f : Nat → Int32) (F T : Nat) : Int32 := if isNu f F T = true then (if f F = 45 then - nI (dvN f (F + 1) (T - (F + 1))) else nI (dvN f F (T - F))) else -1000000
theorem isNu_at {f : Nat → Int32} {F T : Nat} (h : isNu f F T = true) : dg1 f F < T ∧ T - dg1 f F ≤ 6 ∧ dgB f (dg1 f F) (T - dg1 f F) = true := by
  rw [isNu, Bool.and_eq_true, Bool.and_eq_true] at h
  have := of_decide_eq_true h.1.2
  exact ⟨of_decide_eq_true h.1.1, by omega, h.2⟩
theorem negI_toInt {m : Nat} (h : m < 2 ^ 31) : (- nI m).toInt = -(m : Int) := by
  rw [Int32.toInt_neg, nI_toInt h]
  apply Int.bmod_eq_of_le <;> omega
theorem negL_toInt {m : Nat} (h : m < 2 ^ 31) : (- lN m).toInt = -(m : Int) := by
  rw [Int64.toInt_neg, pk_lT (by omega)]
  apply Int.bmod_eq_of_le <;> omega
theorem nuI_of {f : Nat → Int32} {F T : Nat} (h : isNu f F T = true) : (nuI f F T).toInt = (nuV f F T).toInt ∧ -999999 ≤ (nuI f F T).toInt ∧ (nuI f F T).toInt ≤ 999999 := by
  obtain ⟨h1, h2, h3⟩ := isNu_at h
  rw [nuI, if_pos h, nuV]
  by_cases z : f F = 45
  · rw [if_pos z, if_pos z]
    rw [dg1, if_pos z] at h1 h2 h3
    have h4 := dvN_lt h3 h2
    rw [dvL_N _ h3, negI_toInt (by omega), negL_toInt (by omega)]
    omega
  · rw [if_neg z, if_neg z]
    rw [dg1, if_neg z] at h1 h2 h3
    have h4 := dvN_lt h3 h2
    rw [dvL_N _ h3, nI_toInt (by omega), pk_lT (by omega)]
    omega
theorem nuI_l {f : Nat → Int32} {F T : Nat} (h : isNu f F T = true) : (nuI f F T).toInt64 = nuV f F T := Int64.toInt_inj.mp (by rw [Int32.toInt_toInt64]; exact (nuI_of h).1)
theorem nuI_i {f : Nat → Int32} {F T : Nat} (h : isNu f F T = true) : (nuV f F T).toInt32 = nuI f F T := by rw [← nuI_l h, Int32.toInt32_toInt64]
theorem nuI_no {f : Nat → Int32} {F T : Nat} (h : isNu f F T = false) : nuI f F T = -1000000 := by rw [nuI, if_neg (by rw [h]; decide)]
theorem nuI_no' {f : Nat → Int32} {F T : Nat} : nuI f F T = -1000000 ↔ isNu f F T = false := by
  refine ⟨fun q => ?_, nuI_no⟩
  cases z : isNu f F T with
  | false => rfl
  | true =>
    have := (nuI_of z).2.1
    rw [q] at this
    exact absurd this (by decide)
/-- a NUMBER within bounds, by the class's number -/
theorem nuI_in {f : Nat → Int32} {F T : Nat} {lo hi : Int64} (hlo : -999999 ≤ lo.toInt) : (isNu f F T && (decide (lo ≤ nuV f F T) && decide (nuV f F T ≤ hi))) = (decide (lo.toInt ≤ (nuI f F T).toInt) && decide ((nuI f F T).toInt ≤ hi.toInt)) := by
  cases z : isNu f F T with
  | false =>
    rw [nuI_no z, show (-1000000 : Int32).toInt = -1000000 from rfl, decide_eq_false (show ¬ lo.toInt ≤ -1000000 by omega)]; rfl
  | true =>
    rw [(nuI_of z).1, Bool.true_and]
    congr 1
    · exact decide_eq_decide.mpr Int64.le_iff_toInt_le
    · exact decide_eq_decide.mpr Int64.le_iff_toInt_le
