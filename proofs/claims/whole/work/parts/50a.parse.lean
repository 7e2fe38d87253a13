/-! THE TEXT AS LINES -/
def lnE (f : Nat → Int32) : Nat → Nat → Nat
  | 0, k => k
  | n + 1, k => if f k = 10 then k else lnE f n (k + 1)
theorem lnE_s {f : Nat → Int32} {e k : Nat} (h : k < e) (hf : ¬ f k = 10) : lnE f (e - k) k = lnE f (e - (k + 1)) (k + 1) := by
  rw [show e - k = (e - (k + 1)) + 1 by omega, lnE, if_neg hf]
theorem lnE_n {f : Nat → Int32} {e k : Nat} (hf : f k = 10) : lnE f (e - k) k = k := by
  rcases Nat.lt_or_ge k e with h | h
  · rw [show e - k = (e - (k + 1)) + 1 by omega, lnE, if_pos hf]
  · rw [show e - k = 0 by omega, lnE]
theorem lnE_e {f : Nat → Int32} {e k : Nat} (h : e ≤ k) : lnE f (e - k) k = k := by
  rw [show e - k = 0 by omega, lnE]
theorem lnE_in (f : Nat → Int32) (e : Nat) : ∀ n k, n = e - k → k ≤ e → k ≤ lnE f n k ∧ lnE f n k ≤ e := by
  intro n
  induction n with
  | zero => intro k h1 h2; exact ⟨Nat.le_refl _, h2⟩
  | succ n ih =>
    intro k h1 h2
    rw [lnE]
    split
    · exact ⟨Nat.le_refl _, h2⟩
    · obtain ⟨a1, a2⟩ := ih (k + 1) (by omega) (by omega)
      exact ⟨by omega, a2⟩
/-- what is read: values, screens, parts, conditions; the arrays -/
abbrev PS : Type := Nat × Nat × Nat × Nat × (Nat → Nat → Int32) × (Nat → Nat → Int64)
def pLn (f : Nat → Int32) (P : PS) (e b : Nat) (ln : Int32) : Option PS :=
  if nF f e b < nT f e b then
    (if okLn P.2.2.2.2.1 e (nT f e b) P.1 P.2.1 (lkd (wV f (nF f e b) (nT f e b))) = true then
      some (lnV P.1 (lkd (wV f (nF f e b) (nT f e b))), lnSc P.2.1 (lkd (wV f (nF f e b) (nT f e b))), lnP P.2.2.1 (lkd (wV f (nF f e b) (nT f e b))), lnC P.2.2.2.1 (lkd (wV f (nF f e b) (nT f e b))), lnA P.2.2.2.2.1 e (nT f e b) P.1 P.2.1 P.2.2.1 P.2.2.2.1 ln (lkd (wV f (nF f e b) (nT f e b))), lnB P.2.2.2.2.1 P.2.2.2.2.2 e (nT f e b) P.1 P.2.1 P.2.2.2.1 (lkd (wV f (nF f e b) (nT f e b))))
    else none)
  else some P
def pAll (f : Nat → Int32) (size : Nat) : Nat → Nat → Nat → PS → Nat × Option PS
  | 0, _, _, P => (0, some P)
  | m + 1, b, ln, P => if b < size then (match pLn f P (lnE f (size - b) b) b (nI (ln + 1)) with
      | none => (ln + 1, none)
      | some P' => pAll f size m (lnE f (size - b) b + 1) (ln + 1) P') else (0, some P)
def rngP (A : Nat → Nat → Int32) (j k n : Nat) : Prop := ∀ v, 1 ≤ v → v ≤ n → ∃ p q, A j v = nI p ∧ A k v = nI q ∧ p ≤ q ∧ q ≤ 4000
def keyP (A : Nat → Nat → Int32) : Prop := ∀ q, ¬ A 27 q = 0 → ∃ p t, A 26 q = nI p ∧ A 27 q = nI t ∧ p ≤ t ∧ t ≤ 4000
/-- what is always so while a text is read, at place b -/
def PI (f : Nat → Int32) (P : PS) (b : Nat) : Prop := P.1 ≤ 40 ∧ P.2.1 ≤ 30 ∧ 8 * (P.2.2.1 + P.2.2.2.1) ≤ b ∧ P.2.2.2.2.1 6 = f ∧ rngP P.2.2.2.2.1 13 14 P.1 ∧ rngP P.2.2.2.2.1 21 22 P.2.1 ∧ keyP P.2.2.2.2.1 ∧ (∀ p, p < P.2.2.1 → ptOK P.2.2.2.2.1 P.2.2.2.2.2 p) ∧ (∀ c, c < P.2.2.2.1 → ∃ v, P.2.2.2.2.1 42 c = nI v ∧ v ≤ 40) ∧ ∀ v, smL (P.2.2.2.2.2 18 v)
theorem rngP_up {A A' : Nat → Nat → Int32} {j k n F T : Nat} (h : rngP A j k n) (hj : A' j = upd (A j) (n + 1) (nI F)) (hk : A' k = upd (A k) (n + 1) (nI T)) (hFT : F ≤ T) (hT : T ≤ 4000) : rngP A' j k (n + 1) := by
  intro v h1 h2
  by_cases q : v = n + 1
  · subst q; exact ⟨F, T, by rw [hj, pk_us], by rw [hk, pk_us], hFT, hT⟩
  · obtain ⟨p, t, a1, a2, a3⟩ := h v h1 (by omega)
    exact ⟨p, t, by rw [hj, pk_un q]; exact a1, by rw [hk, pk_un q]; exact a2, a3⟩
theorem rngP_eq {A A' : Nat → Nat → Int32} {j k n : Nat} (h : rngP A j k n) (hj : A' j = A j) (hk : A' k = A k) : rngP A' j k n := by
  intro v h1 h2
  rw [hj, hk]; exact h v h1 h2
theorem kz_or (f : Nat → Int32) (q : Nat) : ∀ n j, kz f q n j = 0 ∨ kz f q n j = f j := by
  intro n
  induction n with
  | zero => intro j; exact Or.inr rfl
  | succ n ih =>
    intro j
    rw [kz]
    by_cases h : j = q + n
    · rw [h, pk_us]; exact Or.inl rfl
    · rw [pk_un h]; exact ih j
theorem cNm_w {f : Nat → Int32} {e i : Nat} (h : cNm f e i = true) : nF f e i < nT f e i := of_decide_eq_true (Bool.and_eq_true_iff.mp h).1
theorem cNu_w {f : Nat → Int32} {e i : Nat} {lo hi : Int64} (h : cNu f e i lo hi = true) : nF f e i < nT f e i := of_decide_eq_true (Bool.and_eq_true_iff.mp h).1
/-- a word behind a word: a space is between them -/
theorem nT_gap {f : Nat → Int32} {e i : Nat} (hi : i ≤ e) (hs : i < e → f i = 32) (hw : nF f e i < nT f e i) : i + 2 ≤ nT f e i := by
  have h1 := nF_in f hi
  have h2 := nT_in f hi
  have h3 := skp_in f e _ i rfl hi
  have h4 : nF f e i ≠ i := by
    intro q
    have h5 : i < e := by omega
    exact h3.2.2.1 (by show nF f e i < e; omega) (by show f (nF f e i) = 32; rw [q]; exact hs h5)
  omega
theorem nT_sp {f : Nat → Int32} {e i : Nat} (hi : i ≤ e) (h : nT f e i < e) : f (nT f e i) = 32 := (wnd_in f e _ _ rfl (nF_in f hi).2).2.2.1 h
/-- a line of four words has seven signs at least -/
theorem four_words {f : Nat → Int32} {e b : Nat} (hb : b ≤ e) (w0 : nF f e b < nT f e b) (w1 : nF f e (nT f e b) < nT f e (nT f e b)) (w2 : nF f e (nT f e (nT f e b)) < nT f e (nT f e (nT f e b))) (w3 : nF f e (nT f e (nT f e (nT f e b))) < nT f e (nT f e (nT f e (nT f e b)))) : b + 7 ≤ e := by
  have h0 := nF_in f hb
  have t0 := nT_in f hb
  have t1 := nT_in f t0.2
  have t2 := nT_in f t1.2
  have t3 := nT_in f t2.2
  have g1 := nT_gap t0.2 (nT_sp hb) w1
  have g2 := nT_gap t1.2 (nT_sp t0.2) w2
  have g3 := nT_gap t2.2 (nT_sp t1.2) w3
  omega
theorem smL_in {z lo hi : Int64} (h1 : -999999 ≤ lo) (h2 : lo ≤ z) (h3 : z ≤ hi) (h4 : hi ≤ 999999) : smL z := by
  have a1 := Int64.le_iff_toInt_le.mp h1
  have a2 := Int64.le_iff_toInt_le.mp h2
  have a3 := Int64.le_iff_toInt_le.mp h3
  have a4 := Int64.le_iff_toInt_le.mp h4
  have e1 : (-999999 : Int64).toInt = -999999 := by decide
  have e2 : (999999 : Int64).toInt = 999999 := by decide
  exact ⟨by omega, by omega⟩
