/-! WORDS of a line from b to e: word i lies from nF (wP i) to wP (i + 1) -/
def wP (f : Nat → Int32) (e b : Nat) : Nat → Nat
  | 0 => b
  | i + 1 => nT f e (wP f e b i)
theorem wP_in {f : Nat → Int32} {e b : Nat} (h : b ≤ e) : ∀ i, b ≤ wP f e b i ∧ wP f e b i ≤ e := by
  intro i
  induction i with
  | zero => exact ⟨Nat.le_refl _, h⟩
  | succ i ih => exact ⟨Nat.le_trans ih.1 (Nat.le_trans (nF_in f ih.2).1 (nT_in f ih.2).1), (nT_in f ih.2).2⟩
theorem nF_is {f : Nat → Int32} {e i k : Nat} (h1 : i ≤ k) (h2 : k ≤ e) (hs : ∀ j, i ≤ j → j < k → f j = 32) (hk : k < e → ¬ f k = 32) : nF f e i = k := by
  obtain ⟨a1, a2, a3, a4⟩ := skp_in f e _ i rfl (Nat.le_trans h1 h2)
  rcases Nat.lt_trichotomy (nF f e i) k with q | q | q
  · exact absurd (hs _ a1 q) (a3 (Nat.lt_of_lt_of_le q h2))
  · exact q
  · exact absurd (a4 k h1 q) (hk (Nat.lt_of_lt_of_le q a2))
theorem nT_is {f : Nat → Int32} {e i k : Nat} (h1 : nF f e i ≤ k) (h2 : k ≤ e) (hs : ∀ j, nF f e i ≤ j → j < k → ¬ f j = 32) (hk : k < e → f k = 32) : nT f e i = k := by
  obtain ⟨a1, a2, a3, a4⟩ := wnd_in f e _ (nF f e i) rfl (Nat.le_trans h1 h2)
  rcases Nat.lt_trichotomy (nT f e i) k with q | q | q
  · exact absurd (a3 (Nat.lt_of_lt_of_le q h2)) (hs _ a1 q)
  · exact q
  · exact absurd (hk (Nat.lt_of_lt_of_le q a2)) (a4 k h1 q)
/-- no word: all is spaces -/
theorem nF_none {f : Nat → Int32} {e i : Nat} (h : i ≤ e) (w : wB f e i = false) : nF f e i = e ∧ nT f e i = e := by
  obtain ⟨a1, a2, a3, a4⟩ := skp_in f e _ i rfl h
  obtain ⟨b1, b2, b3, b4⟩ := wnd_in f e _ (nF f e i) rfl a2
  have h1 : ¬ nF f e i < nT f e i := of_decide_eq_false w
  have h2 : nF f e i = e := by
    rcases Nat.lt_or_ge (nF f e i) e with q | q
    · have h3 : nT f e i = nF f e i := Nat.le_antisymm (Nat.le_of_not_lt h1) b1
      have h4 : f (nT f e i) = 32 := b3 (by show nT f e i < e; omega)
      rw [h3] at h4
      exact absurd h4 (a3 q)
    · exact Nat.le_antisymm a2 q
  refine ⟨h2, ?_⟩
  have : nF f e i ≤ nT f e i := b1
  have : nT f e i ≤ e := b2
  omega
/-- while the class splits a line: place a, the word begun at s, c words found -/
def spI (f : Nat → Int32) (e b a s c : Nat) : Prop := wP f e b c ≤ s ∧ s ≤ a ∧ a ≤ e + 1 ∧ (∀ i, i < c → wB f e (wP f e b i) = true) ∧ (∀ j, wP f e b c ≤ j → j < s → j < e → f j = 32) ∧ ∀ j, s ≤ j → j < a → (¬ f j = 32) ∧ j < e
theorem spI_0 {f : Nat → Int32} {e b : Nat} (h : b ≤ e) : spI f e b b b 0 := ⟨Nat.le_refl _, Nat.le_refl _, Nat.le_succ_of_le h, fun i hi => absurd hi (Nat.not_lt_zero _), fun j h1 h2 => absurd h2 (Nat.not_lt.mpr h1), fun j h1 h2 => absurd h2 (Nat.not_lt.mpr h1)⟩
theorem spI_go {f : Nat → Int32} {e b a s c : Nat} (h : spI f e b a s c) (ha : a < e) (hf : ¬ f a = 32) : spI f e b (a + 1) s c := by
  obtain ⟨h1, h2, h3, h4, h5, h6⟩ := h
  refine ⟨h1, by omega, by omega, h4, h5, fun j p q => ?_⟩
  by_cases z : j = a
  · rw [z]; exact ⟨hf, ha⟩
  · exact h6 j p (by omega)
theorem spI_wd {f : Nat → Int32} {e b a s c : Nat} (h : spI f e b a s c) (hs : s < a) (hf : a < e → f a = 32) (ha : a ≤ e) : nF f e (wP f e b c) = s ∧ wP f e b (c + 1) = a ∧ wB f e (wP f e b c) = true ∧ spI f e b (a + 1) (a + 1) (c + 1) := by
  obtain ⟨h1, h2, h3, h4, h5, h6⟩ := h
  have e1 : nF f e (wP f e b c) = s := nF_is h1 (by omega) (fun j p q => h5 j p q (by omega)) (fun _ => (h6 s (Nat.le_refl _) hs).1)
  have e2 : nT f e (wP f e b c) = a := nT_is (by rw [e1]; exact h2) ha (fun j p q => (h6 j (by rw [e1] at p; exact p) q).1) hf
  have e3 : wB f e (wP f e b c) = true := decide_eq_true (by rw [e1, e2]; exact hs)
  refine ⟨e1, e2, e3, ?_, Nat.le_refl _, by omega, fun i hi => ?_, fun j p q r => ?_, fun j p q => absurd q (Nat.not_lt.mpr p)⟩
  · show nT f e (wP f e b c) ≤ _; rw [e2]; exact Nat.le_succ _
  · by_cases z : i = c
    · rw [z]; exact e3
    · exact h4 i (by omega)
  · have p' : a ≤ j := by have p : nT f e (wP f e b c) ≤ j := p; rw [e2] at p; exact p
    have : j = a := by omega
    rw [this] at r ⊢; exact hf r
theorem spI_sp {f : Nat → Int32} {e b a s c : Nat} (h : spI f e b a s c) (hs : ¬ s < a) (hf : a < e → f a = 32) (ha : a ≤ e) : spI f e b (a + 1) (a + 1) c := by
  obtain ⟨h1, h2, h3, h4, h5, h6⟩ := h
  refine ⟨by omega, Nat.le_refl _, by omega, h4, fun j p q r => ?_, fun j p q => absurd q (Nat.not_lt.mpr p)⟩
  by_cases z : j = a
  · rw [z] at r ⊢; exact hf r
  · exact h5 j p (by omega) r
theorem spI_end {f : Nat → Int32} {e b s c : Nat} (h : spI f e b (e + 1) s c) : wB f e (wP f e b c) = false := by
  obtain ⟨h1, h2, h3, h4, h5, h6⟩ := h
  have hs : s = e + 1 := by
    rcases Nat.lt_or_ge s (e + 1) with q | q
    · exact absurd (h6 e (by omega) (Nat.lt_succ_self _)).2 (Nat.lt_irrefl _)
    · exact Nat.le_antisymm h2 q
  cases z : wB f e (wP f e b c) with
  | false => rfl
  | true =>
    exfalso
    have z1 : nF f e (wP f e b c) < nT f e (wP f e b c) := of_decide_eq_true z
    by_cases y : wP f e b c ≤ e
    · have a3 := (skp_in f e _ _ rfl y).2.2.1
      have a1 := (nF_in f y)
      have a2 := (nT_in f y)
      have a4 : nF f e (wP f e b c) < e := by omega
      exact a3 a4 (h5 (nF f e (wP f e b c)) a1.1 (by omega) a4)
    · have e1 : nF f e (wP f e b c) = wP f e b c := by rw [nF, show e - wP f e b c = 0 by omega]; rfl
      have e2 : nT f e (wP f e b c) = wP f e b c := by rw [nT, e1, show e - wP f e b c = 0 by omega]; rfl
      omega
/-- the class's line: c words of at most six, their starts and ends -/
def lnW (f : Nat → Int32) (e b c : Nat) (fs fe : Nat → Int32) : Prop := c ≤ 6 ∧ (∀ i, i < c → wB f e (wP f e b i) = true) ∧ (c < 6 → wB f e (wP f e b c) = false) ∧ ∀ i, i < c → fs i = nI (nF f e (wP f e b i)) ∧ fe i = nI (wP f e b (i + 1))
/-- word i is there just when i is below the count -/
theorem lnW_lt {f : Nat → Int32} {e b c i : Nat} {fs fe : Nat → Int32} (h : lnW f e b c fs fe) (hb : b ≤ e) (hi : i < 6) : wB f e (wP f e b i) = decide (i < c) := by
  by_cases z : i < c
  · rw [decide_eq_true z]; exact h.2.1 i z
  · rw [decide_eq_false z]
    have hc : c < 6 := by omega
    have h0 := h.2.2.1 hc
    have : ∀ d, wB f e (wP f e b (c + d)) = false := by
      intro d
      induction d with
      | zero => exact h0
      | succ d ih =>
        have h1 := nF_none (wP_in hb (c + d)).2 ih
        show wB f e (nT f e (wP f e b (c + d))) = false
        rw [h1.2]
        apply decide_eq_false
        have := nT_in f (Nat.le_refl e)
        have := nF_in f (Nat.le_refl e)
        omega
    have := this (i - c)
    rw [show c + (i - c) = i by omega] at this
    exact this
/-! THE FIRST WORD -/
theorem cdN_pos {b : Nat} {w : Nat → Nat} {F n : Nat} (hn : 0 < n) (h : 0 < w (F + (n - 1))) : 0 < cdN b w F n := by
  rw [show n = (n - 1) + 1 by omega, cdN]; omega
theorem wv_N {f : Nat → Int32} {F : Nat} : ∀ n, (∀ k, k < n → ∃ c, 0 < c ∧ c < 128 ∧ f (F + k) = nI c) → wv f F n = lN (cdN 128 (fun k => (f k).toNatClampNeg) F n) := by
  intro n
  induction n with
  | zero => intro _; rfl
  | succ n ih =>
    intro h
    obtain ⟨c, c1, c2, e⟩ := h n (Nat.lt_succ_self _)
    rw [wv, ih (fun k hk => h k (by omega)), cdN, e, nI_l (by omega), nI_clamp (by omega), show (128 : Int64) = lN 128 from rfl, lN_mul, lN_add]
theorem eqB_t {f g : Nat → Int32} {n m : Nat} (h1 : n = m) (h2 : ∀ k, k < n → f k = g k) : eqB f n g m = true := by
  unfold eqB
  rw [decide_eq_true h1, allB_t n (fun k hk => decide_eq_true (h2 k hk))]; rfl
theorem eqB_at {f g : Nat → Int32} {n m : Nat} (h : eqB f n g m = true) : n = m ∧ ∀ k, k < n → f k = g k := by
  unfold eqB at h
  rw [Bool.and_eq_true] at h
  exact ⟨of_decide_eq_true h.1, fun k hk => of_decide_eq_true (allB_at (n := n) h.2 hk)⟩
theorem kd_eq {f g q : Nat → Int32} {F T n2 : Nat} (hFT : F < T) (ht : ∀ k, F ≤ k → k < T → ∃ c, 0 < c ∧ c < 128 ∧ f k = nI c) (hg : ∀ k, k < T - F → g k = f (F + k)) (hq : ∀ k, k < n2 → ∃ c, 0 < c ∧ c < 128 ∧ q k = nI c) (h0 : 0 < n2) (h8 : n2 ≤ 8) : wV f F T = lN (cdN 128 (fun k => (q k).toNatClampNeg) 0 n2) ↔ eqB g (T - F) q n2 = true := by
  have hf : ∀ k, k < T - F → ∃ c, 0 < c ∧ c < 128 ∧ f (F + k) = nI c := fun k hk => ht (F + k) (by omega) (by omega)
  have bq : ∀ k, k < n2 → 0 < (fun k => (q k).toNatClampNeg) (0 + k) ∧ (fun k => (q k).toNatClampNeg) (0 + k) < 128 := by
    intro k hk
    obtain ⟨c, c1, c2, e⟩ := hq k hk
    show 0 < (q (0 + k)).toNatClampNeg ∧ (q (0 + k)).toNatClampNeg < 128
    rw [Nat.zero_add, e, nI_clamp (by omega)]; exact ⟨c1, c2⟩
  have bf : ∀ k, k < T - F → 0 < (fun k => (f k).toNatClampNeg) (F + k) ∧ (fun k => (f k).toNatClampNeg) (F + k) < 128 := by
    intro k hk
    obtain ⟨c, c1, c2, e⟩ := hf k hk
    show 0 < (f (F + k)).toNatClampNeg ∧ (f (F + k)).toNatClampNeg < 128
    rw [e, nI_clamp (by omega)]; exact ⟨c1, c2⟩
  have lq : cdN 128 (fun k => (q k).toNatClampNeg) 0 n2 < 2 ^ 56 := by
    have h1 := cdN_lt (b := 128) (w := fun k => (q k).toNatClampNeg) (F := 0) n2 (fun k hk => (bq k hk).2)
    have h2 : 128 ^ n2 ≤ 128 ^ 8 := Nat.pow_le_pow_right (by decide) h8
    have h3 : (128 : Nat) ^ 8 = 2 ^ 56 := by decide
    omega
  have pq : 0 < cdN 128 (fun k => (q k).toNatClampNeg) 0 n2 := cdN_pos h0 (bq (n2 - 1) (by omega)).1
  rw [wV]
  by_cases h9 : T - F < 9
  · rw [if_pos h9, wv_N _ hf]
    have lf : cdN 128 (fun k => (f k).toNatClampNeg) F (T - F) < 2 ^ 56 := by
      have h1 := cdN_lt (b := 128) (w := fun k => (f k).toNatClampNeg) (F := F) (T - F) (fun k hk => (bf k hk).2)
      have h2 : 128 ^ (T - F) ≤ 128 ^ 8 := Nat.pow_le_pow_right (by decide) (by omega)
      have h3 : (128 : Nat) ^ 8 = 2 ^ 56 := by decide
      omega
    constructor
    · intro z
      obtain ⟨e1, e2⟩ := cdN_inj _ _ bf bq (lN_inj (by omega) (by omega) z)
      refine eqB_t e1 (fun k hk => ?_)
      have e3 := e2 k hk
      obtain ⟨c, c1, c2, e⟩ := hf k hk
      obtain ⟨d, d1, d2, e'⟩ := hq k (by omega)
      have e3 : (f (F + k)).toNatClampNeg = (q (0 + k)).toNatClampNeg := e3
      rw [Nat.zero_add, e, e', nI_clamp (by omega), nI_clamp (by omega)] at e3
      rw [hg k hk, e, e', e3]
    · intro z
      obtain ⟨e1, e2⟩ := eqB_at z
      rw [← e1]
      congr 1
      refine cdN_ext _ (fun k hk => ?_)
      show (f (F + k)).toNatClampNeg = (q (0 + k)).toNatClampNeg
      rw [Nat.zero_add, ← e2 k hk, hg k hk]
  · rw [if_neg h9]
    constructor
    · intro z
      have := lN_inj (a := 0) (by omega) (by omega) z
      omega
    · intro z
      obtain ⟨e1, e2⟩ := eqB_at z
      omega
/-- the words that begin a line -/
def ltW : Nat → Nat × (Nat → Int32)
  | 0 => (4, q7 110 97 109 101 0 0 0)
  | 1 => (7, q7 115 101 116 116 105 110 103)
  | 2 => (6, q7 115 99 114 101 101 110 0)
  | 3 => (3, q7 112 117 116 0 0 0 0)
  | 4 => (3, q7 115 97 121 0 0 0 0)
  | 5 => (4, q7 115 104 111 119 0 0 0)
  | 6 => (2, q7 105 102 0 0 0 0 0)
  | 7 => (3, q7 107 101 121 0 0 0 0)
  | _ => (3, q7 98 97 114 0 0 0 0)
theorem q7_in {q : Nat → Int32} {n : Nat} (h : ∀ k, k < n → (q k).toNatClampNeg < 128 ∧ 0 < (q k).toNatClampNeg ∧ q k = nI (q k).toNatClampNeg) : ∀ k, k < n → ∃ c, 0 < c ∧ c < 128 ∧ q k = nI c := fun k hk => ⟨_, (h k hk).2.1, (h k hk).1, (h k hk).2.2⟩
section KD
variable {f g : Nat → Int32} {F T : Nat}
theorem kd_0 (hFT : F < T) (ht : ∀ k, F ≤ k → k < T → ∃ c, 0 < c ∧ c < 128 ∧ f k = nI c) (hg : ∀ k, k < T - F → g k = f (F + k)) (j : Nat) (hj : j < 9) : wV f F T = lN (cdN 128 (fun k => ((ltW j).2 k).toNatClampNeg) 0 (ltW j).1) ↔ eqB g (T - F) (ltW j).2 (ltW j).1 = true := by
  have h : ∀ j, j < 9 → 0 < (ltW j).1 ∧ (ltW j).1 ≤ 8 ∧ ∀ k, k < (ltW j).1 → ((ltW j).2 k).toNatClampNeg < 128 ∧ 0 < ((ltW j).2 k).toNatClampNeg ∧ (ltW j).2 k = nI ((ltW j).2 k).toNatClampNeg := by decide +kernel
  exact kd_eq hFT ht hg (q7_in (h j hj).2.2) (h j hj).1 (h j hj).2.1
/-- the kind of a line as the class finds it -/
theorem lkd_eq (hFT : F < T) (ht : ∀ k, F ≤ k → k < T → ∃ c, 0 < c ∧ c < 128 ∧ f k = nI c) (hg : ∀ k, k < T - F → g k = f (F + k)) : lkd (wV f F T) =
    if eqB g (T - F) (ltW 0).2 (ltW 0).1 = true then 0 else if eqB g (T - F) (ltW 1).2 (ltW 1).1 = true then 1 else if eqB g (T - F) (ltW 2).2 (ltW 2).1 = true then 2
    else if eqB g (T - F) (ltW 3).2 (ltW 3).1 = true then 3 else if eqB g (T - F) (ltW 4).2 (ltW 4).1 = true then 4 else if eqB g (T - F) (ltW 5).2 (ltW 5).1 = true then 5
    else if eqB g (T - F) (ltW 6).2 (ltW 6).1 = true then 6 else if eqB g (T - F) (ltW 7).2 (ltW 7).1 = true then 7 else if eqB g (T - F) (ltW 8).2 (ltW 8).1 = true then 8 else 9 := by
  have K := fun j hj => kd_0 hFT ht hg j hj
  rw [lkd]
  simp only [← K 0 (by decide), ← K 1 (by decide), ← K 2 (by decide), ← K 3 (by decide), ← K 4 (by decide), ← K 5 (by decide), ← K 6 (by decide), ← K 7 (by decide), ← K 8 (by decide)]
  rfl
end KD
