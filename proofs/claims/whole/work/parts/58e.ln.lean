/-! THE LINES, as the class goes through them: from b on no line has ended before a -/
theorem lnE_is {f : Nat → Int32} {n b a : Nat} (h1 : b ≤ a) (h2 : a ≤ n) (hs : ∀ j, b ≤ j → j < a → ¬ f j = 10) (he : a < n → f a = 10) : lnE f (n - b) b = a := by
  have : ∀ d b, b + d = a → (∀ j, b ≤ j → j < a → ¬ f j = 10) → lnE f (n - b) b = a := by
    intro d
    induction d with
    | zero =>
      intro b e _
      have : b = a := by omega
      subst this
      by_cases w : b < n
      · exact lnE_n (he w)
      · exact lnE_e (by omega)
    | succ d ih =>
      intro b e hs
      rw [lnE_s (by omega) (hs b (Nat.le_refl _) (by omega))]
      exact ih (b + 1) (by omega) (fun j a1 a2 => hs j (by omega) a2)
  exact this (a - b) b (by omega) hs
theorem pAll_end {f : Nat → Int32} {n b ln : Nat} {P : PS} (h : n ≤ b) : ∀ m, pAll f n m b ln P = (0, some P) := by
  intro m
  cases m with
  | zero => rfl
  | succ m => rw [pAll, if_neg (by omega)]
theorem pAll_bad {f : Nat → Int32} {n b ln a m : Nat} {P : PS} (h1 : b ≤ a) (h2 : a ≤ n) (hb : b < n) (hs : ∀ j, b ≤ j → j < a → ¬ f j = 10) (he : a < n → f a = 10) (q : pLn f P a b (nI (ln + 1)) = none) : pAll f n (m + 1) b ln P = (ln + 1, none) := by
  rw [pAll, if_pos hb, lnE_is h1 h2 hs he, q]
theorem pAll_good {f : Nat → Int32} {n b ln a m : Nat} {P P' : PS} (h1 : b ≤ a) (h2 : a ≤ n) (hb : b < n) (hs : ∀ j, b ≤ j → j < a → ¬ f j = 10) (he : a < n → f a = 10) (q : pLn f P a b (nI (ln + 1)) = some P') : pAll f n (m + 1) b ln P = pAll f n m (a + 1) (ln + 1) P' := by
  rw [pAll, if_pos hb, lnE_is h1 h2 hs he, q]
/-- a line without words -/
theorem pLn_0 {f : Nat → Int32} {e b : Nat} {P : PS} {ln : Int32} (h : wB f e b = false) : pLn f P e b ln = some P := by
  rw [pLn, if_neg (of_decide_eq_false h)]
theorem pLn_t {f : Nat → Int32} {e b : Nat} {P : PS} {ln : Int32} (h : wB f e b = true) (ok : okLn P.2.2.2.2.1 e (nT f e b) P.1 P.2.1 (lkd (wV f (nF f e b) (nT f e b))) = true) : pLn f P e b ln = some (lnV P.1 (lkd (wV f (nF f e b) (nT f e b))), lnSc P.2.1 (lkd (wV f (nF f e b) (nT f e b))), lnP P.2.2.1 (lkd (wV f (nF f e b) (nT f e b))), lnC P.2.2.2.1 (lkd (wV f (nF f e b) (nT f e b))), lnA P.2.2.2.2.1 e (nT f e b) P.1 P.2.1 P.2.2.1 P.2.2.2.1 ln (lkd (wV f (nF f e b) (nT f e b))), lnB P.2.2.2.2.1 P.2.2.2.2.2 e (nT f e b) P.1 P.2.1 P.2.2.2.1 (lkd (wV f (nF f e b) (nT f e b)))) := by
  rw [pLn, if_pos (of_decide_eq_true h), if_pos ok]
theorem pLn_f {f : Nat → Int32} {e b : Nat} {P : PS} {ln : Int32} (h : wB f e b = true) (ok : okLn P.2.2.2.2.1 e (nT f e b) P.1 P.2.1 (lkd (wV f (nF f e b) (nT f e b))) = false) : pLn f P e b ln = none := by
  rw [pLn, if_pos (of_decide_eq_true h), if_neg (by rw [ok]; decide)]
/-- the first screen that is wrong -/
theorem ffS_first {A : Nat → Nat → Int32} {ns : Nat} {hb : Nat → Bool} (hl : ∀ s, 1 ≤ s → s ≤ ns → ¬ A 23 s = 0) : ∀ m, m ≤ ns → (∀ s, 1 ≤ s → s ≤ m → bdS A ns hb s = false) → ffS A ns hb m = 0 := by
  intro m
  induction m with
  | zero => intro _ _; rfl
  | succ m ih =>
    intro hm h
    rw [ffS, if_neg (fun q => by rw [h (m + 1) (by omega) (Nat.le_refl _)] at q; exact absurd q.1 (by decide))]
    exact ih (by omega) (fun s a b => h s a (by omega))
theorem ffS_at {A : Nat → Nat → Int32} {ns : Nat} {hb : Nat → Bool} (hl : ∀ s, 1 ≤ s → s ≤ ns → ¬ A 23 s = 0) {s : Nat} (h1 : 1 ≤ s) (hbd : bdS A ns hb s = true) (hf : ∀ t, 1 ≤ t → t < s → bdS A ns hb t = false) : ∀ m, s ≤ m → m ≤ ns → ffS A ns hb m = A 23 s := by
  intro m
  induction m with
  | zero => intro h; omega
  | succ m ih =>
    intro hm hm2
    by_cases w : s = m + 1
    · have e0 : ffS A ns hb m = 0 := ffS_first hl m (by omega) (fun t a b => hf t a (by omega))
      rw [ffS, if_pos ⟨by rw [← w]; exact hbd, e0⟩, w]
    · have e := ih (by omega) (by omega)
      rw [ffS, if_neg (fun q => hl s h1 (by omega) (by rw [← e]; exact q.2)), e]
theorem byt_u (c : Int32) {k : Nat} (hk : k < 4) : (c.toUInt32 >>> ((nI (24 - 8 * k)).toUInt32 &&& Int32.toUInt32 31)).toInt32 &&& 255 = byt c k := by
  apply Int32.toBitVec_inj.mp
  have m255 : ∀ i, i < 32 → (255 : Int32).toBitVec.getLsbD i = decide (i < 8) := by decide +kernel
  have key : ∀ s, s ≤ 24 → ((c.toBitVec >>> s) &&& (255 : Int32).toBitVec) = (c.toBitVec.sshiftRight s &&& (255 : Int32).toBitVec) := by
    intro s hs
    apply BitVec.eq_of_getLsbD_eq
    intro i hi
    rw [BitVec.getLsbD_and, BitVec.getLsbD_and, m255 i hi, BitVec.getLsbD_ushiftRight, BitVec.getLsbD_sshiftRight]
    by_cases w : i < 8
    · rw [decide_eq_false (show ¬ 32 ≤ i by omega), if_pos (show s + i < 32 by omega)]; simp
    · rw [decide_eq_false w, Bool.and_false, Bool.and_false]
  unfold byt
  rw [Int32.toBitVec_and, Int32.toBitVec_and]
  have hk' : k = 0 ∨ k = 1 ∨ k = 2 ∨ k = 3 := by omega
  rcases hk' with rfl | rfl | rfl | rfl
  · exact key 24 (by decide)
  · exact key 16 (by decide)
  · exact key 8 (by decide)
  · exact key 0 (by decide)
