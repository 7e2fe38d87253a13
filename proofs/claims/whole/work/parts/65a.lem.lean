/-- roles that reading the lines doesn't touch -/
def kK2 (i : Nat) : Prop := kK i ∧ i ≠ 7
/-- the text's string at t, of N signs f, nothing writes it -/
def TX (dT : Nat → ClassId) (z : Nat) (h : vH) (ad : Nat → Nat → Nat) (L : vL) (f : Nat → Int32) (N t : Nat) : Prop := ∃ tv z2 z3 f8, (h t = some (.inr (0, [.ref tv, .int 0, z2, z3])) ∧ ¬ vOwn ad L t) ∧ (h tv = some (.inl (dT 2, N, .inl f8)) ∧ ¬ vOwn ad L tv) ∧ z ≤ tv ∧ N ≤ 4000 ∧ ∀ k, k < N → f8 k = f k ∧ ∃ c0, 0 < c0 ∧ c0 < 128 ∧ f k = nI c0
theorem TX.lx {dT : Nat → ClassId} {z : Nat} {h h' : vH} {ad ad' : Nat → Nat → Nat} {L L' : vL} {f : Nat → Int32} {N t : Nat} (a : TX dT z h ad L f N t) (p : LX h ad L h' ad' L') : TX dT z h' ad' L' f N t := by
  obtain ⟨tv, z2, z3, f8, k1, k2, r⟩ := a
  exact ⟨tv, z2, z3, f8, p.frz k1, p.frz k2, r⟩
/-- the place k of the text, its line begun at b with number n, is reached -/
def atP (f : Nat → Int32) (N bg k lnn : Nat) : Prop := bg ≤ k ∧ k ≤ N + 1 ∧ lnn ≤ bg ∧ ∀ j, bg ≤ j → j < k → j < N ∧ ¬ f j = 10
section FWL
variable {f : Nat → Int32} {N bg k lnn : Nat} {P P' : PS} {V : Nat × Option PS}
theorem atP_0 : atP f N 0 0 0 := ⟨Nat.le_refl _, Nat.zero_le _, Nat.le_refl _, fun j _ h => absurd h (Nat.not_lt_zero _)⟩
theorem atP_go (a : atP f N bg k lnn) (h1 : k < N) (h2 : ¬ f k = 10) : atP f N bg (k + 1) lnn := by
  obtain ⟨a1, a2, a3, a4⟩ := a
  refine ⟨by omega, by omega, a3, fun j j1 j2 => ?_⟩
  by_cases w : j = k
  · rw [w]; exact ⟨h1, h2⟩
  · exact a4 j j1 (by omega)
theorem atP_nl (a : atP f N bg k lnn) (h1 : k ≤ N) : atP f N (k + 1) (k + 1) (lnn + 1) := by
  obtain ⟨a1, a2, a3, a4⟩ := a
  exact ⟨Nat.le_refl _, by omega, by omega, fun j j1 j2 => absurd j2 (Nat.not_lt.mpr j1)⟩
theorem atP_end (a : atP f N bg k lnn) (h1 : N < k) : N ≤ bg := by
  obtain ⟨a1, a2, a3, a4⟩ := a
  rcases Nat.lt_or_ge bg N with w | w
  · have := (a4 N (by omega) h1).1; omega
  · exact w
/-- a line is through -/
theorem pAll_step (a : atP f N bg k lnn) (h1 : k ≤ N) (he : k < N → f k = 10) (e : V = pAll f N (N + 1 - lnn) bg lnn P) (q : pLn f P k bg (nI (lnn + 1)) = some P') : V = pAll f N (N + 1 - (lnn + 1)) (k + 1) (lnn + 1) P' := by
  obtain ⟨a1, a2, a3, a4⟩ := a
  by_cases w : bg < N
  · rw [e, show N + 1 - lnn = (N - lnn) + 1 by omega, pAll_good a1 h1 w (fun j j1 j2 => (a4 j j1 j2).2) he q, show N + 1 - (lnn + 1) = N - lnn by omega]
  · have e1 : bg = k := by
      rcases Nat.lt_or_ge bg k with y | y
      · have := (a4 bg (Nat.le_refl _) y).1; omega
      · omega
    have e2 : P' = P := by
      have e3 : wB f k bg = false := by
        apply decide_eq_false
        have h3 := nF_in f (Nat.le_of_eq e1)
        have h4 := nT_in f (Nat.le_of_eq e1)
        omega
      rw [pLn_0 e3] at q
      exact (Option.some.inj q).symm
    rw [e, e2, pAll_end (by omega), pAll_end (by omega)]
theorem pAll_stop (a : atP f N bg k lnn) (h1 : k ≤ N) (he : k < N → f k = 10) (e : V = pAll f N (N + 1 - lnn) bg lnn P) (hb : bg < N) (q : pLn f P k bg (nI (lnn + 1)) = none) : V = (lnn + 1, none) := by
  obtain ⟨a1, a2, a3, a4⟩ := a
  rw [e, show N + 1 - lnn = (N - lnn) + 1 by omega, pAll_bad a1 h1 hb (fun j j1 j2 => (a4 j j1 j2).2) he q]
end FWL
