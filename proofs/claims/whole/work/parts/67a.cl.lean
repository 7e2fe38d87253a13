/-- the class's object stays where it is, and what is not the class's stays -/
def kpF (ad : Nat → Nat → Nat) (L : vL) (ad' : Nat → Nat → Nat) (L' : vL) : Prop := (∀ i, 49 < i → L' i = L i ∧ ad' i = ad i) ∧ ad' 0 0 = ad 0 0
/-- what a call of the class did: for each step ST of the reference the same answer, and the class holds its state again -/
def clP (dT : Nat → ClassId) (dE z : Nat) (hcv h0 : vH) (ad : Nat → Nat → Nat) (L : vL) (cap : Nat) (ST : Int32 → (Nat → Int32) → (Nat → Int64) → (Nat → Nat → Int32) → (Nat → Nat → Int64) → Prop) (r : Int32) (h' : vH) : Prop := ∃ ad' L', LR z hcv h0 ad L h' ad' L' ∧ kpF ad L ad' L' ∧ ∀ r' x' y' A' B', ST r' x' y' A' B' → r = r' ∧ CR dT dE h' ad' L' cap x' y' A' B'
section CRS
variable {dT : Nat → ClassId} {dE z cap : Nat} {hcv h0 h h' : vH} {ad : Nat → Nat → Nat} {L L' : vL} {x x' : Nat → Int32} {y y' : Nat → Int64} {A : Nat → Nat → Int32} {B : Nat → Nat → Int64} {g : Nat → Int32}
/-- the object's own fields alone are other ones -/
theorem CR.top {e' : va_E} (hC : CR dT dE h ad L cap x y A B) (hL : L' = lput L 0 0 (some e')) (lx : LX h ad L h' ad L') (hx : ∀ k, k ≠ 0 → k ≠ 45 → k ≠ 46 → k ≠ 55 → x' k = x k) (hy : y' 54 = y 54) (ht : ∃ sp bl, cTop ad L' x' y' sp bl ∧ (y' 47 = sp.toInt64 ∧ 0 ≤ sp.toInt ∧ sp.toInt ≤ 999) ∧ lmp bl g) (hp : ∀ ns, x 20 = nI ns → ns ≤ 30 → (∃ pr, x 45 = nI pr ∧ pr ≤ ns ∧ (0 < ns → 0 < pr)) → ∃ pr, x' 45 = nI pr ∧ pr ≤ ns ∧ (0 < ns → 0 < pr)) : CR dT dE h' ad L' cap x' y' (va_up A 58 g) B := by
  obtain ⟨-, c2, c3, c4, c5, c6, c7, ⟨nv, ns, np, nc, pf, cb, ce, cs, c0, lh, d1, d2, d3, d4, d5⟩, c9, c10⟩ := hC
  have e1 := hx 1 (by decide) (by decide) (by decide) (by decide)
  have e2 := hx 2 (by decide) (by decide) (by decide) (by decide)
  have e3 := hx 3 (by decide) (by decide) (by decide) (by decide)
  have e12 := hx 12 (by decide) (by decide) (by decide) (by decide)
  have e20 := hx 20 (by decide) (by decide) (by decide) (by decide)
  have e28 := hx 28 (by decide) (by decide) (by decide) (by decide)
  have e39 := hx 39 (by decide) (by decide) (by decide) (by decide)
  have e48 := hx 48 (by decide) (by decide) (by decide) (by decide)
  have e50 := hx 50 (by decide) (by decide) (by decide) (by decide)
  subst hL
  refine ⟨ht, ?_, ?_, ?_, ?_, c6, c7, ⟨nv, ns, np, nc, pf, cb, ce, cs, c0, lh, ?_, hp ns d1.2.2.1 d1.2.2.2 d2, ?_, ?_, d5⟩, c9, c10⟩
  · rw [e1, e2]; exact c2
  · rw [e3]; exact c3
  · rw [e50, hy]; exact c4
  · rw [e48]; exact c5
  · rw [e12, e20]; exact d1
  · exact d3.to lx (fun i hi => ⟨lput_k _ _ (by omega), rfl⟩)
  · unfold cTxt
    rw [e28, e39]; exact d4
/-- nothing is other than the reference's mark -/
theorem CR.same (hC : CR dT dE h ad L cap x y A B) : CR dT dE h ad L cap (upd x 0 0) y A B := hC
end CRS
theorem l01 {p : Int32} (h1 : ¬ p < 0) (h2 : ¬ 1 < p) : p = 0 ∨ p = 1 := by
  have a1 : ¬ p.toInt < 0 := fun y => h1 (Int32.lt_iff_toInt_lt.mpr y)
  have a2 : ¬ 1 < p.toInt := fun y => h2 (Int32.lt_iff_toInt_lt.mpr y)
  by_cases w : p.toInt = 0
  · exact Or.inl (Int32.toInt_inj.mp w)
  · exact Or.inr (Int32.toInt_inj.mp (show p.toInt = 1 by omega))
