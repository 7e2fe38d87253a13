section R16
variable {dT : Nat → ClassId} {dE : Nat} {h h' : vH} {ad : Nat → Nat → Nat} {L : vL} {A : Nat → Nat → Int32} {B : Nat → Nat → Int64} {nv ns np nc : Nat} {pf cb ce cs : Nat → Nat} {c0 : Nat} {lh : Nat → Bool} {ks : Nat → Nat → Int32}
/-- a piece that no screen has yet -/
theorem RP.n16 {q : Nat} {y : va_E} (r : RP dT dE h ad L A B nv ns np nc pf cb ce cs c0 lh ks) (x : LX h ad L h' (lput ad 16 np q) (lput L 16 np (some y))) : RP dT dE h' (lput ad 16 np q) (lput L 16 np (some y)) A B nv ns np nc pf cb ce cs c0 lh ks := by
  obtain ⟨r1, r2, r3, r4, r5, r6⟩ := r
  have a16 : ∀ p, p < np → lput ad 16 np q 16 p = ad 16 p := fun p hp => by simp [lput, show p ≠ np by omega]
  have l16 : ∀ p, p < np → lput L 16 np (some y) 16 p = L 16 p := fun p hp => by simp [lput, show p ≠ np by omega]
  refine ⟨r1, ⟨r2.1, fun s hs => ?_⟩, fun p hp => ?_, r4, r5, r6⟩
  · obtain ⟨q1, q2, q3⟩ := r2.2 s hs
    refine ⟨q1, ?_, q3⟩
    refine q2.kept rfl rfl rfl (fun k hk => a16 _ ?_)
    have h1 := pf_mono r5 (ns - (s + 1)) (s + 1) (by omega)
    rw [show s + 1 + (ns - (s + 1)) = ns by omega, r5.1.2.1] at h1
    omega
  · obtain ⟨q1, q2⟩ := r3 p hp
    rw [l16 p hp]
    refine ⟨q1, fun w => ?_⟩
    obtain ⟨w1, w2, g1, g2⟩ := q2 w
    exact ⟨w1, w2, g1, rPar.str (A' := A) x rfl (fun _ _ => rfl) g2⟩
/-- what pieces are -/
theorem RP.el {z : Nat} {hcv : vH} {fl : Nat → Option Nat} (r : RP dT dE h ad L A B nv ns np nc pf cb ce cs c0 lh ks) (x : LH z hcv h ad L) (hns : 0 < ns) (hf : ∀ k, k < np - pf (ns - 1) → fl k = some (ad 16 (pf (ns - 1) + k))) : elO h fl (np - pf (ns - 1)) := elO_of hf (fun k hk => by
  obtain ⟨q1, q2⟩ := r.2.2.1 (pf (ns - 1) + k) (by omega)
  by_cases w : A 30 (pf (ns - 1) + k) = 2
  · exact ⟨11, _, x.get (q1 w), Or.inr (Or.inr (Or.inr rfl))⟩
  · obtain ⟨w1, w2, g1, -⟩ := q2 w
    exact ⟨10, _, x.get g1, Or.inr (Or.inr (Or.inl rfl))⟩)
end R16
/-- words behind the first don't begin at 0 -/
theorem nF_pos {f : Nat → Int32} {en bg cw j : Nat} {fs fe : Nat → Int32} (hW : lnW f en bg cw fs fe) (hb : bg ≤ en) (hj : 0 < j) (hj2 : j < cw) : 0 < nF f en (wP f en bg j) := by
  have h1 : nF f en (wP f en bg 0) < nT f en (wP f en bg 0) := of_decide_eq_true (hW.2.1 0 (by omega))
  have h2 : ∀ d, wP f en bg 1 ≤ wP f en bg (1 + d) := by
    intro d
    induction d with
    | zero => exact Nat.le_refl _
    | succ d ih =>
      have h3 := wP_in (f := f) hb (1 + d)
      have h4 := nF_in f h3.2
      have h5 := nT_in f h3.2
      show wP f en bg 1 ≤ nT f en (wP f en bg (1 + d))
      omega
  have h3 := h2 (j - 1)
  rw [show 1 + (j - 1) = j by omega] at h3
  have h4 := nF_in f (wP_in (f := f) hb j).2
  have h5 : wP f en bg 1 = nT f en (wP f en bg 0) := rfl
  omega
theorem own_no {z : Nat} {hcv h : vH} {ad : Nat → Nat → Nat} {L : vL} {b : Nat} (x : LH z hcv h ad L) (q : h b = none) : ¬ vOwn ad L b := by
  rintro ⟨i, j, e, w, r⟩
  have := x.get w
  rw [r, q] at this
  cases this
