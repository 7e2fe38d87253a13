theorem RP.ks {dT : Nat → ClassId} {dE : Nat} {h : vH} {ad : Nat → Nat → Nat} {L : vL} {A : Nat → Nat → Int32} {B : Nat → Nat → Int64} {nv ns np nc : Nat} {pf cb ce cs : Nat → Nat} {c0 : Nat} {lh lh' : Nat → Bool} {ks ks' : Nat → Nat → Int32} (r : RP dT dE h ad L A B nv ns np nc pf cb ce cs c0 lh ks) (e : ∀ s k, 1 ≤ s → s ≤ ns → 1 ≤ k → k ≤ 9 → ks' s k = ks s k) (e2 : ∀ s, 1 ≤ s → s ≤ ns → lh' s = lh s) : RP dT dE h ad L A B nv ns np nc pf cb ce cs c0 lh' ks' := by
  obtain ⟨r1, r2, r3⟩ := r
  refine ⟨r1, ⟨r2.1, fun s hs => ?_⟩, r3⟩
  obtain ⟨q1, q2, q3, ⟨g, q4, q5⟩, q6⟩ := r2.2 s hs
  exact ⟨by rw [e2 (s + 1) (by omega) (by omega)]; exact q1, q2, q3, ⟨g, q4, fun k k1 k2 => (q5 k k1 k2).trans (e (s + 1) k (by omega) (by omega) k1 k2).symm⟩, q6⟩
