/-! THE LAW: the class and the reference side by side -/
section LWT
variable {S0 : State} {dT : Nat → ClassId} {dE z cap : Nat} {hcv h0 h h1 h2 : vH} {ad0 ad ad1 : Nat → Nat → Nat} {L0 L L1 : vL} {x x' : Nat → Int32} {y y' : Nat → Int64} {A A' : Nat → Nat → Int32} {B B' : Nat → Nat → Int64} {nv ns np nc : Nat} {pf cb ce cs : Nat → Nat} {c0 : Nat} {lh : Nat → Bool} {ks : Nat → Nat → Int32}
theorem RP.to2 (r : RP dT dE h ad L A B nv ns np nc pf cb ce cs c0 lh ks) (lx : LX h ad L h1 ad1 L1) (hk : ∀ i, i ≤ 49 → L1 i = L i ∧ ad1 i = ad i) : RP dT dE h1 ad1 L1 A B nv ns np nc pf cb ce cs c0 lh ks := by
  obtain ⟨r1, r2, r3, r4, r5⟩ := r
  have c : ∀ {i i1 j n : Nat} {g g' : Nat → Nat}, i ≤ 49 → i1 ≤ 49 → g' = g → rLst dT dE ad L i i1 j n g → rLst dT dE ad1 L1 i i1 j n g' := fun k1 k2 k3 r => r.kept (by rw [(hk _ k1).1]) (by rw [(hk _ k2).1]) (by rw [(hk _ k2).2]) (fun k _ => by rw [k3])
  have a10 := (hk 10 (by decide)).2
  have a16 := (hk 16 (by decide)).2
  have a17 := (hk 17 (by decide)).2
  refine ⟨⟨c (by decide) (by decide) a10 r1.1, fun v hv => ?_⟩, ⟨c (by decide) (by decide) (hk 11 (by decide)).2 r2.1, fun s hs => ?_⟩, fun p hp => ?_, fun w hw => ?_, r5⟩
  · rw [(hk 10 (by decide)).1]; exact r1.2 v hv
  · obtain ⟨q1, q2, q3, q4⟩ := r2.2 s hs
    rw [(hk 11 (by decide)).1, (hk 12 (by decide)).2, (hk 14 (by decide)).2, (hk 15 (by decide)).2, (hk 14 (by decide)).1, (hk 15 (by decide)).1]
    exact ⟨q1, c (by decide) (by decide) (by rw [a16]) q2, q3, q4⟩
  · have e : chn ad1 (cb p) (ce p) = chn ad (cb p) (ce p) := by rw [chn, chn, a17]
    obtain ⟨q1, q2⟩ := r3 p hp
    rw [e, a10, (hk 16 (by decide)).1]
    refine ⟨q1, fun w => ?_⟩
    obtain ⟨w1, w2, g1, g2, g3⟩ := q2 w
    refine ⟨w1, w2, g1, g2.lx lx, ?_⟩
    by_cases y : ownB A p = true
    · rw [if_pos y] at g3 ⊢; exact g3.lx lx
    · rw [if_neg y] at g3 ⊢; exact g3
  · rw [a10, a17, (hk 17 (by decide)).1]; exact r4 w hw
theorem CR.to (hC : CR dT dE h ad L cap x y A B) (lx : LX h ad L h1 ad1 L1) (hk : ∀ i, i ≤ 49 → L1 i = L i ∧ ad1 i = ad i) : CR dT dE h1 ad1 L1 cap x y A B := by
  obtain ⟨⟨sp, bl, t1, t2⟩, c2, ⟨n3, e3, b3⟩, ⟨n5, e5, w5⟩, ⟨nr, e4, p4⟩, re, li, ⟨nv, ns, np, nc, pf, cb, ce, cs, c0, lh, d1, d2, d3, d4⟩, c9⟩ := hC
  have k0 := hk 0 (by decide)
  have k1 := hk 1 (by decide)
  have k2 := hk 2 (by decide)
  have k3 := hk 3 (by decide)
  have k4 := hk 4 (by decide)
  have k5 := hk 5 (by decide)
  have k6 := hk 6 (by decide)
  have k7 := hk 7 (by decide)
  have k8 := hk 8 (by decide)
  refine ⟨⟨sp, bl, ?_, t2⟩, c2, ⟨n3, e3, ?_⟩, ⟨n5, e5, ?_⟩, ⟨nr, e4, ?_⟩, ?_, ?_, ⟨nv, ns, np, nc, pf, cb, ce, cs, c0, lh, d1, d2, d3.to2 lx hk, d4⟩, c9⟩
  · unfold cTop; rw [k0.1, k1.2, k2.2, k6.2, k8.2]; exact t1
  · unfold cBld; rw [k1.1, k1.2]; exact b3
  · unfold cWrn; rw [k8.1, k8.2]; exact w5
  · unfold cPla; rw [k2.1, k3.2, k4.2, k5.2, k5.1]; exact p4
  · unfold cRea; rw [k6.1, k2.2, k7.2]; exact re
  · unfold cLin; rw [k7.1, k7.2]; exact li
theorem cMod.kp (m : cMod dT ad L x y A B) (k : kpF ad L ad1 L1) : cMod dT ad1 L1 x y A B := by
  unfold cMod
  rw [(k.1 50 (by decide)).1, (k.1 51 (by decide)).1, (k.1 51 (by decide)).2]; exact m
/-- behind the reference's call -/
theorem lw_end (r : LR S0.heap.size hcv h0 ad0 L0 h1 ad1 L1) (m : cMod dT ad1 L1 x y A B) (M : MR S0 dT h1 h2 (ad1 50 0) (ad1 51) x' y' A' B') (hC : CR dT dE h1 ad1 L1 cap x' y' A' B') : ∃ L2, LH S0.heap.size hcv h2 ad1 L2 ∧ CR dT dE h2 ad1 L2 cap x' y' A' B' ∧ cMod dT ad1 L2 x' y' A' B' := by
  have q := LR_mod (LR.of r.1) m M
  exact ⟨_, q.1, hC.to q.2 (fun i hi => ⟨funext (fun j => by unfold lMod; rw [if_neg (by omega), if_neg (by omega)]), rfl⟩), cMod_l⟩
end LWT
