/-! THE LAW: the class and the reference side by side -/
section LWT
variable {S0 : State} {dT : Nat → ClassId} {dE z cap : Nat} {hcv h0 h h1 h2 : vH} {ad0 ad ad1 : Nat → Nat → Nat} {L0 L L1 : vL} {x x' : Nat → Int32} {y y' : Nat → Int64} {A A' : Nat → Nat → Int32} {B B' : Nat → Nat → Int64} {nv ns np nc : Nat} {pf cb ce cs : Nat → Nat} {c0 : Nat} {lh : Nat → Bool} {ks : Nat → Nat → Int32}
theorem RP.to2 (r : RP dT dE h ad L A B nv ns np nc pf cb ce cs c0 lh ks) (lx : LX h ad L h1 ad1 L1) (hk : ∀ i, i ≤ 49 → L1 i = L i ∧ ad1 i = ad i) : RP dT dE h1 ad1 L1 A B nv ns np nc pf cb ce cs c0 lh ks := by
  obtain ⟨r1, r2, r3, r4, r5⟩ := r
  have c : ∀ {i i1 j n : Nat} {g g' : Nat → Nat}, i ≤ 49 → i1 ≤ 49 → g' = g → rLst dT dE ad L i i1 j n g → rLst dT dE ad1 L1 i i1 j n g' := fun k1 k2 k3 r => r.kept (by rw [(hk _ k1).1]) (by rw [(hk _ k2).1]) (by rw [(hk _ k2).2]) (fun k _ => by rw [k3])
  have a10 := (hk 10 (by decide)).2
  have a16 := (hk 16 (by decide)).2
  have a17 := (hk 17 (by decide)).2
  refine ⟨⟨c (by decide) (by decide) a10 r1.1, fun v hv => ?_⟩, ⟨c (by decide) (by decide) (hk 11 (by decide)).2 r2.1, fun s hs => ?_⟩, fun p hp => ?_, fun w hw => ?_, r5⟩
  · rw [(hk 10 (by decide)).1]; exact r1.2 v hv
  · obtain ⟨q1, q2, q3, q4⟩ := r2.2 s hs
    rw [(hk 11 (by decide)).1, (hk 12 (by decide)).2, (hk 14 (by decide)).2, (hk 15 (by decide)).2, (hk 14 (by decide)).1, (hk 15 (by decide)).1]
    exact ⟨q1, c (by decide) (by decide) (by rw [a16]) q2, q3, q4⟩
  · have e : chn ad1 (cb p) (ce p) = chn ad (cb p) (ce p) := by rw [chn, chn, a17]
    obtain ⟨q1, q2⟩ := r3 p hp
    rw [e, a10, (hk 16 (by decide)).1]
    refine ⟨q1, fun w => ?_⟩
    obtain ⟨w1, w2, g1, g2, g3⟩ := q2 w
    refine ⟨w1, w2, g1, g2.lx lx, ?_⟩
    by_cases y : ownB A p = true
    · rw [if_pos y] at g3 ⊢; exact g3.lx lx
    · rw [if_neg y] at g3 ⊢; exact g3
  · rw [a10, a17, (hk 17 (by decide)).1]; exact r4 w hw
theorem CR.to (hC : CR dT dE h ad L cap x y A B) (lx : LX h ad L h1 ad1 L1) (hk : ∀ i, i ≤ 49 → L1 i = L i ∧ ad1 i = ad i) : CR dT dE h1 ad1 L1 cap x y A B := by
  obtain ⟨⟨sp, bl, t1, t2⟩, c2, ⟨n3, e3, b3⟩, ⟨n5, e5, w5⟩, ⟨nr, e4, p4⟩, re, li, ⟨nv, ns, np, nc, pf, cb, ce, cs, c0, lh, d1, d2, d3, d4⟩, c9⟩ := hC
  have k0 := hk 0 (by decide)
  have k1 := hk 1 (by decide)
  have k2 := hk 2 (by decide)
  have k3 := hk 3 (by decide)
  have k4 := hk 4 (by decide)
  have k5 := hk 5 (by decide)
  have k6 := hk 6 (by decide)
  have k7 := hk 7 (by decide)
  have k8 := hk 8 (by decide)
  refine ⟨⟨sp, bl, ?_, t2⟩, c2, ⟨n3, e3, ?_⟩, ⟨n5, e5, ?_⟩, ⟨nr, e4, ?_⟩, ?_, ?_, ⟨nv, ns, np, nc, pf, cb, ce, cs, c0, lh, d1, d2, d3.to2 lx hk, d4⟩, c9⟩
  · unfold cTop; rw [k0.1, k1.2, k2.2, k6.2, k8.2]; exact t1
  · unfold cBld; rw [k1.1, k1.2]; exact b3
  · unfold cWrn; rw [k8.1, k8.2]; exact w5
  · unfold cPla; rw [k2.1, k3.2, k4.2, k5.2, k5.1]; exact p4
  · unfold cRea; rw [k6.1, k2.2, k7.2]; exact re
  · unfold cLin; rw [k7.1, k7.2]; exact li
theorem cMod.kp (m : cMod dT ad L x y A B) (k : kpF ad L ad1 L1) : cMod dT ad1 L1 x y A B := by
  unfold cMod
  rw [(k.1 50 (by decide)).1, (k.1 51 (by decide)).1, (k.1 51 (by decide)).2]; exact m
/-- the reference where it was, behind a call of the class -/
theorem lw_mid (m : cMod dT ad L x y A B) (q : LR S0.heap.size hcv h ad L h1 ad1 L1) (k : kpF ad L ad1 L1) : MV S0 dT h1 (ad 50 0) (ad 51) x y A B := by
  have w := (m.kp k).mv q.1
  rw [(k.1 50 (by decide)).2, (k.1 51 (by decide)).2] at w; exact w
/-- behind the reference's call -/
theorem lw_end (m : cMod dT ad L x y A B) (q : LR S0.heap.size hcv h ad L h1 ad1 L1) (k : kpF ad L ad1 L1) (M : MR S0 dT h1 h2 (ad 50 0) (ad 51) x' y' A' B') (hC : CR dT dE h1 ad1 L1 cap x' y' A' B') : ∃ L2, LH S0.heap.size hcv h2 ad1 L2 ∧ CR dT dE h2 ad1 L2 cap x' y' A' B' ∧ cMod dT ad1 L2 x' y' A' B' := by
  rw [← (k.1 50 (by decide)).2, ← (k.1 51 (by decide)).2] at M
  have w := LR_mod (LR.of q.1) (m.kp k) M
  exact ⟨_, w.1, hC.to w.2 (fun i hi => ⟨funext (fun j => by unfold lMod; rw [if_neg (by omega), if_neg (by omega)]), rfl⟩), cMod_l⟩
/-- between two calls of the law: k calls are done, cu cells of su slots made -/
def lwI (z : Nat) (dT : Nat → ClassId) (dE : Nat) (hcv h : vH) (ad : Nat → Nat → Nat) (L : vL) (cap : Nat) (x : Nat → Int32) (y : Nat → Int64) (A : Nat → Nat → Int32) (B : Nat → Nat → Int64) (k cu su : Nat) : Prop := LH z hcv h ad L ∧ CR dT dE h ad L cap x y A B ∧ cMod dT ad L x y A B ∧ (∃ n0, x 3 = nI n0 ∧ n0 ≤ 4000 ∧ n0 ≤ cap ∧ cap ≤ 8002 ∧ cu + 8 * n0 ≤ 52 + 36 * k ∧ su + 1201 * n0 ≤ 18149 + 2 * cap + 4804 * k) ∧ ∃ me ce, y 56 = lN me ∧ y 57 = lN ce ∧ me ≤ 1000000000 * k ∧ ce ≤ 1000000000 * k
variable {L2 : vL} {k cu su : Nat}
theorem lwI.nx (I : lwI z dT dE hcv h ad L cap x y A B k cu su) (q : LH z hcv h2 ad1 L2 ∧ CR dT dE h2 ad1 L2 cap x' y' A' B' ∧ cMod dT ad1 L2 x' y' A' B') (e3 : x' 3 = x 3) (e6 : y' 56 = y 56) (e7 : y' 57 = y 57) : lwI z dT dE hcv h2 ad1 L2 cap x' y' A' B' (k + 1) (cu + 0 + 0) (su + 0 + 0) := by
  obtain ⟨-, -, -, ⟨n0, a1, a2, a3, a4, a5, a6⟩, me, ce, b1, b2, b3, b4⟩ := I
  exact ⟨q.1, q.2.1, q.2.2, ⟨n0, e3.trans a1, a2, a3, a4, by omega, by omega⟩, me, ce, e6.trans b1, e7.trans b2, by omega, by omega⟩
theorem lwI.rd (I : lwI z dT dE hcv h ad L cap x y A B k cu su) {n0 : Nat} (hn : x 3 = nI n0) (hn4 : n0 ≤ 4000) (q : LH z hcv h2 ad1 L2 ∧ CR dT dE h2 ad1 L2 cap x' y' A' B' ∧ cMod dT ad1 L2 x' y' A' B') (e3 : x' 3 = 0) (ey : ∀ k, k ≠ 11 → y' k = y k) : lwI z dT dE hcv h2 ad1 L2 cap x' y' A' B' (k + 1) (cu + (2 + 8 * (n0 + 1)) + 0) (su + (4 + n0 + 1200 * (n0 + 1)) + 0) := by
  obtain ⟨-, -, -, ⟨n1, a1, a2, a3, a4, a5, a6⟩, me, ce, b1, b2, b3, b4⟩ := I
  have e : n1 = n0 := nI_eqI (by omega) (by omega) (a1.symm.trans hn)
  subst e
  exact ⟨q.1, q.2.1, q.2.2, ⟨0, e3, by omega, by omega, a4, by omega, by omega⟩, me, ce, (ey 56 (by decide)).trans b1, (ey 57 (by decide)).trans b2, by omega, by omega⟩
theorem lwI.sg (I : lwI z dT dE hcv h ad L cap x y A B k cu su) {n0 : Nat} {p1 : Int32} (hn : x 3 = nI n0) (hn4 : n0 ≤ 4000) (q : LH z hcv h2 ad1 L2 ∧ CR dT dE h2 ad1 L2 (cpS p1 n0 (A 4) cap 4) x' y A' B' ∧ cMod dT ad1 L2 x' y A' B') (e3 : x' = upd (upd x 0 0) 3 (nI (sgN p1 n0 (A 4) 4).1)) : lwI z dT dE hcv h2 ad1 L2 (cpS p1 n0 (A 4) cap 4) x' y A' B' (k + 1) (cu + 4 + 0) (su + 2 * (cpS p1 n0 (A 4) cap 4 - cap) + 0) := by
  obtain ⟨-, -, -, ⟨n1, a1, a2, a3, a4, a5, a6⟩, me, ce, b1, b2, b3, b4⟩ := I
  have e : n1 = n0 := nI_eqI (by omega) (by omega) (a1.symm.trans hn)
  subst e
  have w1 := sgN_le (c := p1) (t0 := A 4) a2 4
  have w2 := cpS_le (c := p1) (t0 := A 4) a2 a3 a4 4
  exact ⟨q.1, q.2.1, q.2.2, ⟨_, by rw [e3, pk_us], w1.2.1, w2.2.1, w2.2.2, by omega, by omega⟩, me, ce, b1, b2, by omega, by omega⟩
theorem l_rng {v : Int64} (h1 : ¬ v < 0) (h2 : ¬ 1000000000 < v) : ∃ j, v = lN j ∧ j ≤ 1000000000 := by
  rw [Int64.lt_iff_toInt_lt] at h1 h2
  have e1 : (0 : Int64).toInt = 0 := by decide
  have e2 : (1000000000 : Int64).toInt = 1000000000 := by decide
  refine ⟨v.toInt.toNat, Int64.toInt_inj.mp ?_, by omega⟩
  rw [lN_toInt (by omega)]; omega
theorem lwI.tp (I : lwI z dT dE hcv h ad L cap x y A B k cu su) {p1 p2 : Int64} (g : ¬ p1 < 0 ∧ ¬ 1000000000 < p1 ∧ ¬ p2 < 0 ∧ ¬ 1000000000 < p2) (q : LH z hcv h2 ad1 L2 ∧ CR dT dE h2 ad1 L2 cap x' y' A' B' ∧ cMod dT ad1 L2 x' y' A' B') (e3 : x' 3 = x 3) (ey : y' = vp_updL (vp_updL y 56 (y 56 + p1)) 57 (y 57 + p2)) : lwI z dT dE hcv h2 ad1 L2 cap x' y' A' B' (k + 1) (cu + 0 + 0) (su + 0 + 0) := by
  obtain ⟨-, -, -, ⟨n0, a1, a2, a3, a4, a5, a6⟩, me, ce, b1, b2, b3, b4⟩ := I
  obtain ⟨j1, c1, c2⟩ := l_rng g.1 g.2.1
  obtain ⟨j2, c3, c4⟩ := l_rng g.2.2.1 g.2.2.2
  exact ⟨q.1, q.2.1, q.2.2, ⟨n0, e3.trans a1, a2, a3, a4, by omega, by omega⟩, me + j1, ce + j2, by rw [ey, pk_uLn (by decide), pk_uLs, b1, c1, lN_add], by rw [ey, pk_uLs, b2, c3, lN_add], by omega, by omega⟩
/-- the sum's answer -/
theorem sum_eq {p1 p2 : Int32} {r r' u v : Int64} {me ce : Nat} (a : p1 = 0 ∧ r = u ∨ p1 = 1 ∧ r = v ∨ (¬ p1 = 0 ∧ ¬ p1 = 1 ∧ ¬ p1 = 2) ∧ r = -2 ∨ p1 = 2 ∧ (me = 0 ∧ r = 0 ∨ 0 < me ∧ (p2 = 0 ∧ r = lN (ce * 1000 / Nat.gcd (ce * 1000) me) ∨ ¬ p2 = 0 ∧ r = lN (me / Nat.gcd (ce * 1000) me)))) (b : (p1 < 0 ∨ 2 < p1) ∧ r' = -2 ∨ p1 = 0 ∧ r' = u ∨ p1 = 1 ∧ r' = v ∨ p1 = 2 ∧ (me = 0 ∧ r' = 0 ∨ 0 < me ∧ (p2 = 0 ∧ r' = lN (ce * 1000 / Nat.gcd (ce * 1000) me) ∨ ¬ p2 = 0 ∧ r' = lN (me / Nat.gcd (ce * 1000) me)))) : r = r' := by
  rcases b with ⟨b1, b2⟩ | ⟨b1, b2⟩ | ⟨b1, b2⟩ | ⟨b1, b2⟩
  · rcases a with ⟨a1, a2⟩ | ⟨a1, a2⟩ | ⟨a1, a2⟩ | ⟨a1, a2⟩
    · subst a1; exact absurd b1 (by decide)
    · subst a1; exact absurd b1 (by decide)
    · rw [a2, b2]
    · subst a1; exact absurd b1 (by decide)
  · rcases a with ⟨a1, a2⟩ | ⟨a1, a2⟩ | ⟨a1, a2⟩ | ⟨a1, a2⟩
    · rw [a2, b2]
    · rw [b1] at a1; exact absurd a1 (by decide)
    · exact absurd b1 a1.1
    · rw [b1] at a1; exact absurd a1 (by decide)
  · rcases a with ⟨a1, a2⟩ | ⟨a1, a2⟩ | ⟨a1, a2⟩ | ⟨a1, a2⟩
    · rw [b1] at a1; exact absurd a1 (by decide)
    · rw [a2, b2]
    · exact absurd b1 a1.2.1
    · rw [b1] at a1; exact absurd a1 (by decide)
  · rcases a with ⟨a1, a2⟩ | ⟨a1, a2⟩ | ⟨a1, a2⟩ | ⟨a1, a2⟩
    · rw [b1] at a1; exact absurd a1 (by decide)
    · rw [b1] at a1; exact absurd a1 (by decide)
    · exact absurd b1 a1.2.2
    · rcases a2 with ⟨a3, a4⟩ | ⟨a3, ⟨a4, a5⟩ | ⟨a4, a5⟩⟩ <;> rcases b2 with ⟨b3, b4⟩ | ⟨b3, ⟨b4, b5⟩ | ⟨b4, b5⟩⟩
      · rw [a4, b4]
      · omega
      · omega
      · omega
      · rw [a5, b5]
      · exact absurd a4 b4
      · omega
      · exact absurd b4 a4
      · rw [a5, b5]
/-- what shown asks of the reference's state -/
theorem CR.shw (hC : CR dT dE h ad L cap x y A B) : ∃ n la hh wd0 pr np nc, (x 50 = nI n ∧ n ≤ 200 ∧ y 54 = lN la ∧ la < 2 ^ 63) ∧ (∀ i j, 1 ≤ i → i ≤ j → j ≤ n → B 52 i ≤ B 52 j) ∧ (∀ k, 1 ≤ k → k ≤ n → 0 ≤ A 51 k) ∧ (x 1 = nI hh ∧ hh ≤ 40 ∧ x 2 = nI wd0 ∧ wd0 ≤ 40 ∧ x 45 = nI pr ∧ pr ≤ 30) ∧ (0 < pr → x 28 = nI np) ∧ np ≤ 512 ∧ (0 < pr → ∀ p, p < np → ptOK A B p) ∧ (0 < pr → x 39 = nI nc) ∧ nc ≤ 512 ∧ (0 < pr → ∀ c, c < nc → ∃ v, A 42 c = nI v ∧ v ≤ 40) := by
  obtain ⟨-, ⟨hh, ww, d1, d2, d3, d4, d5, d6⟩, -, ⟨n, e5, w5⟩, -, -, -, ⟨nv, ns, np, nc, pf, cb, ce, cs, c0, lh, f1, ⟨pr, f2, f3, f4⟩, f5, f6, -⟩, -⟩ := hC
  obtain ⟨no, op, fr, ft, fo, -, -, -, -, g1, -, -, -, g2, g3, -, g5⟩ := w5
  have f12 := f1.2.1
  have f14 := f1.2.2.2
  have q0 : y 54 = lN (y 54).toInt.toNat := Int64.toInt_inj.mp (by
    show (y 54).toInt = (Int64.ofNat (y 54).toInt.toNat).toInt
    rw [Int64.toInt_ofNat_of_lt (by have := (y 54).toInt_lt; omega)]; omega)
  have hm : (y 54).toInt.toNat < 2 ^ 63 := by have := (y 54).toInt_lt; omega
  have hr : ∀ k, 1 ≤ k → k ≤ n → 0 ≤ A 51 k := fun k a b => Int32.le_iff_toInt_le.mpr (by
    have := (g1 k a b).2.2.1
    have e1 : (0 : Int32).toInt = 0 := by decide
    omega)
  by_cases hp : 0 < pr
  · obtain ⟨t1, t2, t3, t4, t5, -⟩ := f6 (by omega)
    exact ⟨n, _, hh, ww, pr, np, nc, ⟨e5, g3, q0, hm⟩, g2, hr, ⟨d1, d3, d4, d6, f2, by omega⟩, fun _ => t1, t3, fun _ => t5, fun _ => t2, t4, fun _ c hc => by
      obtain ⟨v, v1, -, v2⟩ := f5.2.2.2.2.1.2.2.2.2.1 c hc
      exact ⟨v, v1, by omega⟩⟩
  · exact ⟨n, _, hh, ww, pr, 0, 0, ⟨e5, g3, q0, hm⟩, g2, hr, ⟨d1, d3, d4, d6, f2, by omega⟩, fun z => absurd z hp, by decide, fun z => absurd z hp, fun z => absurd z hp, by decide, fun z => absurd z hp⟩
end LWT
/-- the loop's test -/
theorem lw_le {n i : Nat} (hn : n ≤ 2562) (hi : i ≤ 2600) (h : ¬ nI n - 5 < nI i) : i + 5 ≤ n := by
  rcases Nat.lt_or_ge n 5 with w | w
  · exfalso
    apply h
    rw [Int32.lt_iff_toInt_lt, nI_toInt (n := i) (by omega)]
    have q : (nI n - 5).toInt < 0 := by
      match n, w with
      | 0, _ => decide
      | 1, _ => decide
      | 2, _ => decide
      | 3, _ => decide
      | 4, _ => decide
    omega
  · have e : nI n - 5 = nI (n - 5) := nI_sub (b := 5) w
    rw [e] at h
    have := (nI_leI (by omega) (by omega)).mp (Int32.not_lt.mp h)
    omega
