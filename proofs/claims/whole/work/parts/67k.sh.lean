theorem allB_ext {g g' : Nat → Bool} : ∀ n, (∀ j, j < n → g j = g' j) → allB g n = allB g' n := by
  intro n
  induction n with
  | zero => intro _; rfl
  | succ n ih => intro h; rw [allB, allB, ih (fun j hj => h j (by omega)), h n (by omega)]
theorem dgF_n {vd : Int32} {nw : Int64} {n k : Nat} : ¬ dgF vd nw n k < 0 := by
  have h10 : nw.toInt.natAbs / 10 ^ (n - 1 - k) % 10 < 10 := Nat.mod_lt _ (by decide)
  have h3 : ¬ nI (48 + nw.toInt.natAbs / 10 ^ (n - 1 - k) % 10) < 0 := nI_pos (by omega)
  rw [dgF]
  by_cases a1 : vd = 0
  · rw [if_pos a1]; decide
  · rw [if_neg a1]
    by_cases a2 : n < (if nw < 0 then dgc nw.toInt.natAbs + 1 else dgc nw.toInt.natAbs)
    · rw [if_pos a2]; decide
    · rw [if_neg a2]
      by_cases a3 : dgc nw.toInt.natAbs ≤ n - 1 - k
      · rw [if_pos a3]
        by_cases a4 : n - 1 - k = dgc nw.toInt.natAbs ∧ nw < 0
        · rw [if_pos a4]; decide
        · rw [if_neg a4]; decide
      · rw [if_neg a3]; exact h3
theorem nI_sub_neg {a b : Nat} (h : a < b) (hb : b < 2 ^ 30) : nI a - nI b < 0 := by
  rcases Int32.lt_or_le (nI a - nI b) 0 with q | q
  · exact q
  · exfalso
    have e : (nI a - nI b).toInt = (a : Int) - b := by
      rw [Int32.toInt_sub, nI_toInt (by omega), nI_toInt (by omega)]
      exact Int.bmod_eq_of_le (by omega) (by omega)
    have := Int32.le_iff_toInt_le.mp q
    rw [e] at this
    have z : (0 : Int32).toInt = 0 := rfl
    rw [z] at this
    omega
/-- a word's sign, seen from the reference -/
theorem wSg_w {g f : Nat → Int32} {n F c0 co : Nat} (hg : ∀ k, k < n → g k = f (F + k)) (hl : ∀ k, k < n → ∃ c, c < 128 ∧ g k = nI c) (hc0 : c0 ≤ 999999) (hco : co ≤ 40) (hn : n ≤ 4000) :
    wSg g n (nI co - nI c0) = if c0 ≤ co then (if (if co - c0 < n then f (F + (co - c0)) else -1) < 0 then 0 else (if co - c0 < n then f (F + (co - c0)) else -1)) else 0 := by
  unfold wSg
  by_cases a : c0 ≤ co
  · rw [if_pos a, nI_sub a, if_neg (nI_pos (by omega)), nI_clamp (by omega)]
    by_cases w : co - c0 < n
    · obtain ⟨c, h1, h2⟩ := hl _ w
      rw [if_pos (nI_lt w (by omega)), if_pos w, if_neg (by rw [← hg _ w, h2]; exact nI_pos (by omega)), hg _ w]
    · rw [if_neg (nI_nlt (by omega) (by omega)), if_neg w, if_pos (by decide)]
  · rw [if_neg a, if_pos (nI_sub_neg (by omega) (by omega))]
section PCO
variable {dT : Nat → ClassId} {dE z : Nat} {hcv h : vH} {ad : Nat → Nat → Nat} {L : vL} {A : Nat → Nat → Int32} {B : Nat → Nat → Int64} {nv ns np nc : Nat} {pf cb ce cs : Nat → Nat} {c0 : Nat} {lh : Nat → Bool} {ks : Nat → Nat → Int32}
theorem st_of {w F T sz : Nat} (r : wStr dT h ad L (A 6) w F T) (ht : txt (A 6) sz) (hT : T ≤ sz) (hsz : sz ≤ 4000) : ∃ v1 s1 s2 f1, (h w = some (.inr (0, [.ref v1, .int 0, s1, s2])) ∧ h v1 = some (.inl (dT 2, T - F, .inl f1)) ∧ T - F < 2 ^ 30 ∧ ∀ k, k < T - F → ∃ c, c < 128 ∧ f1 k = nI c) ∧ ∀ k, k < T - F → f1 k = A 6 (F + k) := by
  obtain ⟨g, ⟨av, v2, v3, k1, k2⟩, hg⟩ := r
  refine ⟨av, v2, v3, g, ⟨k1.1, k2.1, by omega, fun k hk => ?_⟩, hg⟩
  obtain ⟨c, -, c2, c3⟩ := ht (F + k) (by omega)
  exact ⟨c, c2, by rw [hg k hk, c3]⟩
theorem pc_of {p co sz : Nat} {row lg : Int32} (x : LH z hcv h ad L) (r : RP dT dE h ad L A B nv ns np nc pf cb ce cs c0 lh ks) (hnv : nv ≤ 40) (hp : p < np) (ok : ptOK A B p) (ht : txt (A 6) sz) (hsz : sz ≤ 4000) (h3 : ¬ A 30 p = 2 → (A 36 p).toNatClampNeg ≤ sz ∧ (A 38 p).toNatClampNeg ≤ sz) (hsm : ∀ v, smL (B 18 v)) (hco : co ≤ 40) :
    pcI dT h (ad 16 p) row (nI co) lg (gcV A B lg p row co) (allB (fun k => cnB A B (cb p + k)) (ce p - cb p)) := by
  obtain ⟨r1, r2, r3, r4, r5, r6⟩ := r
  obtain ⟨g1, g2, g3, -⟩ := r5.2.2.1 p hp
  have g4 : c0 ≤ nc := r5.2.2.2.1.1
  have vl : ∀ v, 1 ≤ v → v ≤ nv → h (ad 10 (v - 1)) = some (.inr (8, [.long (nmV A 13 14 v), .int (A 15 v), .long (if A 15 v = 0 then -999999 else B 16 v), .long (if A 15 v = 0 then 999999 else B 17 v), .long (B 18 v), .int (A 19 v)])) := fun v h1 h2 => by
    have q := x.get (r1.2 (v - 1) (by omega))
    rw [show v - 1 + 1 = v by omega] at q
    exact q
  have cv : ∀ k, k < nc → ∃ v, (A 42 k).toNatClampNeg = v ∧ 1 ≤ v ∧ v ≤ nv := fun k hk => by
    obtain ⟨v, v1, v2, v3⟩ := r5.2.2.2.2.1 k hk
    exact ⟨v, by rw [v1, nI_clamp (by omega)], v2, v3⟩
  obtain ⟨⟨k0, e32, hk0⟩, o2, o3⟩ := ok
  refine ⟨A 31 p, A 32 p, cb p, ce p, ad 17, fun c => ad 10 ((A 42 c).toNatClampNeg - 1), fun c => A 43 c, fun c => (B 44 c).toInt32, fun c => A 19 (A 42 c).toNatClampNeg, fun c => B 18 (A 42 c).toNatClampNeg, fun c => .long (nmV A 13 14 (A 42 c).toNatClampNeg), fun c => .int (A 15 (A 42 c).toNatClampNeg), fun c => .long (if A 15 (A 42 c).toNatClampNeg = 0 then -999999 else B 16 (A 42 c).toNatClampNeg), fun c => .long (if A 15 (A 42 c).toNatClampNeg = 0 then 999999 else B 17 (A 42 c).toNatClampNeg), g1, fun k h1 h2 => ⟨?_, ?_⟩, allB_ext _ (fun j hj => ?_), ?_⟩
  · have q := x.get (r4 k (by omega)).1
    rw [g3 k h1 h2] at q
    exact q
  · obtain ⟨v, v1, v2, v3⟩ := cv k (by omega)
    subst v1; exact vl _ v2 v3
  · rw [cnB_hl, (r4 (cb p + j) (by omega)).2]
  · by_cases w : A 30 p = 2
    · obtain ⟨W0, v, e34, hW1, hW2, e33, hv, -⟩ := o2 w
      obtain ⟨v', e33', v1, v2⟩ := r5.2.2.2.2.2.1 p hp w
      have ev : v' = v := nI_eqI (by omega) (by omega) (e33'.symm.trans e33)
      subst ev
      have q := x.get ((r3 p hp).1 w)
      rw [e33, nI_clamp (by omega), e34] at q
      refine Or.inr ⟨ad 10 (v' - 1), W0, B 18 v', A 19 v', _, _, _, _, q, vl v' v1 v2, hsm v', hW1, hW2, ?_⟩
      unfold gcV pvV
      rw [if_pos w, e32, nI_clamp (by omega), e33, nI_clamp (by omega), e34, nI_clamp (by omega)]
      by_cases a : A 31 p = row
      · rw [if_pos a]
        by_cases y : k0 ≤ co
        · rw [if_pos ⟨a, y⟩, nI_sub y, if_neg (nI_pos (by omega)), nI_clamp (by omega)]
          by_cases u : co - k0 < W0
          · rw [if_pos u, if_pos (nI_lt u (by omega)), if_neg dgF_n]
          · rw [if_neg u, if_neg (nI_nlt (by omega) (by omega)), if_pos (by decide)]
        · rw [if_neg (fun q => y q.2), if_pos (nI_sub_neg (by omega) (by omega))]
      · rw [if_neg a, if_neg (fun q => a q.1)]
    · obtain ⟨h36, h38⟩ := h3 w
      obtain ⟨q1, q2, q3, q4, e35, e36, h12, h2, e37, e38, h34, h4⟩ := o3 w
      obtain ⟨w1, w2, kq, ws1, ws2⟩ := (r3 p hp).2 w
      obtain ⟨v1, s1, s2, f1, F1, F2⟩ := st_of ws1 ht h36 hsz
      have m1 : (A 36 p).toNatClampNeg - (A 35 p).toNatClampNeg ≤ 4000 := by omega
      have G1 := wSg_w (co := co) F2 F1.2.2.2 hk0 hco m1
      have gE : ∀ {B1 : Bool} {R : Int32}, scB A lg p = B1 → (if A 31 p = row then (if k0 ≤ co then (if wdV A lg p (co - k0) < 0 then 0 else wdV A lg p (co - k0)) else 0) else 0) = R → gcV A B lg p row co = R := fun {B1 R} _ h => by
        rw [← h]
        unfold gcV pvV
        rw [if_neg w, e32, nI_clamp (by omega)]
        by_cases a : A 31 p = row
        · rw [if_pos a]
          by_cases y : k0 ≤ co
          · rw [if_pos ⟨a, y⟩, if_pos y]
          · rw [if_neg (fun q => y q.2), if_neg y]
        · rw [if_neg a, if_neg (fun q => a q.1)]
      by_cases ow : ownB A p = true
      · rw [if_pos ow] at ws2
        obtain ⟨v2, s3, s4, f2, F3, F4⟩ := st_of ws2 ht h38 hsz
        have m2 : (A 38 p).toNatClampNeg - (A 37 p).toNatClampNeg ≤ 4000 := by omega
        have G2 := wSg_w (co := co) F4 F3.2.2.2 hk0 hco m2
        refine Or.inl ⟨w1, w2, v1, v2, _, _, f1, f2, s1, s2, s3, s4, x.get kq, F1, F3, ?_⟩
        rw [e32, G1, G2]
        by_cases lg1 : lg = 1
        · have es : scB A lg p = true := by
            unfold ownB at ow; rw [Bool.and_eq_true] at ow
            unfold scB; rw [ow.1, ow.2, lg1]; rfl
          refine gE es ?_
          rw [if_pos lg1]
          unfold wdV; rw [if_pos es]
        · have es : scB A lg p = false := by
            unfold scB; rw [decide_eq_false lg1, Bool.false_and, Bool.and_false]
          refine gE es ?_
          rw [if_neg lg1]
          unfold wdV; rw [es, if_neg (show ¬ (false = true) from by decide)]
      · rw [if_neg ow] at ws2
        subst ws2
        refine Or.inl ⟨w2, w2, v1, v1, _, _, f1, f1, s1, s2, s1, s2, x.get kq, F1, F1, ?_⟩
        have es : scB A lg p = false := by
          have ow : ownB A p = false := by simpa using ow
          unfold ownB at ow
          unfold scB
          rw [Bool.and_left_comm, ow, Bool.and_false]
        refine gE es ?_
        rw [e32, ite_self, G1]
        unfold wdV; rw [es, if_neg (show ¬ (false = true) from by decide)]
end PCO
/-- the warning at hand -/
theorem wr_hand {n no W0 : Nat} {rk ac : Nat → Int32} {op : Nat → Nat} (hop : wOp n rk ac op no) (hW : W0 ≤ n) (h0 : W0 = 0 → ∀ k, 1 ≤ k → k ≤ n → ¬ ac k = 0) (h1 : 0 < W0 → ac W0 = 0 ∧ ∀ k, 1 ≤ k → k ≤ n → ac k = 0 → rk k ≤ rk W0) : (0 < W0 ↔ 0 < no) ∧ (0 < no → rk W0 = rk (op 0)) := by
  have e : 0 < W0 ↔ 0 < no := by
    constructor
    · intro q
      obtain ⟨j, j1, -⟩ := hop.2.1 W0 q hW (h1 q).1
      omega
    · intro q
      rcases Nat.eq_zero_or_pos W0 with z | z
      · have o := hop.1 0 q
        exact absurd o.2.2 (h0 z _ o.1 o.2.1)
      · exact z
  refine ⟨e, fun q => ?_⟩
  have w := e.mpr q
  have o := hop.1 0 q
  have a1 := Int32.le_iff_toInt_le.mp ((h1 w).2 _ o.1 o.2.1 o.2.2)
  obtain ⟨j, j1, j2⟩ := hop.2.1 W0 w hW (h1 w).1
  apply Int32.toInt_inj.mp
  rcases Nat.eq_zero_or_pos j with y | y
  · rw [← j2, y]
  · have := hop.2.2 0 j y j1
    rw [j2] at this
    omega
theorem rk_sg {r : Int32} (h0 : 0 ≤ r.toInt) (h1 : r.toInt ≤ 99) : ¬ 48 + r / 10 = 0 ∧ ¬ 48 + (r - r / 10 * 10) = 0 := by
  have : ∀ k : Nat, k ≤ 99 → ¬ 48 + nI k / 10 = 0 ∧ ¬ 48 + (nI k - nI k / 10 * 10) = 0 := by decide +kernel
  obtain ⟨k, hk⟩ : ∃ k : Nat, r.toInt = k := ⟨r.toInt.toNat, by omega⟩
  have er : r = nI k := Int32.toInt_inj.mp (by rw [hk, nI_toInt (by omega)])
  rw [er]; exact this k (by omega)
theorem sg_w {no co : Nat} {p2 r f : Int32} (hr : r = if no = 0 then 0 else if p2 = 0 then 33 else if p2 = 1 then 48 + f / 10 else if p2 = 2 then 48 + (f - f / 10 * 10) else 0) (ep : p2 = nI co) (hco : co ≤ 40) (hf : 0 < no → 0 ≤ f.toInt ∧ f.toInt ≤ 99) :
    (r = 0 → ¬ (0 < no ∧ co < 3)) ∧ (¬ r = 0 → (0 < no ∧ co < 3) ∧ r = if co = 0 then 33 else if co = 1 then 48 + f / 10 else 48 + (f - f / 10 * 10)) := by
  subst ep
  by_cases a : no = 0
  · rw [if_pos a] at hr
    exact ⟨fun _ z => by omega, fun z => absurd hr z⟩
  · rw [if_neg a] at hr
    obtain ⟨f1, f2⟩ := hf (by omega)
    obtain ⟨s1, s2⟩ := rk_sg f1 f2
    have e0 : nI co = 0 ↔ co = 0 := ⟨fun q => nI_eqI (b := 0) (by omega) (by decide) q, fun q => by rw [q]; rfl⟩
    have e1 : nI co = 1 ↔ co = 1 := ⟨fun q => nI_eqI (b := 1) (by omega) (by decide) q, fun q => by rw [q]; rfl⟩
    have e2 : nI co = 2 ↔ co = 2 := ⟨fun q => nI_eqI (b := 2) (by omega) (by decide) q, fun q => by rw [q]; rfl⟩
    by_cases c0 : co = 0
    · rw [if_pos (e0.mpr c0)] at hr
      rw [if_pos c0]
      exact ⟨fun z => absurd (hr.symm.trans z) (by decide), fun _ => ⟨⟨by omega, by omega⟩, hr⟩⟩
    · rw [if_neg (fun z => c0 (e0.mp z))] at hr
      rw [if_neg c0]
      by_cases c1 : co = 1
      · rw [if_pos (e1.mpr c1)] at hr
        rw [if_pos c1]
        exact ⟨fun z => absurd (hr.symm.trans z) s1, fun _ => ⟨⟨by omega, by omega⟩, hr⟩⟩
      · rw [if_neg (fun z => c1 (e1.mp z))] at hr
        rw [if_neg c1]
        by_cases c2 : co = 2
        · rw [if_pos (e2.mpr c2)] at hr
          exact ⟨fun z => absurd (hr.symm.trans z) s2, fun _ => ⟨⟨by omega, by omega⟩, hr⟩⟩
        · rw [if_neg (fun z => c2 (e2.mp z))] at hr
          exact ⟨fun _ z => by omega, fun z => absurd hr z⟩
