section WRN
variable {dT : Nat → ClassId} {dE cap n no : Nat} {h h' : vH} {ad : Nat → Nat → Nat} {L L' : vL} {x x' : Nat → Int32} {y y' : Nat → Int64} {A : Nat → Nat → Int32} {B : Nat → Nat → Int64} {a1 a2 fr fo f2 rk ac : Nat → Int32} {b1 tm ft : Nat → Int64} {op : Nat → Nat} {la : Int64}
theorem CR.wrn (hC : CR dT dE h ad L cap x y A B) (hL : ∀ i, i ≠ 8 → L' i = L i) (lx : LX h ad L h' ad L') (hx : ∀ k, k ≠ 0 → k ≠ 50 → x' k = x k) (hy : ∀ k, k ≠ 54 → y' k = y k) (hw : ∃ n, x' 50 = nI n ∧ cWrn dT ad L' n (y' 54) a1 a2 b1) : CR dT dE h' ad L' cap x' y' (va_up (va_up A 51 a1) 53 a2) (va_up B 52 b1) := by
  obtain ⟨⟨sp, bl, c1, c1b, c1c⟩, c2, ⟨n3, c3, f, ml, c3a, c3b, c3c⟩, -, ⟨nr, c5, c5a, c5b, f5, c5c, c5d⟩, ⟨sc, pe, c6⟩, ⟨t, cc, g1, g2, c7a, c7b, c7c⟩, ⟨nv, ns, np, nc, pf, cb, ce, cs, c0, lh, d1, d2, d3, d4, d5⟩, c9, c10⟩ := hC
  have e := fun k (p : k ≠ 0 ∧ k ≠ 50) => hx k p.1 p.2
  refine ⟨⟨sp, bl, ?_, ?_, c1c⟩, ?_, ⟨n3, ?_, f, ml, ?_, ?_, c3c⟩, hw, ⟨nr, ?_, ?_, c5b, f5, ?_, c5d⟩, ⟨sc, pe, ?_⟩, ⟨t, cc, g1, g2, ?_, ?_, ?_⟩, ⟨nv, ns, np, nc, pf, cb, ce, cs, c0, lh, ?_, ?_, d3.to lx (fun i hi => ⟨hL i (by omega), rfl⟩), ?_, d5⟩, c9, c10⟩
  · unfold cTop
    rw [hL 0 (by decide), e 1 (by decide), e 2 (by decide), e 45 (by decide), e 46 (by decide), e 55 (by decide), hy 56 (by decide), hy 57 (by decide)]; exact c1
  · rw [hy 47 (by decide)]; exact c1b
  · rw [e 1 (by decide), e 2 (by decide)]; exact c2
  · rw [e 3 (by decide)]; exact c3
  · rw [hL 1 (by decide)]; exact c3a
  · rw [hL 1 (by decide)]; exact c3b
  · rw [e 48 (by decide)]; exact c5
  · rw [hL 2 (by decide)]; exact c5a
  · rw [hL 5 (by decide)]; exact c5c
  · rw [hL 6 (by decide)]; exact c6
  · rw [hL 7 (by decide)]; exact c7a
  · rw [hL 7 (by decide)]; exact c7b
  · rw [hL 7 (by decide)]; exact c7c
  · rw [e 12 (by decide), e 20 (by decide)]; exact d1
  · rw [e 45 (by decide)]; exact d2
  · unfold cTxt
    rw [e 28 (by decide), e 39 (by decide)]; exact d4
/-- a warning more -/
theorem W_add {pl : Nat} {p1 : Int32} {p2 : Int64} (hn : n < 200) (hwk : ∀ k, 1 ≤ k → k ≤ n → fr (k - 1) = rk k ∧ ft (k - 1) = tm k ∧ 0 ≤ (rk k).toInt ∧ (rk k).toInt ≤ 99 ∧ tm k ≤ la) (hwo : ∀ j, j < no → fo j = nI (op j)) (hop : wOp n rk ac op no) (hac : ∀ k, n < k → ac k = 0) (hmo : ∀ i j, 1 ≤ i → i ≤ j → j ≤ n → tm i ≤ tm j) (hnon : no ≤ n) (hla : 0 ≤ la.toInt) (g1 : ¬ p1 < 0) (g2 : ¬ 99 < p1) (g3 : ¬ p2 < la)
    (hI : pl ≤ no ∧ (∀ j, j < pl → f2 j = fo j) ∧ f2 pl = nI (n + 1) ∧ (∀ j, pl < j → j ≤ no → f2 j = fo (j - 1)) ∧ (∀ j, pl ≤ j → j < no → upd fr n p1 (op j - 1) < p1) ∧ (0 < pl → ¬ upd fr n p1 (op (pl - 1) - 1) < p1))
    (l0 : L' 8 0 = some (.inr (7, [.ref (ad 8 1), .ref (ad 8 2), .ref (ad 8 3), .int (nI (n + 1)), .int (nI (no + 1)), .long p2]))) (l1 : L' 8 1 = some (aI dT 200 (upd fr n p1))) (l2 : L' 8 2 = some (aL dT 200 (vp_updL ft n p2))) (l3 : L' 8 3 = some (aI dT 200 f2)) : cWrn dT ad L' (n + 1) p2 (upd rk (n + 1) p1) ac (vp_updL tm (n + 1) p2) := by
  obtain ⟨i1, i2, i3, i4, i5, i6⟩ := hI
  have t3 : la.toInt ≤ p2.toInt := Int.not_lt.mp (fun z => g3 (Int64.lt_iff_toInt_lt.mpr z))
  have rko : ∀ j, j < no → upd fr n p1 (op j - 1) = rk (op j) := fun j hj => by
    have := hop.1 j hj
    rw [pk_un (by omega)]; exact (hwk (op j) this.1 this.2.1).1
  have vu : ∀ k, k ≠ n + 1 → vp_updL tm (n + 1) p2 k = tm k := fun k hk => by simp [vp_updL, hk]
  have vs : vp_updL tm (n + 1) p2 (n + 1) = p2 := by simp [vp_updL]
  refine ⟨no + 1, insL op pl (n + 1), upd fr n p1, vp_updL ft n p2, f2, l0, l1, l2, l3, fun k k1 k2 => ?_, fun j hj => ?_, wOp_ins hop i1 (hac _ (by omega)) (fun j hj => ?_) (fun j j1 j2 => ?_), fun k hk => hac k (by omega), fun i j h1 h2 h3 => ?_, by omega, by omega, by omega⟩
  · by_cases w : k = n + 1
    · subst w
      rw [show n + 1 - 1 = n from rfl, pk_us, pk_us, vs]
      refine ⟨rfl, by simp [vp_updL], i32_0 g1, ?_, Int64.le_refl _⟩
      exact Int.not_lt.mp (fun z => g2 (Int32.lt_iff_toInt_lt.mpr z))
    · obtain ⟨q1, q2, q3, q4, q5⟩ := hwk k k1 (by omega)
      rw [pk_un (show k - 1 ≠ n by omega), pk_un w, vu k w]
      refine ⟨q1, by rw [← q2]; simp [vp_updL, show k - 1 ≠ n by omega], q3, q4, ?_⟩
      have := Int64.le_iff_toInt_le.mp q5
      exact Int64.le_iff_toInt_le.mpr (by omega)
  · unfold insL
    rcases Nat.lt_trichotomy j pl with w | w | w
    · rw [if_pos w, i2 j w, hwo j (by omega)]
    · rw [if_neg (by omega), if_pos w, w, i3]
    · rw [if_neg (by omega), if_neg (by omega), i4 j w (by omega), hwo (j - 1) (by omega)]
  · have h6 := i6 (by omega)
    rw [rko (pl - 1) (by omega)] at h6
    have h7 : p1.toInt ≤ (rk (op (pl - 1))).toInt := Int.not_lt.mp (fun z => h6 (Int32.lt_iff_toInt_lt.mpr z))
    by_cases w : j = pl - 1
    · rw [w]; exact h7
    · have := hop.2.2 j (pl - 1) (by omega) (by omega)
      omega
  · have h5 := i5 j j1 j2
    rw [rko j j2] at h5
    exact Int32.lt_iff_toInt_lt.mp h5
  · by_cases w : j = n + 1
    · rw [w, vs]
      by_cases u : i = n + 1
      · rw [u, vs]; exact Int64.le_refl _
      · rw [vu i u]
        have := Int64.le_iff_toInt_le.mp (hwk i h1 (by omega)).2.2.2.2
        exact Int64.le_iff_toInt_le.mpr (by omega)
    · rw [vu j w, vu i (by omega)]; exact hmo i j h1 h2 (by omega)
end WRN
