section SGN
variable {dT : Nat → ClassId} {dE cap cap' n1 : Nat} {h h' : vH} {ad ad' : Nat → Nat → Nat} {L L' : vL} {x x' : Nat → Int32} {y y' : Nat → Int64} {A : Nat → Nat → Int32} {B : Nat → Nat → Int64} {t1 : Nat → Int32}
/-- the builder alone is another one -/
theorem CR.sgn (hC : CR dT dE h ad L cap x y A B) (hL : ∀ i, i ≠ 1 → L' i = L i ∧ ad' i = ad i) (h10 : ad' 1 0 = ad 1 0) (lx : LX h ad L h' ad' L') (hb : cBld dT ad' L' n1 cap' t1) : CR dT dE h' ad' L' cap' (upd (upd x 0 0) 3 (nI n1)) y (va_up A 4 t1) B := by
  obtain ⟨⟨sp, bl, c1, c1b, c1c⟩, c2, -, ⟨nw, c4, no, op, fr, ft, fo, q0, q1, q2, q3, q4⟩, ⟨nr, c5, c5a, c5b, f5, c5c, c5d⟩, ⟨sc, pe, c6⟩, ⟨t, cc, g1, g2, c7a, c7b, c7c⟩, ⟨nv, ns, np, nc, pf, cb, ce, cs, c0, lh, d1, d2, d3, d4, d5⟩, c9, c10⟩ := hC
  refine ⟨⟨sp, bl, ?_, c1b, c1c⟩, c2, ⟨n1, rfl, hb⟩, ⟨nw, c4, no, op, fr, ft, fo, ?_, ?_, ?_, ?_, q4⟩, ⟨nr, c5, ?_, c5b, f5, ?_, c5d⟩, ⟨sc, pe, ?_⟩, ⟨t, cc, g1, g2, ?_, ?_, ?_⟩, ⟨nv, ns, np, nc, pf, cb, ce, cs, c0, lh, d1, d2, d3.to lx (fun i hi => hL i (by omega)), d4, d5⟩, c9, c10⟩
  · unfold cTop
    rw [(hL 0 (by decide)).1, h10, (hL 2 (by decide)).2, (hL 6 (by decide)).2, (hL 8 (by decide)).2]; exact c1
  · rw [(hL 8 (by decide)).1, (hL 8 (by decide)).2]; exact q0
  · rw [(hL 8 (by decide)).1]; exact q1
  · rw [(hL 8 (by decide)).1]; exact q2
  · rw [(hL 8 (by decide)).1]; exact q3
  · rw [(hL 2 (by decide)).1, (hL 3 (by decide)).2, (hL 4 (by decide)).2, (hL 5 (by decide)).2]; exact c5a
  · rw [(hL 5 (by decide)).1]; exact c5c
  · rw [(hL 6 (by decide)).1, (hL 2 (by decide)).2, (hL 7 (by decide)).2]; exact c6
  · rw [(hL 7 (by decide)).1, (hL 7 (by decide)).2]; exact c7a
  · rw [(hL 7 (by decide)).1]; exact c7b
  · rw [(hL 7 (by decide)).1]; exact c7c
theorem B_put {n c0 : Nat} {cap2 : Nat} {f f' t : Nat → Int32} {ml : Int32} (hn : n < 4000) (hc : cap ≤ 8002) (h1 : 1 ≤ c0) (h2 : c0 < 128) (hf : ∀ k, k < n → f k = t k ∧ ∃ c, 0 < c ∧ c < 128 ∧ t k = nI c) (hnc : n ≤ cap) (hcap : cap2 = if n < cap then cap else 2 * cap + 2) (e1 : f' n = nI c0) (e2 : ∀ k, k < n → f' k = f k) (ft : fitB f' cap2)
    (l0 : L' 1 0 = some (.inr (1, [.ref (ad' 1 1), .int 0, .int ml, .int (nI (n + 1))]))) (l1 : L' 1 1 = some (.inl (dT 2, cap2, .inl f'))) : cBld dT ad' L' (n + 1) cap2 (upd t n (nI c0)) := by
  refine ⟨f', ml, l0, l1, ?_, ?_, by omega, ft, fun k hk => ?_⟩
  · rw [hcap]; split <;> omega
  · rw [hcap]; split <;> omega
  · by_cases w : k = n
    · rw [w, pk_us]; exact ⟨e1, c0, h1, h2, rfl⟩
    · rw [pk_un w, e2 k (by omega)]; exact hf k (by omega)
theorem sh_4 : ∀ k, k ≤ 4 → ((24 - 8 * nI k < 0 ↔ k = 4) ∧ (k < 4 → 24 - 8 * nI k = nI (24 - 8 * k) ∧ 24 - 8 * nI k + (-8) = 24 - 8 * nI (k + 1))) := by
  have a : ∀ k, k < 5 → ((24 - 8 * nI k < 0 ↔ k = 4) ∧ (k < 4 → 24 - 8 * nI k = nI (24 - 8 * k) ∧ 24 - 8 * nI k + (-8) = 24 - 8 * nI (k + 1))) := by decide +kernel
  exact fun k hk => a k (by omega)
theorem i2c_7 : ∀ k, k < 128 → ((nI k).toUInt32 % 65536).toInt32 = nI k := by decide +kernel
end SGN
