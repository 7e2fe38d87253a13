theorem cpf_lt {t f : Nat → Int32} : ∀ n k, k < n → cpf t f n k = t k := by
  intro n
  induction n with
  | zero => intro k hk; omega
  | succ n ih =>
    intro k hk
    rw [cpf]
    by_cases w : k = n
    · rw [w, pk_us]
    · rw [pk_un w]; exact ih k (by omega)
theorem rg_base {hb : Nat → Bool} {f g : Nat → Int32} : ∀ s j, j < cnt (fun j => !hb (j + 1)) s → rg hb f s j = rg hb g s j := by
  intro s
  induction s with
  | zero => intro j hj; exact absurd hj (Nat.not_lt_zero _)
  | succ s ih =>
    intro j hj
    rw [rg, rg]
    rw [cnt] at hj
    by_cases w : hb (s + 1) = true
    · rw [if_pos w, if_pos w]
      rw [w] at hj
      exact ih j (by simpa using hj)
    · rw [if_neg w, if_neg w]
      by_cases u : j = cnt (fun j => !hb (j + 1)) s
      · rw [u, pk_us, pk_us]
      · rw [pk_un u, pk_un u]
        refine ih j ?_
        have : (if (!hb (s + 1)) = true then cnt (fun j => !hb (j + 1)) s + 1 else cnt (fun j => !hb (j + 1)) s) ≤ cnt (fun j => !hb (j + 1)) s + 1 := by split <;> omega
        omega
theorem cnt_le' {g : Nat → Bool} : ∀ n, cnt g n ≤ n := by
  intro n
  induction n with
  | zero => exact Nat.le_refl _
  | succ n ih => rw [cnt]; split <;> omega
theorem ffS_pos {A : Nat → Nat → Int32} {ns : Nat} {hb : Nat → Bool} (hl : ∀ s, 1 ≤ s → s ≤ ns → 0 < A 23 s) : ∀ m, m ≤ ns → ffS A ns hb m = 0 ∨ 0 < ffS A ns hb m := by
  intro m
  induction m with
  | zero => intro _; exact Or.inl rfl
  | succ m ih =>
    intro hm
    rw [ffS]
    split
    · exact Or.inr (hl _ (by omega) hm)
    · exact ih (by omega)
/-- the end of the walk home, also without screens -/
theorem cIt_e2 (K : Nat → Nat → Nat) (n : Nat) : n = 0 ∨ cIt K n n (fun _ => false) = hEnd K n := by
  rcases Nat.eq_zero_or_pos n with w | w
  · exact Or.inl w
  · exact Or.inr (cIt_end K n _ rfl w)
section RDS
variable {dT : Nat → ClassId} {dE cap : Nat} {h h' : vH} {ad ad' : Nat → Nat → Nat} {L L' : vL} {x x' : Nat → Int32} {y y' : Nat → Int64} {A A' : Nat → Nat → Int32} {B B' : Nat → Nat → Int64} {sp bl : Int32}
theorem CR_rd (hC : CR dT dE h ad L cap x y A B)
    (hx : ∀ k, k ≠ 0 → k ≠ 3 → k ≠ 5 → k ≠ 7 → k ≠ 8 → k ≠ 9 → k ≠ 10 → k ≠ 12 → k ≠ 20 → k ≠ 28 → k ≠ 39 → k ≠ 45 → k ≠ 48 → x' k = x k) (hy : ∀ k, k ≠ 11 → y' k = y k) (hA : ∀ k, k = 4 ∨ k = 51 ∨ k = 53 ∨ k = 58 → A' k = A k) (hB : B' 52 = B 52) (x3 : x' 3 = 0)
    (hsp : y 47 = sp.toInt64 ∧ 0 ≤ sp.toInt ∧ sp.toInt ≤ 999) (hlm : lmp bl (A 58))
    (l0 : L' 0 0 = some (.inr (3, [.int (x 1), .int (x 2), .ref (ad' 1 0), .ref (ad' 6 0), .ref (ad' 2 0), .ref (ad' 8 0), .int (x' 45), .int sp, .int (x 46), .int bl, .int (x 55), .long (y 56), .long (y 57)])))
    (e8 : ad' 8 = ad 8) (l8 : L' 8 = L 8)
    (lb : ∃ f ml, L' 1 0 = some (.inr (1, [.ref (ad' 1 1), .int 0, .int ml, .int 0])) ∧ L' 1 1 = some (.inl (dT 2, cap, .inl f)) ∧ cap ≤ 8002 ∧ fitB f cap)
    (pl : ∃ nr, x' 48 = nI nr ∧ cPla dT ad' L' nr (A' 49)) (re : cRea ad' L') (li : cLin dT ad' L')
    (rp : ∃ nv ns np nc pf cb ce cs c0 lh, (x' 12 = nI nv ∧ nv ≤ 40 ∧ x' 20 = nI ns ∧ ns ≤ 30) ∧ (∃ pr, x' 45 = nI pr ∧ pr ≤ ns ∧ (0 < ns → 0 < pr)) ∧ RP dT dE h' ad' L' A' B' nv ns np nc pf cb ce cs c0 lh (fun s k => nI (ldS A' ns (10 * s + k))) ∧ cTxt A' B' x' ns np nc ∧ rngP A' 21 22 ns ∧ bndP A' B' nv)
    (hkey : keyP A') (hsm : ∀ v, smL (B' 18 v)) : CR dT dE h' ad' L' cap x' y' A' B' := by
  obtain ⟨-, c2, -, ⟨nw, c4, no, op, fr, ft, fo, q0, q1, q2, q3, q4⟩, -⟩ := hC
  have e : ∀ k, k ∈ [1, 2, 46, 50, 55] → x' k = x k := fun k hk => by
    simp only [List.mem_cons, List.not_mem_nil, or_false] at hk
    exact hx k (by omega) (by omega) (by omega) (by omega) (by omega) (by omega) (by omega) (by omega) (by omega) (by omega) (by omega) (by omega) (by omega)
  refine ⟨⟨sp, bl, ?_, ?_, ?_⟩, ?_, ⟨0, x3, ?_⟩, ⟨nw, ?_, ?_⟩, pl, re, li, rp, hkey, hsm⟩
  · unfold cTop
    rw [l0, e 1 (by decide), e 2 (by decide), e 46 (by decide), e 55 (by decide), hy 56 (by decide), hy 57 (by decide)]
  · rw [hy 47 (by decide)]; exact hsp
  · rw [hA 58 (by simp)]; exact hlm
  · rw [e 1 (by decide), e 2 (by decide)]; exact c2
  · obtain ⟨f, ml, b1, b2, b3, b4⟩ := lb
    exact ⟨f, ml, b1, b2, Nat.zero_le _, b3, Nat.zero_le _, b4, fun k hk => absurd hk (Nat.not_lt_zero _)⟩
  · rw [e 50 (by decide)]; exact c4
  · rw [hy 54 (by decide), hA 51 (by simp), hA 53 (by simp), hB]
    refine ⟨no, op, fr, ft, fo, ?_, ?_, ?_, ?_, q4⟩
    · rw [l8, e8]; exact q0
    · rw [l8]; exact q1
    · rw [l8]; exact q2
    · rw [l8]; exact q3
/-- no text is in force -/
theorem rp_none (r1 : rLst dT dE ad' L' 3 30 0 0 (ad' 10)) (r2 : rLst dT dE ad' L' 4 31 0 0 (ad' 11)) (e12 : x' 12 = 0) (e20 : x' 20 = 0) (e45 : x' 45 = 0) : ∃ nv ns np nc pf cb ce cs c0 lh, (x' 12 = nI nv ∧ nv ≤ 40 ∧ x' 20 = nI ns ∧ ns ≤ 30) ∧ (∃ pr, x' 45 = nI pr ∧ pr ≤ ns ∧ (0 < ns → 0 < pr)) ∧ RP dT dE h' ad' L' A' B' nv ns np nc pf cb ce cs c0 lh (fun s k => nI (ldS A' ns (10 * s + k))) ∧ cTxt A' B' x' ns np nc ∧ rngP A' 21 22 ns ∧ bndP A' B' nv :=
  ⟨0, 0, 0, 0, _, _, _, _, 0, fun _ => false, ⟨e12, by decide, e20, by decide⟩, ⟨0, e45, Nat.le_refl _, fun z => z⟩, RP_0 r1 r2, fun z => absurd z (Nat.lt_irrefl _), fun v a b => by omega, fun v a b => by omega⟩
end RDS
