section SHN
variable {A : Nat → Nat → Int32} {B : Nat → Nat → Int64} {nv ns np nc : Nat} {pf cb ce cs : Nat → Nat} {c0 : Nat}
/-- the sign of part p from its own column on, -1 if it has none -/
def pvV (A : Nat → Nat → Int32) (B : Nat → Nat → Int64) (lang : Int32) (p k : Nat) : Int32 := if A 30 p = 2 then (if k < (A 34 p).toNatClampNeg then dgF (A 19 (A 33 p).toNatClampNeg) (B 18 (A 33 p).toNatClampNeg) (A 34 p).toNatClampNeg k else -1) else wdV A lang p k
/-- as the class has it: 0 if it has none -/
def gcV (A : Nat → Nat → Int32) (B : Nat → Nat → Int64) (lang : Int32) (p : Nat) (row : Int32) (col : Nat) : Int32 := if A 31 p = row ∧ (A 32 p).toNatClampNeg ≤ col then (if pvV A B lang p (col - (A 32 p).toNatClampNeg) < 0 then 0 else pvV A B lang p (col - (A 32 p).toNatClampNeg)) else 0
theorem pf_in (i : gI A nv ns np nc pf cb ce cs c0) : ∀ m, m ≤ ns → ∀ p, p < pf m → ∃ s, s < m ∧ pf s ≤ p ∧ p < pf (s + 1) := by
  intro m
  induction m with
  | zero => intro _ p hp; rw [i.1.1] at hp; omega
  | succ m ih =>
    intro hm p hp
    by_cases w : p < pf m
    · obtain ⟨s, s1, s2⟩ := ih (by omega) p w
      exact ⟨s, by omega, s2⟩
    · exact ⟨m, Nat.lt_succ_self _, by omega, hp⟩
theorem pf_mono (i : gI A nv ns np nc pf cb ce cs c0) : ∀ d s, s + d ≤ ns → pf s ≤ pf (s + d) := by
  intro d
  induction d with
  | zero => intro s _; exact Nat.le_refl _
  | succ d ih => intro s hs; exact Nat.le_trans (ih s (by omega)) (i.1.2.2 (s + d) (by omega))
theorem shown_sc2 {pr : Nat} {lang row : Int32} {col : Nat} (i : gI A nv ns np nc pf cb ce cs c0) (hns : ns ≤ 30) (h1 : 1 ≤ pr) (h2 : pr ≤ ns) (hv : ∀ p k, p < np → pvV A B lang p k ≠ 0) :
    scn (fun p => ptV A B (nI pr) lang nc p row col) np = sc2 (fun j => gcV A B lang (pf (pr - 1) + j) row col) (fun j => allB (fun k => cnB A B (cb (pf (pr - 1) + j) + k)) (ce (pf (pr - 1) + j) - cb (pf (pr - 1) + j))) (pf pr - pf (pr - 1)) := by
  have m1 : pf (pr - 1) ≤ pf pr := by have := i.1.2.2 (pr - 1) (by omega); rw [show pr - 1 + 1 = pr by omega] at this; exact this
  have m2 : pf pr ≤ np := by have := pf_mono i (ns - pr) pr (by omega); rw [show pr + (ns - pr) = ns by omega, i.1.2.1] at this; exact this
  have out : ∀ p, p < np → (p < pf (pr - 1) ∨ pf pr ≤ p) → ptV A B (nI pr) lang nc p row col < 0 := by
    intro p hp ho
    obtain ⟨s, s1, s2, s3⟩ := pf_in i ns (Nat.le_refl _) p (by rw [i.1.2.1]; exact hp)
    have e := i.2.1 s p s1 s2 s3
    have hne : ¬ A 29 p = nI pr := by
      rw [e]
      intro q
      have := (nI_eq (by omega) (by omega)).mp q
      rw [show pr - 1 = s by omega, show pr = s + 1 by omega] at ho
      omega
    rw [ptV, if_neg (fun q => hne q.1.1)]; decide
  rw [scn_skip (m := pf pr) np m2 (fun p a b => out p b (Or.inr a))]
  have e : pf pr = pf (pr - 1) + (pf pr - pf (pr - 1)) := by omega
  have key := scn_sc2 (g := fun p => ptV A B (nI pr) lang nc p row col) (gc := fun j => gcV A B lang (pf (pr - 1) + j) row col) (on := fun j => allB (fun k => cnB A B (cb (pf (pr - 1) + j) + k)) (ce (pf (pr - 1) + j) - cb (pf (pr - 1) + j))) (a := pf (pr - 1)) (fun p hp => out p (by omega) (Or.inl hp)) (pf pr - pf (pr - 1)) (fun j hj => by
    have hp : pf (pr - 1) + j < np := by omega
    have e29 : A 29 (pf (pr - 1) + j) = nI pr := by
      have := i.2.1 (pr - 1) (pf (pr - 1) + j) (by omega) (by omega) (by rw [show pr - 1 + 1 = pr by omega]; omega)
      rw [this, show pr - 1 + 1 = pr by omega]
    have eo := allB_on (g := cnB A B) i hp
    have ep : ptV A B (nI pr) lang nc (pf (pr - 1) + j) row col = if (A 31 (pf (pr - 1) + j) = row ∧ (A 32 (pf (pr - 1) + j)).toNatClampNeg ≤ col) ∧ allB (fun k => cnB A B (cb (pf (pr - 1) + j) + k)) (ce (pf (pr - 1) + j) - cb (pf (pr - 1) + j)) = true then pvV A B lang (pf (pr - 1) + j) (col - (A 32 (pf (pr - 1) + j)).toNatClampNeg) else -1 := by
      rw [ptV, eo]
      by_cases w : (A 31 (pf (pr - 1) + j) = row ∧ (A 32 (pf (pr - 1) + j)).toNatClampNeg ≤ col) ∧ allB (fun k => cnB A B (cb (pf (pr - 1) + j) + k)) (ce (pf (pr - 1) + j) - cb (pf (pr - 1) + j)) = true
      · rw [if_pos w, if_pos ⟨⟨e29, w.1.1, w.1.2⟩, w.2⟩]; rfl
      · rw [if_neg w, if_neg (fun q => w ⟨⟨q.1.2.1, q.1.2.2⟩, q.2⟩)]
    have hv1 := hv (pf (pr - 1) + j) (col - (A 32 (pf (pr - 1) + j)).toNatClampNeg) hp
    show (¬ gcV A B lang (pf (pr - 1) + j) row col = 0 ∧ _ → ptV _ _ _ _ _ _ _ _ = gcV _ _ _ _ _ _ ∧ _) ∧ _
    constructor
    · rintro ⟨a1, a2⟩
      rw [gcV] at a1
      by_cases w : A 31 (pf (pr - 1) + j) = row ∧ (A 32 (pf (pr - 1) + j)).toNatClampNeg ≤ col
      · rw [if_pos w] at a1
        by_cases u : pvV A B lang (pf (pr - 1) + j) (col - (A 32 (pf (pr - 1) + j)).toNatClampNeg) < 0
        · rw [if_pos u] at a1; exact absurd rfl a1
        · rw [ep, if_pos ⟨w, a2⟩, gcV, if_pos w, if_neg u]; exact ⟨rfl, u⟩
      · rw [if_neg w] at a1; exact absurd rfl a1
    · intro a1
      show ptV _ _ _ _ _ _ _ _ < 0
      rw [ep]
      by_cases w : (A 31 (pf (pr - 1) + j) = row ∧ (A 32 (pf (pr - 1) + j)).toNatClampNeg ≤ col) ∧ allB (fun k => cnB A B (cb (pf (pr - 1) + j) + k)) (ce (pf (pr - 1) + j) - cb (pf (pr - 1) + j)) = true
      · rw [if_pos w]
        by_cases u : pvV A B lang (pf (pr - 1) + j) (col - (A 32 (pf (pr - 1) + j)).toNatClampNeg) < 0
        · exact u
        · exfalso
          apply a1
          rw [gcV, if_pos w.1, if_neg u]; exact ⟨hv1, w.2⟩
      · rw [if_neg w]; decide)
  rw [← key, ← e]
/-- signs are never 0 -/
theorem dgF_0 {vd : Int32} {nw : Int64} {n k : Nat} : dgF vd nw n k ≠ 0 := by
  have h10 : nw.toInt.natAbs / 10 ^ (n - 1 - k) % 10 < 10 := Nat.mod_lt _ (by decide)
  have h3 : nI (48 + nw.toInt.natAbs / 10 ^ (n - 1 - k) % 10) ≠ 0 := fun q => by
    have := (nI_eq (a := 48 + nw.toInt.natAbs / 10 ^ (n - 1 - k) % 10) (b := 0) (by omega) (by omega)).mp q
    omega
  rw [dgF]
  by_cases a1 : vd = 0
  · rw [if_pos a1]; decide
  · rw [if_neg a1]
    by_cases a2 : n < (if nw < 0 then dgc nw.toInt.natAbs + 1 else dgc nw.toInt.natAbs)
    · rw [if_pos a2]; decide
    · rw [if_neg a2]
      by_cases a3 : dgc nw.toInt.natAbs ≤ n - 1 - k
      · rw [if_pos a3]
        by_cases a4 : n - 1 - k = dgc nw.toInt.natAbs ∧ nw < 0
        · rw [if_pos a4]; decide
        · rw [if_neg a4]; decide
      · rw [if_neg a3]; exact h3
theorem wdV_0 {lang : Int32} {p k n : Nat} (ht : txt (A 6) n) (h1 : (A 36 p).toNatClampNeg ≤ n) (h2 : (A 38 p).toNatClampNeg ≤ n) : wdV A lang p k ≠ 0 := by
  have l : ∀ j, j < n → A 6 j ≠ 0 := fun j hj q => by
    obtain ⟨c, c1, c2, e⟩ := ht j hj
    rw [e] at q
    have := (nI_eq (b := 0) (by omega) (by omega)).mp q
    omega
  unfold wdV
  split
  · split
    · exact l _ (by omega)
    · decide
  · split
    · exact l _ (by omega)
    · decide
end SHN
