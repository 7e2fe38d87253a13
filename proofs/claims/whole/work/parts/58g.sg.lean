/-! SIGNS: the builder's room -/
def cpS (c : Int32) (n0 : Nat) (t0 : Nat → Int32) (cap : Nat) : Nat → Nat
  | 0 => cap
  | k + 1 => if byt c k = 0 ∨ 127 < byt c k ∨ (sgN c n0 t0 k).1 = 4000 then cpS c n0 t0 cap k else if (sgN c n0 t0 k).1 < cpS c n0 t0 cap k then cpS c n0 t0 cap k else 2 * cpS c n0 t0 cap k + 2
theorem byt_in (c : Int32) (k : Nat) : ∃ b, b < 256 ∧ byt c k = nI b := by
  refine ⟨((c >>> ((24 - 8 * nI k) &&& 31)) &&& 255).toBitVec.toNat, ?_, ?_⟩
  · rw [Int32.toBitVec_and, BitVec.toNat_and]
    exact Nat.lt_of_le_of_lt Nat.and_le_right (by decide)
  · apply Int32.toBitVec_inj.mp
    show _ = BitVec.ofNat 32 _
    rw [BitVec.ofNat_toNat, BitVec.setWidth_eq]; rfl
theorem sgN_le {c : Int32} {n0 : Nat} {t0 : Nat → Int32} (h : n0 ≤ 4000) : ∀ k, n0 ≤ (sgN c n0 t0 k).1 ∧ (sgN c n0 t0 k).1 ≤ 4000 ∧ (sgN c n0 t0 k).1 ≤ n0 + k := by
  intro k
  induction k with
  | zero => exact ⟨Nat.le_refl _, h, Nat.le_refl _⟩
  | succ k ih =>
    rw [sgN]
    by_cases w : byt c k = 0 ∨ 127 < byt c k ∨ (sgN c n0 t0 k).1 = 4000
    · rw [if_pos w]; omega
    · rw [if_neg w]
      have : (sgN c n0 t0 k).1 ≠ 4000 := fun q => w (Or.inr (Or.inr q))
      show n0 ≤ (sgN c n0 t0 k).1 + 1 ∧ (sgN c n0 t0 k).1 + 1 ≤ 4000 ∧ (sgN c n0 t0 k).1 + 1 ≤ n0 + (k + 1)
      omega
theorem cpS_le {c : Int32} {n0 cap : Nat} {t0 : Nat → Int32} (h : n0 ≤ 4000) (h1 : n0 ≤ cap) (h2 : cap ≤ 8002) : ∀ k, cap ≤ cpS c n0 t0 cap k ∧ (sgN c n0 t0 k).1 ≤ cpS c n0 t0 cap k ∧ cpS c n0 t0 cap k ≤ 8002 := by
  intro k
  induction k with
  | zero => exact ⟨Nat.le_refl _, h1, h2⟩
  | succ k ih =>
    rw [sgN, cpS]
    by_cases w : byt c k = 0 ∨ 127 < byt c k ∨ (sgN c n0 t0 k).1 = 4000
    · rw [if_pos w, if_pos w]; exact ih
    · rw [if_neg w, if_neg w]
      have := sgN_le (c := c) (t0 := t0) h k
      have : (sgN c n0 t0 k).1 ≠ 4000 := fun q => w (Or.inr (Or.inr q))
      by_cases u : (sgN c n0 t0 k).1 < cpS c n0 t0 cap k
      · rw [if_pos u]
        show cap ≤ cpS c n0 t0 cap k ∧ (sgN c n0 t0 k).1 + 1 ≤ cpS c n0 t0 cap k ∧ cpS c n0 t0 cap k ≤ 8002
        omega
      · rw [if_neg u]
        show cap ≤ 2 * cpS c n0 t0 cap k + 2 ∧ (sgN c n0 t0 k).1 + 1 ≤ 2 * cpS c n0 t0 cap k + 2 ∧ 2 * cpS c n0 t0 cap k + 2 ≤ 8002
        omega
theorem cpS_s {c : Int32} {n0 cap : Nat} {t0 : Nat → Int32} (k : Nat) : cpS c n0 t0 cap k ≤ cpS c n0 t0 cap (k + 1) := by
  rw [cpS]
  split
  · exact Nat.le_refl _
  · split <;> omega
theorem cpS_mono {c : Int32} {n0 cap : Nat} {t0 : Nat → Int32} : ∀ d k, cpS c n0 t0 cap k ≤ cpS c n0 t0 cap (k + d) := by
  intro d
  induction d with
  | zero => intro k; exact Nat.le_refl _
  | succ d ih => intro k; exact Nat.le_trans (ih k) (cpS_s (k + d))
theorem sgN_skip {c : Int32} {n0 k b : Nat} {t0 : Nat → Int32} {cap : Nat} (e : byt c k = nI b) (hb : b < 256) (h : b = 0 ∨ 127 < b ∨ (sgN c n0 t0 k).1 = 4000) : sgN c n0 t0 (k + 1) = sgN c n0 t0 k ∧ cpS c n0 t0 cap (k + 1) = cpS c n0 t0 cap k := by
  have w : byt c k = 0 ∨ 127 < byt c k ∨ (sgN c n0 t0 k).1 = 4000 := by
    rcases h with h | h | h
    · left; rw [e, h]; rfl
    · right; left; rw [e]; exact (nI_ltI (a := 127) (by omega) (by omega)).mpr h
    · exact Or.inr (Or.inr h)
  rw [sgN, cpS, if_pos w, if_pos w]; exact ⟨rfl, rfl⟩
theorem sgN_put {c : Int32} {n0 k b : Nat} {t0 : Nat → Int32} {cap : Nat} (e : byt c k = nI b) (h1 : 1 ≤ b) (h2 : b ≤ 127) (h3 : (sgN c n0 t0 k).1 < 4000) : sgN c n0 t0 (k + 1) = ((sgN c n0 t0 k).1 + 1, upd (sgN c n0 t0 k).2 (sgN c n0 t0 k).1 (nI b)) ∧ cpS c n0 t0 cap (k + 1) = if (sgN c n0 t0 k).1 < cpS c n0 t0 cap k then cpS c n0 t0 cap k else 2 * cpS c n0 t0 cap k + 2 := by
  have w : ¬ (byt c k = 0 ∨ 127 < byt c k ∨ (sgN c n0 t0 k).1 = 4000) := by
    rintro (q | q | q)
    · rw [e] at q
      have := (nI_eq (b := 0) (by omega) (by omega)).mp q
      omega
    · rw [e] at q
      have := (nI_ltI (a := 127) (by omega) (by omega)).mp q
      omega
    · omega
  rw [sgN, cpS, if_neg w, if_neg w, e]; exact ⟨rfl, rfl⟩
