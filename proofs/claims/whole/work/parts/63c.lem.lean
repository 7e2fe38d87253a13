theorem i32_0 {v : Int32} (h : ¬ v < 0) : 0 ≤ v.toInt := by
  have : ¬ v.toInt < 0 := fun y => h (Int32.lt_iff_toInt_lt.mpr y)
  omega
theorem a27_le {A : Nat → Nat → Int32} {nv ns q : Nat} (g : gN A nv ns) (h1 : 10 < q) (h2 : q < 10 * ns + 10) : A 27 q ≤ 0 ↔ A 27 q = 0 := by
  constructor
  · intro z
    by_cases w : A 27 q = 0
    · exact w
    · exfalso
      have h3 := (isNm_at (g.2.2 q w h1 h2)).1
      have h4 : (A 27 q).toNatClampNeg = 0 := by
        have := Int32.le_iff_toInt_le.mp z
        rw [show (0 : Int32).toInt = 0 from rfl] at this
        rw [Int32.toNatClampNeg]
        omega
      omega
  · intro z; rw [z]; decide
theorem vOwn_put {ad : Nat → Nat → Nat} {L : vL} {i j : Nat} {e e' : va_E} (q : L i j = some e) (b : Nat) : vOwn ad (lput L i j (some e')) b ↔ vOwn ad L b := by
  constructor
  · rintro ⟨i1, j1, e1, w, r⟩
    by_cases k : i1 = i ∧ j1 = j
    · rw [k.1, k.2] at r; exact ⟨i, j, e, q, r⟩
    · refine ⟨i1, j1, e1, ?_, r⟩
      by_cases k1 : i1 = i
      · rw [lput_j _ _ (fun g => k ⟨k1, g⟩)] at w; exact w
      · rw [lput_i _ _ k1] at w; exact w
  · rintro ⟨i1, j1, e1, w, r⟩
    by_cases k : i1 = i ∧ j1 = j
    · rw [k.1, k.2] at r; exact ⟨i, j, e', lput_s _ _ _ _, r⟩
    · refine ⟨i1, j1, e1, ?_, r⟩
      by_cases k1 : i1 = i
      · rw [lput_j _ _ (fun g => k ⟨k1, g⟩)]; exact w
      · rw [lput_i _ _ k1]; exact w
theorem LX.base {h0 h : vH} {ad ad' : Nat → Nat → Nat} {L L' : vL} {i j : Nat} {e e' : va_E} (x : LX h0 ad L h ad' L') (q : L i j = some e) : LX h0 ad (lput L i j (some e')) h ad' L' := ⟨fun b y w k => x.1 b y w (fun z => k ((vOwn_put q b).mpr z)), fun i1 j1 e1 w => (x.2 i1 j1 e1 w).imp (fun z => (vOwn_put q _).mpr z) id⟩
theorem LX_same {h : vH} {ad : Nat → Nat → Nat} {L : vL} {i j : Nat} {e e' : va_E} (q : L i j = some e) : LX h ad L h ad (lput L i j (some e')) := ⟨vfx.rf, fun i1 j1 e1 w => Or.inl ((vOwn_put q _).mp ⟨i1, j1, e1, w, rfl⟩)⟩
