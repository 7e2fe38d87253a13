/-! THE START: the sides, the class's first state, the reference's arrays one by one -/
def iH (p1 p2 : Int32) : Int32 := if 0 < p1 ∧ p1 < 41 ∧ 0 < p2 ∧ p2 < 41 then p1 else 4
def iW (p1 p2 : Int32) : Int32 := if 0 < p1 ∧ p1 < 41 ∧ 0 < p2 ∧ p2 < 41 then p2 else 16
def iX (p1 p2 : Int32) (k : Nat) : Int32 := if k = 1 then iH p1 p2 else if k = 2 then iW p1 p2 else 0
theorem i_side {p : Int32} (h1 : 0 < p) (h2 : p < 41) : ∃ j, 1 ≤ j ∧ j ≤ 40 ∧ p = nI j := by
  refine ix_le1 (n := 40) (fun z => ?_) ?_ (by decide)
  · have a1 := Int32.lt_iff_toInt_lt.mp h1
    have a2 := Int32.lt_iff_toInt_lt.mp z
    have e1 : (0 : Int32).toInt = 0 := by decide
    have e2 : (1 : Int32).toInt = 1 := by decide
    omega
  · have a2 := Int32.lt_iff_toInt_lt.mp h2
    have e1 : (41 : Int32).toInt = 41 := by decide
    have e2 : (nI 40).toInt = 40 := by decide
    exact Int32.le_iff_toInt_le.mpr (by omega)
theorem i_dim (p1 p2 : Int32) : ∃ hh ww, iX p1 p2 1 = nI hh ∧ 1 ≤ hh ∧ hh ≤ 40 ∧ iX p1 p2 2 = nI ww ∧ 1 ≤ ww ∧ ww ≤ 40 := by
  show ∃ hh ww, iH p1 p2 = nI hh ∧ 1 ≤ hh ∧ hh ≤ 40 ∧ iW p1 p2 = nI ww ∧ 1 ≤ ww ∧ ww ≤ 40
  unfold iH iW
  by_cases g : 0 < p1 ∧ p1 < 41 ∧ 0 < p2 ∧ p2 < 41
  · rw [if_pos g, if_pos g]
    obtain ⟨j, a1, a2, a3⟩ := i_side g.1 g.2.1
    obtain ⟨k, b1, b2, b3⟩ := i_side g.2.2.1 g.2.2.2
    exact ⟨j, k, a3, a1, a2, b3, b1, b2⟩
  · rw [if_neg g, if_neg g]
    exact ⟨4, 16, by decide, by decide, by decide, by decide, by decide, by decide⟩
/-- of the class's tests: a side from 1 to 40 -/
theorem gd_of {p1 p2 : Int32} (c1 : ¬ p1 < 1) (c2 : ¬ 40 < p1) (c3 : ¬ p2 < 1) (c4 : ¬ 40 < p2) : 0 < p1 ∧ p1 < 41 ∧ 0 < p2 ∧ p2 < 41 := by
  have e0 : (0 : Int32).toInt = 0 := by decide
  have e1 : (1 : Int32).toInt = 1 := by decide
  have e2 : (40 : Int32).toInt = 40 := by decide
  have e3 : (41 : Int32).toInt = 41 := by decide
  rw [Int32.lt_iff_toInt_lt] at c1 c2 c3 c4
  refine ⟨?_, ?_, ?_, ?_⟩ <;> rw [Int32.lt_iff_toInt_lt] <;> omega
theorem gd_n1 {p1 p2 : Int32} (q : p1 < 1 ∨ 40 < p1 ∨ p2 < 1 ∨ 40 < p2) : ¬ (0 < p1 ∧ p1 < 41 ∧ 0 < p2 ∧ p2 < 41) := by
  have e0 : (0 : Int32).toInt = 0 := by decide
  have e1 : (1 : Int32).toInt = 1 := by decide
  have e2 : (40 : Int32).toInt = 40 := by decide
  have e3 : (41 : Int32).toInt = 41 := by decide
  rw [Int32.lt_iff_toInt_lt, Int32.lt_iff_toInt_lt, Int32.lt_iff_toInt_lt, Int32.lt_iff_toInt_lt] at q
  rw [Int32.lt_iff_toInt_lt, Int32.lt_iff_toInt_lt, Int32.lt_iff_toInt_lt, Int32.lt_iff_toInt_lt]
  omega
section INI
variable {dT : Nat → ClassId} {dE z : Nat} {hcv h0 h : vH} {ad0 ad : Nat → Nat → Nat} {L0 L : vL} {p1 p2 : Int32} {lt : Nat}
theorem CR_in (t0 : L 0 0 = some (.inr (3, [.int (iH p1 p2), .int (iW p1 p2), .ref (ad 1 0), .ref (ad 6 0), .ref (ad 2 0), .ref (ad 8 0), .int 0, .int 0, .int 0, .int 0, .int 0, .long 0, .long 0])))
    (b0 : L 1 0 = some (.inr (1, [.ref (ad 1 1), .int 0, .int 0, .int 0]))) (b1 : L 1 1 = some (.inl (dT 2, 16, .inl (fun _ => 0))))
    (q2 : L 2 0 = some (.inr (4, [.ref (ad 3 0), .ref (ad 4 0), .ref (ad 5 0), .int 0]))) (q3 : L 3 0 = some (.inr (2, [.ref dE, .int 0, .int 0]))) (q4 : L 4 0 = some (.inr (2, [.ref dE, .int 0, .int 0]))) (q5 : L 5 0 = some (aI dT 30 (fun _ => 0)))
    (q6 : L 6 0 = some (.inr (5, [.ref (ad 2 0), .ref (ad 7 0), .null, .null]))) (q7 : L 7 0 = some (.inr (6, [.ref (ad 7 1), .ref (ad 7 2), .ref lt, .int 0]))) (q71 : L 7 1 = some (aI dT 6 (fun _ => 0))) (q72 : L 7 2 = some (aI dT 6 (fun _ => 0)))
    (q8 : L 8 0 = some (.inr (7, [.ref (ad 8 1), .ref (ad 8 2), .ref (ad 8 3), .int 0, .int 0, .long 0]))) (q81 : L 8 1 = some (aI dT 200 (fun _ => 0))) (q82 : L 8 2 = some (aL dT 200 (fun _ => 0))) (q83 : L 8 3 = some (aI dT 200 (fun _ => 0))) : CR dT dE h ad L 16 (iX p1 p2) (fun _ => 0) (fun _ _ => 0) (fun _ _ => 0) := by
  refine ⟨⟨0, 0, t0, by decide, lmp_0⟩, i_dim p1 p2, ⟨0, rfl, fun _ => 0, 0, b0, b1, Nat.zero_le _, by decide, Nat.zero_le _, fun i _ => rfl, fun k hk => absurd hk (Nat.not_lt_zero _)⟩, ⟨0, rfl, 0, fun _ => 0, fun _ => 0, fun _ => 0, fun _ => 0, q8, q81, q82, q83, fun k a b => by omega, fun j hj => absurd hj (Nat.not_lt_zero _), ⟨fun j hj => absurd hj (Nat.not_lt_zero _), fun k a b => by omega, fun i j a b => absurd b (Nat.not_lt_zero _)⟩, fun _ _ => rfl, fun i j a b d => by omega, Nat.zero_le _, Nat.le_refl _, by decide⟩, ⟨0, rfl, q2, Nat.zero_le _, fun _ => 0, q5, fun j hj => absurd hj (Nat.not_lt_zero _)⟩, ⟨none, none, q6⟩, ⟨_, _, _, _, q7, q71, q72⟩, rp_none (x' := iX p1 p2) ⟨dE, 0, q3, Or.inl ⟨rfl, rfl⟩⟩ ⟨dE, 0, q4, Or.inl ⟨rfl, rfl⟩⟩ rfl rfl rfl, fun q hq => absurd rfl hq, fun v => ⟨(by decide : (-999999 : Int) ≤ (0 : Int64).toInt), (by decide : (0 : Int64).toInt ≤ 999999)⟩⟩
/-- the reference while its arrays are made: those below K are -/
def mIn (dT : Nat → ClassId) (ad : Nat → Nat → Nat) (L : vL) (a : Nat) (fs : List Value) (K : Nat) : Prop := L 50 0 = some (.inr (13, fs)) ∧ ad 50 0 = a ∧ ∀ k, k < K → mAr k = true → L 51 k = some (mcell dT k (fun _ => 0) (fun _ => 0)) ∧ fs[k]? = some (.ref (ad 51 k))
theorem mIn_step {a q K k : Nat} {fs : List Value} {e : va_E} (y : LR z hcv h0 ad0 L0 h ad L) (I : mIn dT ad L a fs K) (hq : h q = none) (wq : z ≤ q) (hk : k < fs.length) (hg : ∀ j, K ≤ j → j < k → mAr j = false) (he : e = mcell dT k (fun _ => 0) (fun _ => 0)) : ∃ ad' L', LR z hcv h0 ad0 L0 (vup (vup h q e) a (.inr (13, fs.set k (.ref q)))) ad' L' ∧ mIn dT ad' L' a (fs.set k (.ref q)) (k + 1) ∧ ∀ i, i ≠ 50 → i ≠ 51 → L' i = L i ∧ ad' i = ad i := by
  have y2 := (y.new 51 k (e' := e) hq wq).put (i := 50) (j := 0) (e' := .inr (13, fs.set k (.ref q))) ((lput_i _ _ (by decide)).trans I.1)
  rw [show lput ad 51 k q 50 0 = a from (lput_i _ _ (by decide)).trans I.2.1] at y2
  refine ⟨_, _, y2, ⟨lput_s _ _ _ _, (lput_i _ _ (by decide)).trans I.2.1, fun j hj hm => ?_⟩, fun i a1 a2 => ⟨by rw [lput_k _ _ a1, lput_k _ _ a2], lput_k _ _ a2⟩⟩
  rw [lput_i (i := 50) (i' := 51) _ _ (by decide)]
  by_cases w : j = k
  · subst w
    rw [lput_s, lput_s, he]
    exact ⟨rfl, by rw [List.getElem?_set_self hk]⟩
  · have hj2 : j < K := by
      rcases Nat.lt_or_ge j K with u | u
      · exact u
      · rw [hg j u (by omega)] at hm; exact absurd hm (by decide)
    rw [lput_j _ _ w, lput_j _ _ w, List.getElem?_set_ne (Ne.symm w)]
    exact I.2.2 j hj2 hm
end INI
theorem mAr_lt {k : Nat} (h : mAr k = true) : k < 59 := by
  rcases Nat.lt_or_ge k 59 with q | q
  · exact q
  · exfalso
    obtain ⟨j, rfl⟩ : ∃ j, k = j + 59 := ⟨k - 59, by omega⟩
    exact absurd h (by show ¬ (false = true); decide)
