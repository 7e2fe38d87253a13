/-! THE REFERENCE among the roles: 50 its object, 51 k its arrays -/
def cMod (dT : Nat → ClassId) (ad : Nat → Nat → Nat) (L : vL) (x : Nat → Int32) (y : Nat → Int64) (A : Nat → Nat → Int32) (B : Nat → Nat → Int64) : Prop := L 50 0 = some (.inr (13, mf (ad 51) x y)) ∧ ∀ k, mAr k = true → L 51 k = some (mcell dT k (A k) (B k))
def lMod (dT : Nat → ClassId) (L : vL) (ar : Nat → Nat) (x : Nat → Int32) (y : Nat → Int64) (A : Nat → Nat → Int32) (B : Nat → Nat → Int64) : vL := fun i j => if i = 50 then (if j = 0 then some (.inr (13, mf ar x y)) else L i j) else if i = 51 then (if mAr j = true then some (mcell dT j (A j) (B j)) else L i j) else L i j
section MOD
variable {S0 : State} {dT : Nat → ClassId} {hc h0 h h' : vH} {ad0 ad : Nat → Nat → Nat} {L0 L : vL} {x x' : Nat → Int32} {y y' : Nat → Int64} {A A' : Nat → Nat → Int32} {B B' : Nat → Nat → Int64}
theorem cMod.mv (r : LH S0.heap.size hc h ad L) (m : cMod dT ad L x y A B) : MV S0 dT h (ad 50 0) (ad 51) x y A B := ⟨r.get m.1, fun k hk => r.get (m.2 k hk), fun j k hj hk e => (r.2.2 _ _ _ _ _ _ (m.2 j hj) (m.2 k hk) e).2, r.wr m.1, fun k hk => r.wr (m.2 k hk)⟩
theorem cMod_l : cMod dT ad (lMod dT L (ad 51) x y A B) x y A B := by
  refine ⟨by simp [lMod], fun k hk => by simp [lMod, hk]⟩
theorem LR_mod (r : LR S0.heap.size hc h0 ad0 L0 h ad L) (m : cMod dT ad L x y A B) (M : MR S0 dT h h' (ad 50 0) (ad 51) x' y' A' B') : LR S0.heap.size hc h0 ad0 L0 h' ad (lMod dT L (ad 51) x' y' A' B') := by
  have ro : ∀ i j e, lMod dT L (ad 51) x' y' A' B' i j = some e → (∃ e0, L i j = some e0) ∧ ((i = 50 ∧ j = 0 ∧ e = .inr (13, mf (ad 51) x' y')) ∨ (i = 51 ∧ mAr j = true ∧ e = mcell dT j (A' j) (B' j)) ∨ (L i j = some e ∧ ¬ (i = 50 ∧ j = 0) ∧ ¬ (i = 51 ∧ mAr j = true))) := by
    intro i j e q
    unfold lMod at q
    by_cases w : i = 50
    · rw [if_pos w] at q
      by_cases v : j = 0
      · rw [if_pos v] at q
        injection q with q
        rw [w, v]; exact ⟨⟨_, m.1⟩, Or.inl ⟨rfl, rfl, q.symm⟩⟩
      · rw [if_neg v] at q
        exact ⟨⟨_, q⟩, Or.inr (Or.inr ⟨q, fun z => v z.2, fun z => by omega⟩)⟩
    · rw [if_neg w] at q
      by_cases v : i = 51
      · rw [if_pos v] at q
        by_cases u : mAr j = true
        · rw [if_pos u] at q
          injection q with q
          rw [v]; exact ⟨⟨_, m.2 j u⟩, Or.inr (Or.inl ⟨rfl, u, q.symm⟩)⟩
        · rw [if_neg u] at q
          exact ⟨⟨_, q⟩, Or.inr (Or.inr ⟨q, fun z => w z.1, fun z => u z.2⟩)⟩
      · rw [if_neg v] at q
        exact ⟨⟨_, q⟩, Or.inr (Or.inr ⟨q, fun z => w z.1, fun z => v z.1⟩)⟩
  refine r.trans ⟨⟨fun b e q => ⟨(r.1.1 b e q).1, ?_⟩, fun i j e q => ?_, fun i j e i1 j1 e1 q q1 w => ?_⟩, fun b e q k => ?_, fun i j e q => Or.inl ?_⟩
  · have h1 := r.1.1 b e q
    rw [M.2 b (fun z => by have := r.1.wr m.1; omega) (fun k hk z => by have := r.1.wr (m.2 k hk); omega)]
    exact h1.2
  · obtain ⟨⟨e0, q0⟩, q1⟩ := ro i j e q
    refine ⟨?_, r.1.wr q0⟩
    rcases q1 with ⟨w1, w2, w3⟩ | ⟨w1, w2, w3⟩ | ⟨w1, w2, w3⟩
    · rw [w1, w2, w3]; exact M.1.1
    · rw [w1, w3]; exact M.1.2.1 j w2
    · rw [M.2 (ad i j) (fun z => w2 (r.1.2.2 _ _ _ _ _ _ w1 m.1 z)) (fun k hk z => by
        have := r.1.2.2 _ _ _ _ _ _ w1 (m.2 k hk) z
        exact w3 ⟨this.1, by rw [this.2]; exact hk⟩)]
      exact r.1.get w1
  · obtain ⟨⟨a0, b0⟩, -⟩ := ro i j e q
    obtain ⟨⟨a1, b1⟩, -⟩ := ro i1 j1 e1 q1
    exact r.1.2.2 _ _ _ _ _ _ b0 b1 w
  · rw [M.2 b (fun z => k ⟨50, 0, _, m.1, z.symm⟩) (fun j hj z => k ⟨51, j, _, m.2 j hj, z.symm⟩)]; exact q
  · obtain ⟨⟨a0, b0⟩, -⟩ := ro i j e q
    exact ⟨i, j, a0, b0, rfl⟩
end MOD
