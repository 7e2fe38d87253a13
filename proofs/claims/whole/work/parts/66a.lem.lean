section CLR
variable {dT : Nat → ClassId} {dE z : Nat} {hcv h0 h h' : vH} {ad0 ad : Nat → Nat → Nat} {L0 L : vL} {i i1 j n : Nat} {g g' : Nat → Nat}
theorem LR.one {e e' : va_E} {K : Nat → Prop} (x : LR z hcv h0 ad0 L0 h ad L) (q : L i j = some e) (p : vfx K h h') (hK : ∀ c, K c → c = ad i j) (k : h' (ad i j) = some e') : LR z hcv h0 ad0 L0 h' ad (lput L i j (some e')) := (x.put (e' := e') q).fx (fun b y w _ => by
  by_cases r : b = ad i j
  · rw [r, vup_s] at w
    rw [r, k]; exact w
  · rw [vup_n _ _ r] at w
    exact p b y w (fun u => r (hK b u)))
/-- a list is cleared -/
theorem lst_clr (x : LR z hcv h0 ad0 L0 h ad L) (hi : i1 ≠ i) {ea cap : Nat} {f : Nat → Option Nat} {md : Int32} (hl : L i j = some (eLst ea n md)) (hea : ea = dE ∨ (ea = ad i1 j ∧ L i1 j = some (aR dT cap f) ∧ 0 < cap ∧ cap ≤ 2000)) (hdE : dE < z) (p : ∃ md' f2, h' (ad i j) = some (.inr (2, [.ref ea, .int 0, .int md'])) ∧ h' ea = some (.inl (dT 4, cap, .inr (.inr (.inr (.inr f2))))) ∧ vfx (fun b => b = ad i j ∨ (b = ea ∧ z ≤ b)) h h') : ∃ L', LR z hcv h0 ad0 L0 h' ad L' ∧ rLst dT dE ad L' i i1 j 0 g' ∧ ∀ a b, ¬ (a = i ∧ b = j) → ¬ (a = i1 ∧ b = j) → L' a b = L a b := by
  obtain ⟨md', f2, p1, p2, p3⟩ := p
  have ne : ∀ {α : Type} (M : Nat → Nat → α) (a b : Nat) (y : α) (c d : Nat), ¬ (c = a ∧ d = b) → lput M a b y c d = M c d := fun M a b y c d w => by
    by_cases r : c = a
    · exact lput_j _ _ (fun u => w ⟨r, u⟩)
    · exact lput_i _ _ r
  rcases hea with r | ⟨r, r2, r3⟩
  · refine ⟨lput L i j (some (eLst ea 0 md')), x.one hl p3 (fun c w => ?_) p1, ⟨ea, md', lput_s _ _ _ _, Or.inl ⟨rfl, r⟩⟩, fun a b w _ => ne _ _ _ _ _ _ w⟩
    rcases w with w | w
    · exact w
    · omega
  · have q1 := x.put (e' := eLst ea 0 md') hl
    have l1 : lput L i j (some (eLst ea 0 md')) i1 j = some (aR dT cap f) := (lput_i _ _ hi).trans r2
    have q2 := (q1.put (e' := aR dT cap f2) l1).fx (h' := h') (fun b y w _ => by
      by_cases u1 : b = ad i1 j
      · rw [u1, vup_s] at w
        rw [u1, ← r, p2]; exact w
      · rw [vup_n _ _ u1] at w
        by_cases u2 : b = ad i j
        · rw [u2, vup_s] at w
          rw [u2, p1]; exact w
        · rw [vup_n _ _ u2] at w
          exact p3 b y w (fun u => by
            rcases u with u | u
            · exact u2 u
            · exact u1 (u.1.trans r)))
    exact ⟨_, q2, ⟨ea, md', (lput_i _ _ (Ne.symm hi)).trans (lput_s _ _ _ _), Or.inr ⟨cap, f2, r, lput_s _ _ _ _, ⟨Nat.zero_le _, r3⟩, fun k hk => absurd hk (Nat.not_lt_zero _)⟩⟩, fun a b w w2 => (ne _ _ _ _ _ _ w2).trans (ne _ _ _ _ _ _ w)⟩
/-- with what the list's array is -/
theorem rLst.hp2 (r : rLst dT dE ad L i i1 j n g) (x : LH z hcv h ad L) {fE : Nat → Option Nat} (hE : hcv dE = some (aR dT 0 fE)) : ∃ ea cap f md, hLst dT dE z h (ad i j) ea n cap f md ∧ L i j = some (eLst ea n md) ∧ (ea = dE ∨ (ea = ad i1 j ∧ L i1 j = some (aR dT cap f) ∧ 0 < cap ∧ cap ≤ 2000)) := by
  obtain ⟨ea, cap, f, md, q1, q2, q3, q4⟩ := r.hp x hE
  refine ⟨ea, cap, f, md, q1, q3, ?_⟩
  rcases q4 with q4 | q4
  · exact Or.inl q4
  · rcases q1.2.2.2.2 with q5 | q5
    · exact Or.inl q5.2.1
    · exact Or.inr ⟨q4.1, q4.2, q5.2.2, q1.2.2.2.1.2⟩
end CLR
