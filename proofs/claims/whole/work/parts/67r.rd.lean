section RDT
variable {dT : Nat → ClassId} {dE z : Nat} {hcv h h0 : vH} {ad : Nat → Nat → Nat} {L : vL} {x' : Nat → Int32} {A : Nat → Nat → Int32} {B : Nat → Nat → Int64} {nv ns np nc n t ta : Nat} {fq gq f : Nat → Int32}
theorem rd_tx (hn1 : n ≤ 4000) (xl : LH z hcv h0 ad L) (zq : h0 t = none) (zqa : h0 ta = none) (kq : h t = some (.inr (0, [.ref ta, .int 0, .int 0, .int 0]))) (kqa : h ta = some (.inl (dT 2, n, .inl gq))) (wqa : z ≤ ta) (hgk : ∀ k, k < n → gq k = fq k) (hbt : ∀ k, k < n → fq k = A 4 k ∧ ∃ c, 0 < c ∧ c < 128 ∧ A 4 k = nI c) : TX dT z h ad L (rdA A n 6) n t := by
  have hno : ∀ a, h0 a = none → ¬ vOwn ad L a := fun a ha ⟨i, j, e', w1, w2⟩ => by
    have q := xl.get w1
    rw [w2, ha] at q
    exact absurd q (by simp)
  refine ⟨ta, .int 0, .int 0, gq, ⟨kq, hno t zq⟩, ⟨kqa, hno ta zqa⟩, wqa, hn1, fun k hk => ?_⟩
  show gq k = cpf (A 4) (A 6) n k ∧ ∃ c0, 0 < c0 ∧ c0 < 128 ∧ cpf (A 4) (A 6) n k = nI c0
  rw [cpf_lt n k hk]
  exact ⟨(hgk k hk).trans (hbt k hk).1, (hbt k hk).2⟩
theorem end_eq {K : Nat → Nat → Nat} (n : Nat) (f g : Nat → Int32) : ffS A n (cIt K n n (fun _ => false)) n = ffS A n (hEnd K n) n ∧ cnt (fun j => !(cIt K n n (fun _ => false)) (j + 1)) n = cnt (fun j => !hEnd K n (j + 1)) n ∧ ∀ j, j < cnt (fun j => !hEnd K n (j + 1)) n → rg (cIt K n n (fun _ => false)) f n j = rg (hEnd K n) g n j := by
  rcases cIt_e2 K n with w | w
  · subst w; exact ⟨rfl, rfl, fun j hj => absurd hj (Nat.not_lt_zero _)⟩
  · rw [w]; exact ⟨rfl, rfl, fun j hj => rg_base _ _ hj⟩
theorem RP_up {pf cb ce cs : Nat → Nat} {c0 : Nat} {lh : Nat → Bool} {g g2 : Nat → Int32} (r : RP dT dE h ad L A B nv ns np nc pf cb ce cs c0 lh (fun s k => nI (ldS A ns (10 * s + k)))) : RP dT dE h ad L (va_up (va_up A 25 g) 49 g2) B nv ns np nc pf cb ce cs c0 lh (fun s k => nI (ldS (va_up (va_up A 25 g) 49 g2) ns (10 * s + k))) := r
theorem rd_txt {A0 : Nat → Nat → Int32} {B0 : Nat → Nat → Int64} {g g2 : Nat → Int32} (hn1 : n ≤ 4000) (f5 : x' 28 = nI np) (f6 : x' 39 = nI nc) (d2 : PI f (nv, ns, np, nc, A, B) 4001) (en : pAll f n (n + 1) 0 0 (0, 0, 0, 0, A0, B0) = (0, some (nv, ns, np, nc, A, B))) (hX : TX dT z h ad L f n t) : cTxt (va_up (va_up A 25 g) 49 g2) B x' ns np nc := fun _ => by
  obtain ⟨tv, z2, z3, f8, -, -, -, -, hg⟩ := hX
  have d3 : 8 * (np + nc) ≤ 4001 := d2.2.2.1
  have d4 : A 6 = f := d2.2.2.2.1
  have q := end_all hn1 (n + 1) 0 0 _ _ (fun p hp => absurd hp (Nat.not_lt_zero _)) en
  refine ⟨f5, f6, by omega, by omega, d2.2.2.2.2.2.2.2.1, n, hn1, ?_, q⟩
  show txt (A 6) n
  rw [d4]
  exact fun k hk => (hg k hk).2
end RDT
