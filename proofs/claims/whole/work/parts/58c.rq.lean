section RPV
variable {dT : Nat → ClassId} {dE z : Nat} {hc h0 h h' : vH} {ad0 ad ad' : Nat → Nat → Nat} {L0 L L' : vL} {A : Nat → Nat → Int32} {B : Nat → Nat → Int64} {nv ns np nc : Nat} {pf cb ce cs : Nat → Nat} {c0 : Nat} {lh : Nat → Bool} {ks : Nat → Nat → Int32}
/-- nothing is read yet -/
theorem RP_0 (r1 : rLst dT dE ad L 3 30 0 0 (ad 10)) (r2 : rLst dT dE ad L 4 31 0 0 (ad 11)) : RP dT dE h ad L A B 0 0 0 0 (fun _ => 0) (fun _ => 0) (fun _ => 0) (fun _ => 0) 0 lh ks :=
  ⟨⟨r1, fun v hv => absurd hv (Nat.not_lt_zero _)⟩, ⟨r2, fun v hv => absurd hv (Nat.not_lt_zero _)⟩, fun v hv => absurd hv (Nat.not_lt_zero _), fun v hv => absurd hv (Nat.not_lt_zero _), ⟨⟨rfl, rfl, fun _ _ => Nat.le_refl _⟩, fun s p hs => absurd hs (Nat.not_lt_zero _), fun v hv => absurd hv (Nat.not_lt_zero _), ⟨Nat.le_refl _, fun c _ hc => absurd hc (Nat.not_lt_zero _), fun c hc => absurd hc (Nat.not_lt_zero _)⟩, fun v hv => absurd hv (Nat.not_lt_zero _), fun v hv => absurd hv (Nat.not_lt_zero _), fun v hv => absurd hv (Nat.not_lt_zero _), fun v hv => absurd hv (Nat.not_lt_zero _)⟩, fun v h1 h2 => by omega, fun v h1 h2 => by omega, fun q _ h1 h2 => by omega⟩
theorem rPar.lx {A' : Nat → Nat → Int32} (r3 : rPar dT h ad L A np cb ce) (x : LX h ad L h' ad L') (l16 : ∀ p, p < np → L' 16 p = L 16 p) (e6 : A' 6 = A 6) (e : ∀ k, (k = 30 ∨ k = 31 ∨ k = 32 ∨ k = 33 ∨ k = 34 ∨ k = 35 ∨ k = 36 ∨ k = 37 ∨ k = 38) → A' k = A k) : rPar dT h' ad L' A' np cb ce := fun p hp => by
  obtain ⟨q1, q2⟩ := r3 p hp
  rw [l16 p hp, e 30 (by simp), e 31 (by simp), e 32 (by simp), e 33 (by simp), e 34 (by simp)]
  refine ⟨q1, fun w => ?_⟩
  obtain ⟨w1, w2, g1, g2⟩ := q2 w
  exact ⟨w1, w2, g1, rPar.str (A' := A') x e6 (fun k hk => by rw [e k (by rcases hk with hk | hk | hk | hk | hk <;> subst hk <;> simp)]) g2⟩
/-- a value's new number, and whether it is valid -/
theorem RP_now {j : Nat} {nw : Int64} {vd : Int32} (r : RP dT dE h ad L A B nv ns np nc pf cb ce cs c0 lh ks) (hj1 : 1 ≤ j) (hj2 : j ≤ nv)
    (hL : L' = lput L 10 (j - 1) (some (eVal (nmV A 13 14 j) (A 15 j) (if A 15 j = 0 then -999999 else B 16 j) (if A 15 j = 0 then 999999 else B 17 j) nw vd))) (x : LX h ad L h' ad L') :
    RP dT dE h' ad L' (va_up A 19 (upd (A 19) j vd)) (va_up B 18 (vp_updL (B 18) j nw)) nv ns np nc pf cb ce cs c0 lh ks := by
  obtain ⟨r1, r2, r3, r4, r5, r6⟩ := r
  subst hL
  refine ⟨⟨r1.1, fun v hv => ?_⟩, r2, r3.lx x (fun p _ => rfl) rfl (fun k hk => by rcases hk with hk | hk | hk | hk | hk | hk | hk | hk | hk <;> subst hk <;> rfl), r4, r5, r6⟩
  by_cases w : v = j - 1
  · have e1 : v + 1 = j := by omega
    have b18 : (va_up B 18 (vp_updL (B 18) j nw)) 18 (v + 1) = nw := by show vp_updL (B 18) j nw (v + 1) = _; simp [vp_updL, e1]
    have a19 : (va_up A 19 (upd (A 19) j vd)) 19 (v + 1) = vd := by show upd (A 19) j vd (v + 1) = _; rw [e1]; exact pk_us
    rw [b18, a19, w, lput_s, show j - 1 + 1 = j by omega]; rfl
  · have b18 : (va_up B 18 (vp_updL (B 18) j nw)) 18 (v + 1) = B 18 (v + 1) := by show vp_updL (B 18) j nw (v + 1) = _; simp [vp_updL, show v + 1 ≠ j by omega]
    have a19 : (va_up A 19 (upd (A 19) j vd)) 19 (v + 1) = A 19 (v + 1) := by show upd (A 19) j vd (v + 1) = _; exact pk_un (by omega)
    rw [b18, a19, lput_j _ _ w]; exact r1.2 v hv
/-- a key's screen -/
theorem RP_ks {s k : Nat} {y : Int32} {g0 : Nat → Int32} (r : RP dT dE h ad L A B nv ns np nc pf cb ce cs c0 lh ks) (hs : s < ns) (hg : L 15 s = some (aI dT 10 g0)) (hL : L' = lput L 15 s (some (aI dT 10 (upd g0 k y)))) (x : LX h ad L h' ad L') : RP dT dE h' ad L' A B nv ns np nc pf cb ce cs c0 lh (va_up ks (s + 1) (upd (ks (s + 1)) k y)) := by
  obtain ⟨r1, r2, r3, r4, r5, r6⟩ := r
  subst hL
  refine ⟨r1, ⟨r2.1, fun t ht => ?_⟩, r3.lx x (fun p _ => rfl) rfl (fun k hk => rfl), r4, r5, r6⟩
  obtain ⟨q1, q2, q3, ⟨g, q4, q5⟩, q6⟩ := r2.2 t ht
  refine ⟨q1, q2, q3, ?_, q6⟩
  by_cases w : t = s
  · subst w
    rw [hg] at q4
    injection q4 with q4
    injection q4 with q4
    injection q4 with _ q4
    injection q4 with _ q4
    injection q4 with q4
    subst q4
    refine ⟨_, lput_s _ _ _ _, fun j j1 j2 => ?_⟩
    rw [va_up_self]
    by_cases u : j = k
    · rw [u, pk_us, pk_us]
    · rw [pk_un u, pk_un u]; exact q5 j j1 j2
  · refine ⟨g, (lput_j L _ w).trans q4, fun j j1 j2 => ?_⟩
    rw [va_up_ne _ _ (by omega)]; exact q5 j j1 j2
/-- a screen leads home -/
theorem RP_lh {s : Nat} {v : Bool} (r : RP dT dE h ad L A B nv ns np nc pf cb ce cs c0 lh ks) (hs : s < ns) (hL : L' = lput L 11 s (some (eScr (nmV A 21 22 (s + 1)) (A 23 (s + 1)) (ad 12 s) (ad 14 s) (ad 15 s) (brI (B 24 (s + 1))) (bI v)))) (x : LX h ad L h' ad L') : RP dT dE h' ad L' A B nv ns np nc pf cb ce cs c0 (va_up lh (s + 1) v) ks := by
  obtain ⟨r1, r2, r3, r4, r5, r6⟩ := r
  subst hL
  refine ⟨r1, ⟨r2.1, fun t ht => ?_⟩, r3.lx x (fun p _ => rfl) rfl (fun k hk => rfl), r4, r5, r6⟩
  obtain ⟨q1, q2⟩ := r2.2 t ht
  refine ⟨?_, q2⟩
  by_cases w : t = s
  · rw [w, lput_s, va_up_self]
  · rw [lput_j _ _ w, va_up_ne _ _ (by omega)]; exact q1
/-- the screen behind a key, by its name -/
theorem ldS_vfd {q : Nat} (g : gN A nv ns) (h1 : 10 < q) (h2 : q < 10 * ns + 10) : ldS A ns q = vfd (nmV A 21 22) ns (kyV A q) := by
  rw [ldS, kyV]
  by_cases w : A 27 q = 0
  · rw [if_pos w, if_pos w, vfd_0 g.2.1]
  · rw [if_neg w, if_neg w, vfd_nm g.2.1 (g.2.2 q w h1 h2)]
theorem kyV_0 {q : Nat} (g : gN A nv ns) (h1 : 10 < q) (h2 : q < 10 * ns + 10) : kyV A q = 0 ↔ A 27 q = 0 := by
  rw [kyV]
  by_cases w : A 27 q = 0
  · rw [if_pos w]; exact ⟨fun _ => w, fun _ => rfl⟩
  · rw [if_neg w, nmL_0, g.2.2 q w h1 h2]; exact ⟨fun q => (by cases q), fun q => absurd q w⟩
/-- the conditions of a part -/
theorem allB_on {p : Nat} {g : Nat → Bool} (i : gI A nv ns np nc pf cb ce cs c0) (hp : p < np) : allB (fun c => decide (¬ A 41 c = nI p) || g c) nc = allB (fun k => g (cb p + k)) (ce p - cb p) := by
  obtain ⟨-, -, g5, ⟨g6, -⟩, -⟩ := i
  obtain ⟨a1, a2, a3, a4⟩ := g5 p hp
  cases w : allB (fun k => g (cb p + k)) (ce p - cb p) with
  | true =>
    refine allB_t _ (fun c hc => ?_)
    by_cases y : cb p ≤ c ∧ c < ce p
    · have := allB_at (k := c - cb p) w (by omega)
      simp only [show cb p + (c - cb p) = c by omega] at this
      rw [this, Bool.or_true]
    · rw [decide_eq_true (show ¬ A 41 c = nI p from fun u => y ((a4 c hc).mp u)), Bool.true_or]
  | false =>
    cases u : allB (fun c => decide (¬ A 41 c = nI p) || g c) nc with
    | false => rfl
    | true =>
      rw [allB_t (g := fun k => g (cb p + k)) (ce p - cb p) (fun k hk => ?_)] at w
      · cases w
      · have h1 := allB_at (k := cb p + k) u (by omega)
        have h2 := (a4 (cb p + k) (by omega)).mpr ⟨by omega, by omega⟩
        simp only [h2, not_true, decide_false, Bool.false_or] at h1
        exact h1
/-- the class's search from the last piece on -/
def sc2 (g : Nat → Int32) (on : Nat → Bool) : Nat → Int32
  | 0 => 32
  | n + 1 => if ¬ g n = 0 ∧ on n = true then g n else sc2 g on n
theorem scn_skip {g : Nat → Int32} {m : Nat} : ∀ n, m ≤ n → (∀ p, m ≤ p → p < n → g p < 0) → scn g n = scn g m := by
  intro n
  induction n with
  | zero => intro h _; rw [show m = 0 by omega]
  | succ n ih =>
    intro h h1
    by_cases w : m = n + 1
    · rw [w]
    · rw [scn, if_pos (h1 n (by omega) (Nat.lt_succ_self _))]; exact ih (by omega) (fun p a b => h1 p a (by omega))
theorem scn_sc2 {g gc : Nat → Int32} {on : Nat → Bool} {a : Nat} (h0 : ∀ p, p < a → g p < 0) : ∀ n, (∀ j, j < n → (¬ gc j = 0 ∧ on j = true → g (a + j) = gc j ∧ ¬ gc j < 0) ∧ (¬ (¬ gc j = 0 ∧ on j = true) → g (a + j) < 0)) → scn g (a + n) = sc2 gc on n := by
  intro n
  induction n with
  | zero =>
    intro _
    rw [Nat.add_zero, scn_skip a (Nat.zero_le _) (fun p _ hp => h0 p hp)]; rfl
  | succ n ih =>
    intro h
    rw [show a + (n + 1) = (a + n) + 1 by omega, scn, sc2]
    obtain ⟨k1, k2⟩ := h n (Nat.lt_succ_self _)
    by_cases w : ¬ gc n = 0 ∧ on n = true
    · rw [if_pos w, if_neg (by rw [(k1 w).1]; exact (k1 w).2), (k1 w).1]
    · rw [if_neg w, if_pos (k2 w)]; exact ih (fun j hj => h j (by omega))
end RPV
