/-! LISTS -/
section ALROWS
variable {p : Program} {s : State} {m : MethodId} {args : Array Value} {c : Code} {H : Heap} {locs : List Loc} {cc : ByteArray} {nL : Nat} {D : va_G} {tys : List (ClassId × FieldType)} {own : String} {Ts : List Cond} {S0 : State} {h : vH} {a : Nat}
theorem mv_anyO (C : vC p s m args c cc nL own Ts D vcl tys) (X : vO S0 D vcl h s H locs) {dE mO : Nat} (hJ : vJ S0 dE mO) {ci : Nat} {fs : List Value} {r : vw_C} (ha : h a = some (.inr (ci, fs))) (hc : vcl[ci]? = some r) (hi : ci = 8 ∨ ci = 9 ∨ ci = 10 ∨ ci = 11) : va_Any "java/lang/Object" s H a := mv_any C X ha hc (vb_asgC (va_Nw.warmC X.1.1 (hJ.2.2.2.2.2.2.2.2.2 _ hi _ hc)))
/-- what an array holds are objects of the class's -/
def elO (h : vH) (f : Nat → Option Nat) (n : Nat) : Prop := ∀ k, k < n → ∀ y, f k = some y → ∃ ci fs, h y = some (.inr (ci, fs)) ∧ (ci = 8 ∨ ci = 9 ∨ ci = 10 ∨ ci = 11)
theorem elO.any (C : vC p s m args c cc nL own Ts D vcl tys) (X : vO S0 D vcl h s H locs) {dE mO : Nat} (hJ : vJ S0 dE mO) {f : Nat → Option Nat} {n k y : Nat} (he : elO h f n) (hk : k < n) (hy : f k = some y) : va_Any "java/lang/Object" s H y := by
  obtain ⟨ci, fs, h1, h2⟩ := he k hk y hy
  rcases h2 with r | r | r | r <;> subst r <;> exact mv_anyO C X hJ h1 rfl (by decide)
theorem elO.new {f : Nat → Option Nat} {n q : Nat} {e : va_E} (he : elO h f n) (zq : h q = none) : elO (vup h q e) f n := fun k hk y hy => by
  obtain ⟨ci, fs, h1, h2⟩ := he k hk y hy
  exact ⟨ci, fs, by rw [vup_n _ _ (vnf h1 zq)]; exact h1, h2⟩
theorem elO.up {f : Nat → Option Nat} {n q : Nat} {e e0 : va_E} (he : elO h f n) (kq : h q = some e0) (n0 : ∀ ci fs, e0 = .inr (ci, fs) → ¬ (ci = 8 ∨ ci = 9 ∨ ci = 10 ∨ ci = 11)) : elO (vup h q e) f n := fun k hk y hy => by
  obtain ⟨ci, fs, h1, h2⟩ := he k hk y hy
  refine ⟨ci, fs, ?_, h2⟩
  rw [vup_n _ _ (fun z => ?_)]
  · exact h1
  · rw [z, kq] at h1
    exact n0 ci fs (Option.some.inj h1) h2
end ALROWS
theorem no_c2 {fs0 : List Value} : ∀ ci fs, (.inr (2, fs0) : va_E) = .inr (ci, fs) → ¬ (ci = 8 ∨ ci = 9 ∨ ci = 10 ∨ ci = 11) := fun ci fs e => by
  injection e with e
  injection e with e _
  omega
theorem al_shr {n : Nat} (h : n < 2 ^ 30) : (nI n) >>> ((1 : Int32) &&& 31) = nI (n / 2) := by
  have := pk_shrN (n := n) (by omega) ((1 : Int32) &&& 31) 1 (by decide)
  rw [Nat.pow_one] at this; exact this
theorem vup_idJ {h : vH} {a : Nat} {e : va_E} (k : h a = some e) : vup h a e = h := funext (fun b => by
  by_cases q : b = a
  · rw [q, vup_s, k]
  · rw [vup_n _ _ q])
/-- what a list's add does: la its object, ea its array, n its size, f what the array holds -/
def lAdd (dT : Nat → ClassId) (z : Nat) (h h' : vH) (la ea n : Nat) (f : Nat → Option Nat) (q : Nat) : Prop := ∃ (ea' : Nat) (md' : Int32) (cap' : Nat) (f' : Nat → Option Nat), h' la = some (.inr (2, [.ref ea', .int (nI (n + 1)), .int md'])) ∧ h' ea' = some (.inl (dT 4, cap', .inr (.inr (.inr (.inr f'))))) ∧ z ≤ ea' ∧ n + 1 ≤ cap' ∧ (∀ k, k < n → f' k = f k) ∧ f' n = some q ∧ vfx (fun b => b = la ∨ (b = ea ∧ z ≤ b)) h h' ∧ ((ea' = ea ∧ z ≤ ea) ∨ h ea' = none) ∧ ∀ c0 y, h ea = some (.inl (dT 4, c0, y)) → cap' = c0 ∨ cap' ≤ 10 + 2 * n
theorem lAdd.up {dT : Nat → ClassId} {z : Nat} {h h' : vH} {la ea n : Nat} {f : Nat → Option Nat} {q : Nat} {e : va_E} {e0 : Nat × List Value} (k : h la = some (.inr e0)) (x : lAdd dT z (vup h la e) h' la ea n f q) : lAdd dT z h h' la ea n f q := by
  obtain ⟨ea', md', cap', f', p1, p2, p3, p4, p5, p6, p7, p8, p9⟩ := x
  refine ⟨ea', md', cap', f', p1, p2, p3, p4, p5, p6, fun b y w g => p7 b y (by rw [vup_n _ _ (fun r => g (Or.inl r))]; exact w) g, ?_, fun c0 y w => p9 c0 y (by rw [vup_n _ _ (fun r => by rw [r, k] at w; cases w)]; exact w)⟩
  rcases p8 with p8 | p8
  · exact Or.inl p8
  · right
    by_cases r : ea' = la
    · rw [r, vup_s] at p8; cases p8
    · rw [vup_n _ _ r] at p8; exact p8
theorem arr_cap {h : vH} {a n c0 : Nat} {t : ClassId} {y z : (Nat → Int32) ⊕ (Nat → Int64) ⊕ (Nat → UInt32) ⊕ (Nat → UInt64) ⊕ (Nat → Option Nat)} (k : h a = some (.inl (t, n, y))) (w : h a = some (.inl (t, c0, z))) : n = c0 := by
  rw [k] at w
  injection w with w
  injection w with w
  injection w with _ w
  injection w with w _
