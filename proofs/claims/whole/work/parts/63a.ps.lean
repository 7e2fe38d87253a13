/-! WHILE A TEXT IS READ -/
theorem lput_k {α : Type} (L : Nat → Nat → α) {i j i' : Nat} (x : α) (n : i' ≠ i) : lput L i j x i' = L i' := funext (fun _ => lput_i L x n)
/-- roles that a line doesn't touch -/
def kK (i : Nat) : Prop := ¬ (i = 3 ∨ i = 4 ∨ i = 6 ∨ (9 < i ∧ i < 18) ∨ i = 30 ∨ i = 31)
/-- roles whose places stay -/
def kA (i : Nat) : Prop := kK i ∨ i = 3 ∨ i = 4 ∨ i = 6
theorem kK_n {i n : Nat} (hi : kK i) (hn : (9 < n ∧ n < 18) ∨ n = 30 ∨ n = 31 ∨ n = 3 ∨ n = 4 ∨ n = 6) : i ≠ n := fun z => hi (by omega)
theorem kA_n {i n : Nat} (hi : kA i) (hn : (9 < n ∧ n < 18) ∨ n = 30 ∨ n = 31) : i ≠ n := fun z => by
  rcases hi with hi | hi
  · exact hi (by omega)
  · omega
def PR (dT : Nat → ClassId) (dE : Nat) (h : vH) (ad : Nat → Nat → Nat) (L : vL) (A : Nat → Nat → Int32) (B : Nat → Nat → Int64) (nv ns np nc : Nat) (pf cb ce cs : Nat → Nat) (c0 : Nat) (rc : Int32) : Prop := RP dT dE h ad L A B nv ns np nc pf cb ce cs c0 (fun _ => false) (fun _ _ => 0) ∧ L 2 0 = some (.inr (4, [.ref (ad 3 0), .ref (ad 4 0), .ref (ad 5 0), .int rc])) ∧ L 6 0 = some (.inr (5, [.ref (ad 2 0), .ref (ad 7 0), va_rf (if 0 < ns then some (ad 11 (ns - 1)) else none), va_rf (if c0 < nc then some (ad 17 (nc - 1)) else none)]))
/-- its line: the text is the string at t, of N signs f -/
def PT (dT : Nat → ClassId) (z : Nat) (h : vH) (ad : Nat → Nat → Nat) (L : vL) (f : Nat → Int32) (N en bg cw : Nat) : Prop := ∃ t tv z2 z3 f8 fs fe, (h t = some (.inr (0, [.ref tv, .int 0, z2, z3])) ∧ ¬ vOwn ad L t) ∧ (h tv = some (.inl (dT 2, N, .inl f8)) ∧ ¬ vOwn ad L tv) ∧ z ≤ tv ∧ L 7 0 = some (.inr (6, [.ref (ad 7 1), .ref (ad 7 2), .ref t, .int (nI cw)])) ∧ L 7 1 = some (aI dT 6 fs) ∧ L 7 2 = some (aI dT 6 fe) ∧ lnW f en bg cw fs fe ∧ bg ≤ en ∧ en ≤ N ∧ N ≤ 4000 ∧ ∀ k, k < N → f8 k = f k ∧ ∃ c0, 0 < c0 ∧ c0 < 128 ∧ f k = nI c0
/-- what a line did: ok it is right -/
def tkP (dT : Nat → ClassId) (dE z : Nat) (hcv h0 : vH) (ad : Nat → Nat → Nat) (L : vL) (rc : Int32) (A : Nat → Nat → Int32) (B : Nat → Nat → Int64) (nv ns np nc : Nat) (pf cb ce cs : Nat → Nat) (c0 : Nat) (ok : Bool) (A' : Nat → Nat → Int32) (B' : Nat → Nat → Int64) (nv' ns' np' nc' : Nat) (r : Int32) (h' : vH) : Prop := ∃ ad' L', LR z hcv h0 ad L h' ad' L' ∧ (∀ i, (kK i → L' i = L i) ∧ (kA i → ad' i = ad i)) ∧ ((ok = true ∧ r = 1 ∧ ∃ pf' cb' ce' cs' c0', PR dT dE h' ad' L' A' B' nv' ns' np' nc' pf' cb' ce' cs' c0' rc) ∨ (ok = false ∧ r = 0 ∧ PR dT dE h' ad' L' A B nv ns np nc pf cb ce cs c0 rc))
section PSS
variable {dT : Nat → ClassId} {dE z : Nat} {hcv h0 h' : vH} {ad : Nat → Nat → Nat} {L : vL} {rc : Int32} {A A' : Nat → Nat → Int32} {B B' : Nat → Nat → Int64} {nv ns np nc nv' ns' np' nc' : Nat} {pf cb ce cs : Nat → Nat} {c0 : Nat} {ok : Bool}
/-- a wrong line -/
theorem tkP_no (x : LH z hcv h0 ad L) (hR : PR dT dE h0 ad L A B nv ns np nc pf cb ce cs c0 rc) (p : vfx (fun _ => False) h0 h') (ho : ok = false) : tkP dT dE z hcv h0 ad L rc A B nv ns np nc pf cb ce cs c0 ok A' B' nv' ns' np' nc' 0 h' := by
  have hl : LR z hcv h0 ad L h' ad L := (LR.of x).fx p
  exact ⟨ad, L, hl, fun i => ⟨fun _ => rfl, fun _ => rfl⟩, Or.inr ⟨ho, rfl, hR.1.to hl.2 (fun i _ => ⟨rfl, rfl⟩), hR.2⟩⟩
theorem elO_of {h : vH} {f : Nat → Option Nat} {g : Nat → Nat} {n : Nat} (hf : ∀ k, k < n → f k = some (g k)) (hv : ∀ k, k < n → ∃ ci fs, h (g k) = some (.inr (ci, fs)) ∧ (ci = 8 ∨ ci = 9 ∨ ci = 10 ∨ ci = 11)) : elO h f n := fun k hk y hy => by
  rw [hf k hk] at hy
  injection hy with hy
  rw [← hy]; exact hv k hk
end PSS
