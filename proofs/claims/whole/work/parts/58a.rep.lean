/-! WHAT THE CLASS HOLDS of a text that was read: entries by role. 3, 30: the values' list and its array; 4, 31: the screens'; 10 v: a value; 11 s: a screen; 12, 13, 14, 15 s: its pieces' list and array, its keys' names and screens; 16 p: a piece; 17 c: a condition -/
abbrev eVal (nm : Int64) (st : Int32) (lo hi nw : Int64) (vd : Int32) : va_E := .inr (8, [.long nm, .int st, .long lo, .long hi, .long nw, .int vd])
abbrev eScr (nm : Int64) (ln : Int32) (ps kn ks : Nat) (br lh : Int32) : va_E := .inr (9, [.long nm, .int ln, .ref ps, .ref kn, .ref ks, .int br, .int lh])
abbrev ePut (ro co : Int32) (cn : Option Nat) (w1 w2 : Nat) : va_E := .inr (10, [.ref w1, .ref w2, .int ro, .int co, va_rf cn])
abbrev eSho (ro co : Int32) (cn : Option Nat) (v : Nat) (wd : Int32) : va_E := .inr (11, [.ref v, .int wd, .int ro, .int co, va_rf cn])
abbrev eCon (v : Nat) (op nu : Int32) (bf : Option Nat) : va_E := .inr (12, [.ref v, .int op, .int nu, va_rf bf])
abbrev eLst (ea n : Nat) (md : Int32) : va_E := .inr (2, [.ref ea, .int (nI n), .int md])
abbrev aI (dT : Nat → ClassId) (n : Nat) (f : Nat → Int32) : va_E := .inl (dT 0, n, .inl f)
abbrev aL (dT : Nat → ClassId) (n : Nat) (f : Nat → Int64) : va_E := .inl (dT 1, n, .inr (.inl f))
abbrev aR (dT : Nat → ClassId) (n : Nat) (f : Nat → Option Nat) : va_E := .inl (dT 4, n, .inr (.inr (.inr (.inr f))))
/-- a list of n: its object at (i, j), its array at (i1, j) -/
def rLst (dT : Nat → ClassId) (dE : Nat) (ad : Nat → Nat → Nat) (L : vL) (i i1 j n : Nat) (g : Nat → Nat) : Prop := ∃ ea md, L i j = some (eLst ea n md) ∧ ((n = 0 ∧ ea = dE) ∨ ∃ cap f, ea = ad i1 j ∧ L i1 j = some (aR dT cap f) ∧ (n ≤ cap ∧ 0 < cap ∧ cap ≤ 2000) ∧ ∀ k, k < n → f k = some (g k))
def rVal (dT : Nat → ClassId) (dE : Nat) (ad : Nat → Nat → Nat) (L : vL) (A : Nat → Nat → Int32) (B : Nat → Nat → Int64) (nv : Nat) : Prop := rLst dT dE ad L 3 30 0 nv (ad 10) ∧ ∀ v, v < nv → L 10 v = some (eVal (nmV A 13 14 (v + 1)) (A 15 (v + 1)) (if A 15 (v + 1) = 0 then -999999 else B 16 (v + 1)) (if A 15 (v + 1) = 0 then 999999 else B 17 (v + 1)) (B 18 (v + 1)) (A 19 (v + 1)))
/-- a key's name -/
def kyV (A : Nat → Nat → Int32) (q : Nat) : Int64 := if A 27 q = 0 then 0 else nmL (A 6) (A 26 q).toNatClampNeg (A 27 q).toNatClampNeg
def brI (x : Int64) : Int32 := if x = 1000 then 999 else x.toInt32
def rScr (dT : Nat → ClassId) (dE : Nat) (ad : Nat → Nat → Nat) (L : vL) (A : Nat → Nat → Int32) (B : Nat → Nat → Int64) (ns : Nat) (pf : Nat → Nat) (lh : Nat → Bool) (ks : Nat → Nat → Int32) : Prop := rLst dT dE ad L 4 31 0 ns (ad 11) ∧ ∀ s, s < ns → L 11 s = some (eScr (nmV A 21 22 (s + 1)) (A 23 (s + 1)) (ad 12 s) (ad 14 s) (ad 15 s) (brI (B 24 (s + 1))) (bI (lh (s + 1)))) ∧ rLst dT dE ad L 12 13 s (pf (s + 1) - pf s) (fun k => ad 16 (pf s + k)) ∧ (∃ g, L 14 s = some (aL dT 10 g) ∧ ∀ k, 1 ≤ k → k ≤ 9 → g k = kyV A (10 * (s + 1) + k)) ∧ (∃ g, L 15 s = some (aI dT 10 g) ∧ ∀ k, 1 ≤ k → k ≤ 9 → g k = ks (s + 1) k) ∧ (0 ≤ (B 24 (s + 1)).toInt ∧ (B 24 (s + 1)).toInt ≤ 1000) ∧ ∃ l, A 23 (s + 1) = nI l ∧ 1 ≤ l ∧ l ≤ 5000
/-- a string that nothing writes -/
def fStr (dT : Nat → ClassId) (h : vH) (ad : Nat → Nat → Nat) (L : vL) (w n : Nat) (g : Nat → Int32) : Prop := ∃ av v2 v3, (h w = some (.inr (0, [.ref av, .int 0, v2, v3])) ∧ ¬ vOwn ad L w) ∧ h av = some (.inl (dT 2, n, .inl g)) ∧ ¬ vOwn ad L av
theorem LX.frz {h0 h : vH} {ad0 ad : Nat → Nat → Nat} {L0 L : vL} (p : LX h0 ad0 L0 h ad L) {b : Nat} {e : va_E} (k : h0 b = some e ∧ ¬ vOwn ad0 L0 b) : h b = some e ∧ ¬ vOwn ad L b := by
  refine ⟨p.1 b e k.1 k.2, ?_⟩
  rintro ⟨i, j, e1, q, r⟩
  rcases p.2 i j e1 q with w | w
  · rw [r] at w; exact k.2 w
  · rw [r, k.1] at w; cases w
theorem fStr.lx {dT : Nat → ClassId} {h0 h : vH} {ad0 ad : Nat → Nat → Nat} {L0 L : vL} {w n : Nat} {g : Nat → Int32} (x : fStr dT h0 ad0 L0 w n g) (p : LX h0 ad0 L0 h ad L) : fStr dT h ad L w n g := by
  obtain ⟨av, v2, v3, k1, k2⟩ := x
  exact ⟨av, v2, v3, p.frz k1, p.frz k2⟩
/-- the string of a word of the text -/
def wStr (dT : Nat → ClassId) (h : vH) (ad : Nat → Nat → Nat) (L : vL) (f : Nat → Int32) (w F T : Nat) : Prop := ∃ g, fStr dT h ad L w (T - F) g ∧ ∀ k, k < T - F → g k = f (F + k)
theorem wStr.lx {dT : Nat → ClassId} {h0 h : vH} {ad0 ad : Nat → Nat → Nat} {L0 L : vL} {w F T : Nat} {f : Nat → Int32} (x : wStr dT h0 ad0 L0 f w F T) (p : LX h0 ad0 L0 h ad L) : wStr dT h ad L f w F T := by
  obtain ⟨g, k1, k2⟩ := x
  exact ⟨g, k1.lx p, k2⟩
/-- the last condition of a part, and of those that wait -/
def chn (ad : Nat → Nat → Nat) (a b : Nat) : Option Nat := if a < b then some (ad 17 (b - 1)) else none
/-- the second word of part p is its own -/
def ownB (A : Nat → Nat → Int32) (p : Nat) : Bool := decide (A 30 p = 1) && !(decide ((A 38 p).toNatClampNeg - (A 37 p).toNatClampNeg = 1) && decide (A 6 (A 37 p).toNatClampNeg = 45))
def rPar (dT : Nat → ClassId) (h : vH) (ad : Nat → Nat → Nat) (L : vL) (A : Nat → Nat → Int32) (np : Nat) (cb ce : Nat → Nat) : Prop := ∀ p, p < np → (A 30 p = 2 → L 16 p = some (eSho (A 31 p) (A 32 p) (chn ad (cb p) (ce p)) (ad 10 ((A 33 p).toNatClampNeg - 1)) (A 34 p))) ∧ (¬ A 30 p = 2 → ∃ w1 w2, L 16 p = some (ePut (A 31 p) (A 32 p) (chn ad (cb p) (ce p)) w1 w2) ∧ wStr dT h ad L (A 6) w1 (A 35 p).toNatClampNeg (A 36 p).toNatClampNeg ∧ if ownB A p = true then wStr dT h ad L (A 6) w2 (A 37 p).toNatClampNeg (A 38 p).toNatClampNeg else w2 = w1)
def rCon (ad : Nat → Nat → Nat) (L : vL) (A : Nat → Nat → Int32) (B : Nat → Nat → Int64) (nc : Nat) (cs : Nat → Nat) : Prop := ∀ c, c < nc → L 17 c = some (eCon (ad 10 ((A 42 c).toNatClampNeg - 1)) (A 43 c) (B 44 c).toInt32 (if cs c < c then some (ad 17 (c - 1)) else none)) ∧ (B 44 c).toInt32.toInt64 = B 44 c
/-- parts stand by screens, conditions by parts; those from c0 on wait -/
def gI (A : Nat → Nat → Int32) (nv ns np nc : Nat) (pf cb ce cs : Nat → Nat) (c0 : Nat) : Prop := (pf 0 = 0 ∧ pf ns = np ∧ ∀ s, s < ns → pf s ≤ pf (s + 1)) ∧ (∀ s p, s < ns → pf s ≤ p → p < pf (s + 1) → A 29 p = nI (s + 1)) ∧ (∀ p, p < np → cb p ≤ ce p ∧ ce p ≤ c0 ∧ (∀ c, cb p ≤ c → c < ce p → cs c = cb p) ∧ ∀ c, c < nc → (A 41 c = nI p ↔ cb p ≤ c ∧ c < ce p)) ∧ (c0 ≤ nc ∧ (∀ c, c0 ≤ c → c < nc → A 40 c = nI ns ∧ A 41 c = -1 ∧ cs c = c0) ∧ ∀ c, c < c0 → A 40 c = nI ns → ¬ A 41 c < 0) ∧ (∀ c, c < nc → ∃ v, A 42 c = nI v ∧ 1 ≤ v ∧ v ≤ nv) ∧ (∀ p, p < np → A 30 p = 2 → ∃ v, A 33 p = nI v ∧ 1 ≤ v ∧ v ≤ nv) ∧ (∀ c, c < nc → ∃ s, A 40 c = nI s ∧ s ≤ ns) ∧ ∀ c, c < nc → A 41 c = -1 ∨ ∃ p, p < np ∧ A 41 c = nI p
/-- names are NAMES -/
def gN (A : Nat → Nat → Int32) (nv ns : Nat) : Prop := nmsP A 13 14 nv ∧ nmsP A 21 22 ns ∧ ∀ q, ¬ A 27 q = 0 → 10 < q → q < 10 * ns + 10 → isNm (A 6) (A 26 q).toNatClampNeg (A 27 q).toNatClampNeg = true
/-- what the heap has of a list -/
def hLst (dT : Nat → ClassId) (dE z : Nat) (h : vH) (la ea n cap : Nat) (f : Nat → Option Nat) (md : Int32) : Prop := h la = some (eLst ea n md) ∧ z ≤ la ∧ h ea = some (aR dT cap f) ∧ (n ≤ cap ∧ cap ≤ 2000) ∧ ((n = 0 ∧ ea = dE ∧ cap = 0) ∨ (z ≤ ea ∧ ea ≠ dE ∧ 0 < cap))
section LSTS
variable {dT : Nat → ClassId} {dE z : Nat} {hc h0 h h' : vH} {ad0 ad : Nat → Nat → Nat} {L0 L : vL} {i i1 j n : Nat} {g : Nat → Nat}
theorem rLst.hp (r : rLst dT dE ad L i i1 j n g) (x : LH z hc h ad L) {fE : Nat → Option Nat} (hE : hc dE = some (aR dT 0 fE)) : ∃ ea cap f md, hLst dT dE z h (ad i j) ea n cap f md ∧ (∀ k, k < n → f k = some (g k)) ∧ L i j = some (eLst ea n md) ∧ (ea = dE ∨ (ea = ad i1 j ∧ L i1 j = some (aR dT cap f))) := by
  obtain ⟨ea, md, k1, k2⟩ := r
  rcases k2 with ⟨k2, k3⟩ | ⟨cap, f, k2, k3, k4, k5⟩
  · refine ⟨ea, 0, fE, md, ⟨x.get k1, x.wr k1, ?_, ⟨by omega, by omega⟩, Or.inl ⟨k2, k3, rfl⟩⟩, fun k hk => by omega, k1, Or.inl k3⟩
    rw [k3]; exact x.old hE
  · refine ⟨ea, cap, f, md, ⟨x.get k1, x.wr k1, ?_, ⟨k4.1, k4.2.2⟩, Or.inr ⟨by rw [k2]; exact x.wr k3, fun q => ?_, k4.2.1⟩⟩, k5, k1, Or.inr ⟨k2, k3⟩⟩
    · rw [k2]; exact x.get k3
    · have := (x.1 _ _ hE).1
      have := x.wr k3
      omega
theorem lst_add (x : LR z hc h0 ad0 L0 h ad L) (hi : i1 ≠ i) {ea cap q : Nat} {f : Nat → Option Nat} {md : Int32} (hl : L i j = some (eLst ea n md)) (hea : ea = dE ∨ (ea = ad i1 j ∧ L i1 j = some (aR dT cap f))) (ke : h ea = some (aR dT cap f)) (hcap : cap ≤ 2000) (hn9 : n ≤ 900) (hdE : dE < z) (hf : ∀ k, k < n → f k = some (g k)) (p : lAdd dT z h h' (ad i j) ea n f q) : ∃ b e1 e2, LR z hc h0 ad0 L0 h' (lput ad i1 j b) (lput (lput L i j (some e1)) i1 j (some e2)) ∧ (∃ ea' md' cap' f', e1 = eLst ea' (n + 1) md' ∧ b = ea' ∧ e2 = aR dT cap' f' ∧ (n + 1 ≤ cap' ∧ cap' ≤ 2000) ∧ (∀ k, k < n → f' k = some (g k)) ∧ f' n = some q) := by
  obtain ⟨ea', md', cap', f', p1, p2, p3, p4, p5, p6, p7, p8, p9⟩ := p
  refine ⟨ea', eLst ea' (n + 1) md', aR dT cap' f', ?_, ea', md', cap', f', rfl, rfl, rfl, ⟨p4, by have := p9 cap _ ke; omega⟩, fun k hk => by rw [p5 k hk]; exact hf k hk, p6⟩
  refine x.two hl (fun w => hi w.1) p7 (fun c w => ?_) p1 p2 ?_
  · rcases w with w | ⟨w, w2⟩
    · exact Or.inl w
    · right
      rcases hea with v | ⟨v1, v2⟩
      · omega
      · exact ⟨w.trans v1, _, v2⟩
  · rcases p8 with ⟨w, w2⟩ | w
    · left
      rcases hea with v | ⟨v1, v2⟩
      · omega
      · exact ⟨w.trans v1, _, v2⟩
    · exact Or.inr ⟨w, p3⟩
/-- the list then -/
theorem rLst.grown {b : Nat} {e1 e2 : va_E} {q : Nat} {L2 : vL} (hi : i1 ≠ i) (k : ∃ ea' md' cap' f', e1 = eLst ea' (n + 1) md' ∧ b = ea' ∧ e2 = aR dT cap' f' ∧ (n + 1 ≤ cap' ∧ cap' ≤ 2000) ∧ (∀ k, k < n → f' k = some (g k)) ∧ f' n = some q) (hL : L2 = lput (lput L i j (some e1)) i1 j (some e2)) {g' : Nat → Nat} (hg : ∀ k, k < n → g' k = g k) (hq : g' n = q) : rLst dT dE (lput ad i1 j b) L2 i i1 j (n + 1) g' := by
  obtain ⟨ea', md', cap', f', k1, k2, k3, k4, k5, k6⟩ := k
  subst hL
  refine ⟨ea', md', ?_, Or.inr ⟨cap', f', ?_, ?_, ⟨k4.1, by omega, k4.2⟩, fun k hk => ?_⟩⟩
  · rw [lput_i _ _ (Ne.symm hi), lput_s, k1]
  · rw [lput_s, k2]
  · rw [lput_s, k3]
  · by_cases w : k = n
    · rw [w, k6, hq]
    · rw [k5 k (by omega), hg k (by omega)]
/-- a list whose cells stay -/
theorem rLst.kept {ad' : Nat → Nat → Nat} {L' : vL} {g' : Nat → Nat} (r : rLst dT dE ad L i i1 j n g) (k1 : L' i j = L i j) (k2 : L' i1 j = L i1 j) (k3 : ad' i1 j = ad i1 j) (hg : ∀ k, k < n → g' k = g k) : rLst dT dE ad' L' i i1 j n g' := by
  obtain ⟨ea, md, q1, q2⟩ := r
  refine ⟨ea, md, k1.trans q1, ?_⟩
  rcases q2 with q2 | ⟨cap, f, q2, q3, q4, q5⟩
  · exact Or.inl q2
  · exact Or.inr ⟨cap, f, by rw [k3]; exact q2, k2.trans q3, q4, fun k hk => by rw [hg k hk]; exact q5 k hk⟩
end LSTS
