/-! LINES: what the reference asks of the words from i on, before the end e -/
def q7 (p0 p1 p2 p3 p4 p5 p6 : Int32) (k : Nat) : Int32 := if k = 0 then p0 else if k = 1 then p1 else if k = 2 then p2 else if k = 3 then p3 else if k = 4 then p4 else if k = 5 then p5 else p6
def cNm (f : Nat → Int32) (e i : Nat) : Bool := decide (nF f e i < nT f e i) && isNm f (nF f e i) (nT f e i)
def cNu (f : Nat → Int32) (e i : Nat) (lo hi : Int64) : Bool := decide (nF f e i < nT f e i) && (isNu f (nF f e i) (nT f e i) && (decide (lo ≤ nuV f (nF f e i) (nT f e i)) && decide (nuV f (nF f e i) (nT f e i) ≤ hi)))
/-- the number of the word there -/
def vNu (f : Nat → Int32) (e i : Nat) : Int64 := nuV f (nF f e i) (nT f e i)
def cEnd (f : Nat → Int32) (e i : Nat) : Bool := decide (¬ nF f e i < nT f e i)
/-- the value, the screen of that name -/
def fV (A : Nat → Nat → Int32) (n F T : Nat) : Nat := fnd (fun v => smW (A 6) (A 13 v).toNatClampNeg (A 14 v).toNatClampNeg F T) n 1
def fS (A : Nat → Nat → Int32) (n F T : Nat) : Nat := fnd (fun v => smW (A 6) (A 21 v).toNatClampNeg (A 22 v).toNatClampNeg F T) n 1
/-- a wrong line changes nothing but what is kept of a part that isn't counted -/
def lKeep (A A' : Nat → Nat → Int32) (B B' : Nat → Nat → Int64) : Prop := (∀ k, k < 31 ∨ 38 < k → A' k = A k) ∧ B' = B
theorem lKeep.rf {A : Nat → Nat → Int32} {B : Nat → Nat → Int64} : lKeep A A B B := ⟨fun _ _ => rfl, rfl⟩
/-- k places from q on made 0 -/
def kz (f : Nat → Int32) (q : Nat) : Nat → (Nat → Int32)
  | 0 => f
  | k + 1 => upd (kz f q k) (q + k) 0
/-- a screen's line is right -/
def okSc (A : Nat → Nat → Int32) (e i ns : Nat) : Bool := cNm (A 6) e i && (decide (fS A ns (nF (A 6) e i) (nT (A 6) e i) = 0) && (decide (ns ≠ 30) && cEnd (A 6) e (nT (A 6) e i)))
/-- a key's line -/
def okKe (A : Nat → Nat → Int32) (e i ns : Nat) : Bool := cNu (A 6) e i 1 9 && (cNm (A 6) e (nT (A 6) e i) && (cEnd (A 6) e (nT (A 6) e (nT (A 6) e i)) && decide (A 27 (10 * ns + (vNu (A 6) e i).toInt32.toNatClampNeg) ≤ 0)))
/-- an if line -/
def okIf (A : Nat → Nat → Int32) (e i nv : Nat) : Bool := cNm (A 6) e i && (decide (fV A nv (nF (A 6) e i) (nT (A 6) e i) ≠ 0) && ((decide (nF (A 6) e (nT (A 6) e i) < nT (A 6) e (nT (A 6) e i)) && decide (nT (A 6) e (nT (A 6) e i) - nF (A 6) e (nT (A 6) e i) = 1)) && ((decide (A 6 (nF (A 6) e (nT (A 6) e i)) = 61) || (decide (A 6 (nF (A 6) e (nT (A 6) e i)) = 60) || decide (A 6 (nF (A 6) e (nT (A 6) e i)) = 62))) && (cNu (A 6) e (nT (A 6) e (nT (A 6) e i)) (-999999) 999999 && cEnd (A 6) e (nT (A 6) e (nT (A 6) e (nT (A 6) e i)))))))
theorem fnd_le (g : Nat → Bool) (n k : Nat) : fnd g n k ≤ k + n := by
  rcases fnd_in g n k with h | ⟨-, h, -⟩
  · rw [h]; exact Nat.zero_le _
  · omega
theorem l64_in {z : Int64} {lo hi : Nat} (h1 : lN lo ≤ z) (h2 : z ≤ lN hi) (hl : lo < 2 ^ 62) (hh : hi < 2 ^ 62) : ∃ K : Nat, lo ≤ K ∧ K ≤ hi ∧ z = lN K := by
  have a1 := Int64.le_iff_toInt_le.mp h1
  have a2 := Int64.le_iff_toInt_le.mp h2
  rw [pk_lT (by omega)] at a1 a2
  refine ⟨z.toInt.toNat, by omega, by omega, posL (by omega) (by omega)⟩
theorem cNu_in {f : Nat → Int32} {e i : Nat} {lo hi : Int64} (h : cNu f e i lo hi = true) : lo ≤ vNu f e i ∧ vNu f e i ≤ hi := by
  unfold cNu at h
  rw [Bool.and_eq_true, Bool.and_eq_true, Bool.and_eq_true] at h
  exact ⟨of_decide_eq_true h.2.2.1, of_decide_eq_true h.2.2.2⟩
