/-! PARTS of a screen, and the WARNING at hand -/
def scB (A : Nat → Nat → Int32) (lang : Int32) (p : Nat) : Bool := decide (A 30 p = 1) && (decide (lang = 1) && !(decide ((A 38 p).toNatClampNeg - (A 37 p).toNatClampNeg = 1) && decide (A 6 (A 37 p).toNatClampNeg = 45)))
def wdV (A : Nat → Nat → Int32) (lang : Int32) (p k : Nat) : Int32 := if scB A lang p = true then (if k < (A 38 p).toNatClampNeg - (A 37 p).toNatClampNeg then A 6 ((A 37 p).toNatClampNeg + k) else -1) else (if k < (A 36 p).toNatClampNeg - (A 35 p).toNatClampNeg then A 6 ((A 35 p).toNatClampNeg + k) else -1)
/-- the sign of part p at a row and a column, -1 if it has none there -/
def ptV (A : Nat → Nat → Int32) (B : Nat → Nat → Int64) (pr lang : Int32) (nc p : Nat) (row : Int32) (col : Nat) : Int32 :=
  if (A 29 p = pr ∧ A 31 p = row ∧ (A 32 p).toNatClampNeg ≤ col) ∧ allB (fun c => decide (¬ A 41 c = nI p) || cnB A B c) nc = true then
    (if A 30 p = 2 then (if col - (A 32 p).toNatClampNeg < (A 34 p).toNatClampNeg then dgF (A 19 (A 33 p).toNatClampNeg) (B 18 (A 33 p).toNatClampNeg) (A 34 p).toNatClampNeg (col - (A 32 p).toNatClampNeg) else -1) else wdV A lang p (col - (A 32 p).toNatClampNeg)) else -1
def ptOK (A : Nat → Nat → Int32) (B : Nat → Nat → Int64) (p : Nat) : Prop := (∃ c0, A 32 p = nI c0 ∧ c0 ≤ 999999) ∧ (A 30 p = 2 → ∃ w v, A 34 p = nI w ∧ 1 ≤ w ∧ w ≤ 9 ∧ A 33 p = nI v ∧ v ≤ 40 ∧ smL (B 18 v)) ∧ (¬ A 30 p = 2 → ∃ q1 q2 q3 q4, A 35 p = nI q1 ∧ A 36 p = nI q2 ∧ q1 ≤ q2 ∧ q2 ≤ 4000 ∧ A 37 p = nI q3 ∧ A 38 p = nI q4 ∧ q3 ≤ q4 ∧ q4 ≤ 4000)
/-- the last part that has a sign there -/
def scn (g : Nat → Int32) : Nat → Int32
  | 0 => 32
  | n + 1 => if g n < 0 then scn g n else g n
theorem cnt_ext {g g' : Nat → Bool} : ∀ n, (∀ j, j < n → g j = g' j) → cnt g n = cnt g' n := by
  intro n
  induction n with
  | zero => intro _; rfl
  | succ n ih => intro h; rw [cnt, cnt, h n (by omega), ih (fun j hj => h j (by omega))]
theorem cnt_tail {g : Nat → Bool} {m : Nat} : ∀ n, m ≤ n → (∀ j, m ≤ j → j < n → g j = false) → cnt g n = cnt g m := by
  intro n
  induction n with
  | zero => intro h _; rw [show m = 0 by omega]
  | succ n ih =>
    intro h h1
    rcases Nat.eq_or_lt_of_le h with q | q
    · rw [q]
    · rw [cnt_f (h1 n (by omega) (by omega))]; exact ih (by omega) (fun j a b => h1 j a (by omega))
theorem cnt_hit {g : Nat → Bool} {t : Nat} : ∀ n, t < cnt g n → ∃ j, j < n ∧ g j = true ∧ cnt g j = t := by
  intro n
  induction n with
  | zero => intro h; exact absurd h (Nat.not_lt_zero _)
  | succ n ih =>
    intro h
    rcases Nat.lt_or_ge t (cnt g n) with q | q
    · obtain ⟨j, a, b⟩ := ih q; exact ⟨j, by omega, b⟩
    · cases hg : g n with
      | false => rw [cnt_f hg] at h; omega
      | true => rw [cnt_t hg] at h; exact ⟨n, by omega, hg, by omega⟩
theorem cnt_pos {g : Nat → Bool} {j : Nat} : ∀ n, j < n → g j = true → 0 < cnt g n := by
  intro n
  induction n with
  | zero => intro h; exact absurd h (Nat.not_lt_zero _)
  | succ n ih =>
    intro h hg
    rcases Nat.eq_or_lt_of_le (Nat.le_of_lt_succ h) with q | q
    · rw [q] at hg; rw [cnt_t hg]; omega
    · rw [cnt]; split
      · omega
      · exact ih q hg
/-- those of the same rank that stand before w, when times don't fall -/
theorem befN_own {rk : Nat → Int32} {tm : Nat → Int64} {ac : Nat → Int32} {n w : Nat} (hw1 : 1 ≤ w) (hw2 : w ≤ n) (hm : ∀ i j, 1 ≤ i → i ≤ j → j ≤ n → tm i ≤ tm j) : befN rk tm ac n w 1 = cnt (fun j => decide (ac (j + 1) = 0) && decide (rk (j + 1) = rk w)) (w - 1) := by
  unfold befN
  rw [cnt_tail (m := w - 1) n (by omega) (fun j h1 h2 => ?_)]
  · refine cnt_ext _ (fun j hj => ?_)
    show (fstB rk tm w 1 (j + 1) && decide (ac (j + 1) = 0)) = _
    rw [Bool.and_comm]
    congr 1
    unfold fstB
    split
    · next h => rw [decide_eq_false (by decide), decide_eq_false (fun e => by rw [e] at h; exact Int32.lt_irrefl h)]
    · have h3 : tm (j + 1) ≤ tm w := hm _ _ (by omega) (by omega) hw2
      have h4 : (decide (tm (j + 1) < tm w) || (decide (tm (j + 1) = tm w) && decide (j + 1 < w))) = true := by
        rw [decide_eq_true (show j + 1 < w by omega), Bool.and_true]
        rcases Int64.lt_or_eq_of_le h3 with q | q
        · rw [decide_eq_true q]; rfl
        · rw [decide_eq_true q, Bool.or_true]
      rw [h4, Bool.and_true]
  · show (fstB rk tm w 1 (j + 1) && decide (ac (j + 1) = 0)) = false
    have h3 : tm w ≤ tm (j + 1) := hm _ _ hw1 (by omega) (by omega)
    have h4 : fstB rk tm w 1 (j + 1) = false := by
      unfold fstB
      split
      · exact decide_eq_false (by decide)
      · rw [decide_eq_false (Int64.not_lt.mpr h3), decide_eq_false (show ¬ j + 1 < w by omega), Bool.and_false, Bool.or_false, Bool.and_false]
    rw [h4]; rfl
