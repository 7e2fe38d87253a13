/-! LEAVES of the class -/
theorem vup_id {h : vH} {a : Nat} {e : va_E} (k : h a = some e) : vup h a e = h := funext (fun b => by
  by_cases q : b = a
  · rw [q, vup_s, k]
  · rw [vup_n _ _ q])
theorem nar_c0 : ∀ c, c < 128 → narrow .char (.int (nI c)) = .int (nI c) ∧ fits .char (.int (nI c)) = true := by decide +kernel
theorem nar_c {c : Nat} (h : c < 128) : narrow .char (.int (nI c)) = .int (nI c) := (nar_c0 c h).1
theorem fit_c {c : Nat} (h : c < 128) : fits .char (.int (nI c)) = true := (nar_c0 c h).2
theorem nar_q (r : Option Nat) {n : String} : narrow (.object n) (va_rf r) = va_rf r := by cases r <;> rfl
theorem fit_q (r : Option Nat) {n : String} : fits (.object n) (va_rf r) = true := by cases r <;> rfl
/-- a condition of a value -/
def hlB (vd op : Int32) (nw nu : Int64) : Bool := decide (¬ vd = 0) && (if op = 61 then decide (nw = nu) else if op = 60 then decide (nw < nu) else decide (nu < nw))
theorem cnB_hl (A : Nat → Nat → Int32) (B : Nat → Nat → Int64) (c : Nat) : cnB A B c = hlB (A 19 (A 42 c).toNatClampNeg) (A 43 c) (B 18 (A 42 c).toNatClampNeg) (B 44 c) := rfl
/-- a word's sign at a place -/
def wSg (f : Nat → Int32) (n : Nat) (pl : Int32) : Int32 := if pl < 0 then 0 else if pl < nI n then f pl.toNatClampNeg else 0
/-- a value's sign from the right -/
def sfR (nw : Int64) (n k : Nat) : Int32 := if n < (if nw < 0 then dgc nw.toInt.natAbs + 1 else dgc nw.toInt.natAbs) then 35 else if dgc nw.toInt.natAbs ≤ k then (if k = dgc nw.toInt.natAbs ∧ nw < 0 then 45 else 32) else nI (48 + nw.toInt.natAbs / 10 ^ k % 10)
theorem dgF_s (vd : Int32) (nw : Int64) (n k : Nat) : dgF vd nw n k = if vd = 0 then 45 else sfR nw n (n - 1 - k) := rfl
theorem dgc_6 (m : Nat) : 1 ≤ dgc m ∧ dgc m ≤ 6 := by
  unfold dgc
  repeat' split
  all_goals omega
theorem absL {z : Int64} (hs : smL z) : (if 0 < z then z else -z) = lN z.toInt.natAbs := by
  by_cases q : 0 < z
  · rw [if_pos q]; exact absP (Int64.not_lt.mpr (Int64.le_of_lt q)) hs
  · rw [if_neg q]
    by_cases w : z < 0
    · exact absN w hs
    · have h1 : z.toInt = 0 := by
        have a1 : ¬ 0 < z.toInt := fun y => q (Int64.lt_iff_toInt_lt.mpr y)
        have a2 : ¬ z.toInt < 0 := fun y => w (Int64.lt_iff_toInt_lt.mpr y)
        omega
      rw [negL (m := 0) (by rw [h1]; rfl) (by decide), h1]; rfl
