section CRV
variable {dT : Nat → ClassId} {dE z cap : Nat} {hcv h0 h h' : vH} {ad : Nat → Nat → Nat} {L L' : vL} {x x' : Nat → Int32} {y y' : Nat → Int64} {A : Nat → Nat → Int32} {B : Nat → Nat → Int64}
/-- a value has a new number -/
theorem CR.val {k nv : Nat} {nw : Int64} {vd : Int32} (hC : CR dT dE h ad L cap x y A B) (env : x 12 = nI nv) (hnv : nv ≤ 40) (hk : k < nv)
    (hL : L' = lput L 10 k (some (eVal (nmV A 13 14 (k + 1)) (A 15 (k + 1)) (if A 15 (k + 1) = 0 then -999999 else B 16 (k + 1)) (if A 15 (k + 1) = 0 then 999999 else B 17 (k + 1)) nw vd))) (lx : LX h ad L h' ad L') (hs : smL nw) :
    CR dT dE h' ad L' cap (upd x 0 0) y (va_up A 19 (upd (A 19) (k + 1) vd)) (va_up B 18 (vp_updL (B 18) (k + 1) nw)) := by
  obtain ⟨c1, c2, c3, c4, c5, c6, c7, ⟨nv2, ns, np, nc, pf, cb, ce, cs, c0, lh, d1, d2, d3, d4, d5⟩, c9, c10⟩ := hC
  have en : nv2 = nv := nI_eqI (by omega) (by omega) (d1.1.symm.trans env)
  subst en
  have sm : ∀ v, smL ((va_up B 18 (vp_updL (B 18) (k + 1) nw)) 18 v) := fun v => by
    show smL (vp_updL (B 18) (k + 1) nw v)
    by_cases w : v = k + 1
    · simp [vp_updL, w]; exact hs
    · simp [vp_updL, w]; exact c10 v
  have r := RP_now (j := k + 1) (nw := nw) (vd := vd) d3 (by omega) (by omega) hL lx
  subst hL
  refine ⟨c1, c2, c3, c4, c5, c6, c7, ⟨nv2, ns, np, nc, pf, cb, ce, cs, c0, lh, d1, d2, r, fun h0 => ?_, d5⟩, c9, sm⟩
  obtain ⟨t1, t2, t3, t4, t5, t6⟩ := d4 h0
  exact ⟨t1, t2, t3, t4, fun p hp => ptOK_eq (t5 p hp) (fun k hk => by rcases hk with hk | hk | hk | hk | hk | hk | hk | hk <;> subst hk <;> rfl) sm, t6⟩
theorem brI_lt {b y : Int64} {sp : Int32} (h0 : 0 ≤ b.toInt) (h1 : b.toInt ≤ 1000) (hy : y = sp.toInt64) (hs0 : 0 ≤ sp.toInt) (hs1 : sp.toInt ≤ 999) : brI b < sp ↔ b < y := by
  subst hy
  have e1 : sp.toInt64.toInt = sp.toInt := by simp
  rw [Int64.lt_iff_toInt_lt, Int32.lt_iff_toInt_lt, e1]
  unfold brI
  by_cases w : b = 1000
  · rw [if_pos w, w]
    show (999 : Int) < sp.toInt ↔ (1000 : Int) < sp.toInt
    omega
  · rw [if_neg w]
    have e2 : b.toInt32.toInt = b.toInt := by
      rw [Int64.toInt_toInt32]
      exact Int.bmod_eq_of_le (by omega) (by omega)
    rw [e2]
theorem smL_of {z : Int64} (h1 : ¬ z < -999999) (h2 : ¬ 999999 < z) : smL z := by
  have a1 := Int64.le_iff_toInt_le.mp (Int64.not_lt.mp h1)
  have a2 := Int64.le_iff_toInt_le.mp (Int64.not_lt.mp h2)
  exact ⟨a1, a2⟩
theorem pr_0 {a : Int32} {pr ns : Nat} (ha : a = nI pr) (h1 : pr ≤ ns) (h2 : ns ≤ 30) (q : a < 1 ∨ nI ns < a) : pr = 0 := by
  subst ha
  rcases q with q | q
  · have := (nI_ltI (b := 1) (by omega) (by decide)).mp q; omega
  · have := (nI_ltI (by omega) (by omega)).mp q; omega
theorem pr_k {a : Int32} {pr ns k : Nat} (ha : a = nI pr) (h1 : pr ≤ ns) (h2 : ns ≤ 30) (hk : k < ns) (q : a = nI (k + 1)) : pr = k + 1 := nI_eqI (by omega) (by omega) (ha.symm.trans q)
theorem sp_of {z : Int64} (h1 : ¬ z < 0) (h2 : ¬ 999 < z) : z = z.toInt32.toInt64 ∧ 0 ≤ z.toInt32.toInt ∧ z.toInt32.toInt ≤ 999 := by
  have a1 : (0 : Int) ≤ z.toInt := Int64.le_iff_toInt_le.mp (Int64.not_lt.mp h1)
  have a2 : z.toInt ≤ 999 := Int64.le_iff_toInt_le.mp (Int64.not_lt.mp h2)
  have e2 : z.toInt32.toInt = z.toInt := by
    rw [Int64.toInt_toInt32]
    exact Int.bmod_eq_of_le (by omega) (by omega)
  refine ⟨Int64.toInt_inj.mp ?_, by omega, by omega⟩
  have e1 : z.toInt32.toInt64.toInt = z.toInt32.toInt := by simp
  rw [e1, e2]
end CRV
