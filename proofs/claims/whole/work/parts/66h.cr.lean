/-! THE CLASS BETWEEN CALLS, over the reference's state x, y, A, B. Roles: 0 0 its object; 1 0, 1 1 the builder and its bytes; 2 0 the plan, 5 0 its rings; 6 0 the reader; 7 0, 7 1, 7 2 its line; 8 0 .. 8 3 the warnings -/
def cTop (ad : Nat → Nat → Nat) (L : vL) (x : Nat → Int32) (y : Nat → Int64) (sp bl : Int32) : Prop := L 0 0 = some (.inr (3, [.int (x 1), .int (x 2), .ref (ad 1 0), .ref (ad 6 0), .ref (ad 2 0), .ref (ad 8 0), .int (x 45), .int sp, .int (x 46), .int bl, .int (x 55), .long (y 56), .long (y 57)]))
def cBld (dT : Nat → ClassId) (ad : Nat → Nat → Nat) (L : vL) (n cap : Nat) (t : Nat → Int32) : Prop := ∃ f ml, L 1 0 = some (.inr (1, [.ref (ad 1 1), .int 0, .int ml, .int (nI n)])) ∧ L 1 1 = some (.inl (dT 2, cap, .inl f)) ∧ n ≤ cap ∧ cap ≤ 8002 ∧ n ≤ 4000 ∧ fitB f cap ∧ ∀ k, k < n → f k = t k ∧ ∃ c, 0 < c ∧ c < 128 ∧ t k = nI c
def cWrn (dT : Nat → ClassId) (ad : Nat → Nat → Nat) (L : vL) (n : Nat) (la : Int64) (rk ac : Nat → Int32) (tm : Nat → Int64) : Prop := ∃ no op fr ft fo, L 8 0 = some (.inr (7, [.ref (ad 8 1), .ref (ad 8 2), .ref (ad 8 3), .int (nI n), .int (nI no), .long la])) ∧ L 8 1 = some (aI dT 200 fr) ∧ L 8 2 = some (aL dT 200 ft) ∧ L 8 3 = some (aI dT 200 fo) ∧ (∀ k, 1 ≤ k → k ≤ n → fr (k - 1) = rk k ∧ ft (k - 1) = tm k ∧ 0 ≤ (rk k).toInt ∧ (rk k).toInt ≤ 99 ∧ tm k ≤ la) ∧ (∀ j, j < no → fo j = nI (op j)) ∧ wOp n rk ac op no ∧ (∀ k, n < k → ac k = 0) ∧ (∀ i j, 1 ≤ i → i ≤ j → j ≤ n → tm i ≤ tm j) ∧ n ≤ 200 ∧ no ≤ n ∧ 0 ≤ la.toInt
def cPla (dT : Nat → ClassId) (ad : Nat → Nat → Nat) (L : vL) (nr : Nat) (rg : Nat → Int32) : Prop := L 2 0 = some (.inr (4, [.ref (ad 3 0), .ref (ad 4 0), .ref (ad 5 0), .int (nI nr)])) ∧ nr ≤ 30 ∧ ∃ f, L 5 0 = some (aI dT 30 f) ∧ ∀ j, j < nr → f j = rg j
def cRea (ad : Nat → Nat → Nat) (L : vL) : Prop := ∃ sc pe, L 6 0 = some (.inr (5, [.ref (ad 2 0), .ref (ad 7 0), va_rf sc, va_rf pe]))
def cLin (dT : Nat → ClassId) (ad : Nat → Nat → Nat) (L : vL) : Prop := ∃ t c g1 g2, L 7 0 = some (.inr (6, [.ref (ad 7 1), .ref (ad 7 2), t, .int c])) ∧ L 7 1 = some (aI dT 6 g1) ∧ L 7 2 = some (aI dT 6 g2)
/-- the plan that is in force: nothing but names that are NAMES, signs that are signs -/
def cTxt (A : Nat → Nat → Int32) (B : Nat → Nat → Int64) (x : Nat → Int32) (ns np nc : Nat) : Prop := 0 < ns → x 28 = nI np ∧ x 39 = nI nc ∧ np ≤ 512 ∧ nc ≤ 512 ∧ (∀ p, p < np → ptOK A B p) ∧ ∃ sz, sz ≤ 4000 ∧ txt (A 6) sz ∧ ∀ p, p < np → ¬ A 30 p = 2 → (A 36 p).toNatClampNeg ≤ sz ∧ (A 38 p).toNatClampNeg ≤ sz
/-- a setting's bounds are NUMBERS -/
def bndP (A : Nat → Nat → Int32) (B : Nat → Nat → Int64) (nv : Nat) : Prop := ∀ v, 1 ≤ v → v ≤ nv → ¬ A 15 v = 0 → -999999 ≤ B 16 v ∧ B 17 v ≤ 999999
def CR (dT : Nat → ClassId) (dE : Nat) (h : vH) (ad : Nat → Nat → Nat) (L : vL) (cap : Nat) (x : Nat → Int32) (y : Nat → Int64) (A : Nat → Nat → Int32) (B : Nat → Nat → Int64) : Prop :=
  (∃ sp bl, cTop ad L x y sp bl ∧ (y 47 = sp.toInt64 ∧ 0 ≤ sp.toInt ∧ sp.toInt ≤ 999) ∧ lmp bl (A 58)) ∧ (∃ hh ww, x 1 = nI hh ∧ 1 ≤ hh ∧ hh ≤ 40 ∧ x 2 = nI ww ∧ 1 ≤ ww ∧ ww ≤ 40) ∧ (∃ n, x 3 = nI n ∧ cBld dT ad L n cap (A 4)) ∧ (∃ n, x 50 = nI n ∧ cWrn dT ad L n (y 54) (A 51) (A 53) (B 52)) ∧ (∃ nr, x 48 = nI nr ∧ cPla dT ad L nr (A 49)) ∧ cRea ad L ∧ cLin dT ad L ∧
  (∃ nv ns np nc pf cb ce cs c0 lh, (x 12 = nI nv ∧ nv ≤ 40 ∧ x 20 = nI ns ∧ ns ≤ 30) ∧ (∃ pr, x 45 = nI pr ∧ pr ≤ ns ∧ (0 < ns → 0 < pr)) ∧ RP dT dE h ad L A B nv ns np nc pf cb ce cs c0 lh (fun s k => nI (ldS A ns (10 * s + k))) ∧ cTxt A B x ns np nc ∧ rngP A 21 22 ns ∧ bndP A B nv) ∧ keyP A ∧ ∀ v, smL (B 18 v)
theorem bnd_va {A : Nat → Nat → Int32} {B : Nat → Nat → Int64} {e i nv : Nat} {p1 : Int32} (h : bndP A B nv) (ok : okVa A e i nv p1 = true) : bndP (vaA A e i nv p1) (vaB A B e i nv p1) (nv + 1) := by
  unfold okVa at ok
  rw [Bool.and_eq_true, Bool.and_eq_true, Bool.and_eq_true] at ok
  obtain ⟨-, -, -, o4⟩ := ok
  intro v h1 h2 h3
  have h3 : ¬ upd (A 15) (nv + 1) p1 v = 0 := h3
  show -999999 ≤ vp_updL (B 16) (nv + 1) (if p1 = 0 then 0 else (vNu (A 6) e (nT (A 6) e i))) v ∧ vp_updL (B 17) (nv + 1) (if p1 = 0 then 0 else (vNu (A 6) e (nT2 (A 6) e i))) v ≤ 999999
  by_cases q : v = nv + 1
  · subst q
    rw [pk_us] at h3
    rw [if_neg h3] at o4
    rw [pk_uLs, pk_uLs, if_neg h3, if_neg h3]
    rw [Bool.and_eq_true, Bool.and_eq_true, Bool.and_eq_true] at o4
    obtain ⟨r1, r2, r3, -⟩ := o4
    exact ⟨(cNu_in r1).1, (cNu_in r2).2⟩
  · rw [pk_un q] at h3
    rw [pk_uLn q, pk_uLn q]; exact h v h1 (by omega) h3
theorem bnd_ln {A : Nat → Nat → Int32} {B : Nat → Nat → Int64} {e i nv ns np nc : Nat} {ln : Int32} (kd : Nat) (h : bndP A B nv) (ok : okLn A e i nv ns kd = true) : bndP (lnA A e i nv ns np nc ln kd) (lnB A B e i nv ns nc kd) (lnV nv kd) := by
  have pa : ∀ (p1 sc pv : Int32), bndP (paA A e i nv np nc p1 sc pv) B nv := fun p1 sc pv => by
    unfold paA
    split <;> exact h
  match kd with
  | 0 => exact bnd_va h ok
  | 1 => exact bnd_va h ok
  | 2 => exact h
  | 3 => exact pa _ _ _
  | 4 => exact pa _ _ _
  | 5 => exact pa _ _ _
  | 6 => exact h
  | 7 => exact h
  | 8 => exact h
  | n + 9 => exact h
theorem bnd_all {f : Nat → Int32} {size : Nat} : ∀ k b ln (P P' : PS), bndP P.2.2.2.2.1 P.2.2.2.2.2 P.1 → pAll f size k b ln P = (0, some P') → bndP P'.2.2.2.2.1 P'.2.2.2.2.2 P'.1 := by
  intro k
  induction k with
  | zero =>
    intro b ln P P' h q
    rw [pAll] at q
    injection q with _ q
    injection q with q
    rw [← q]; exact h
  | succ k ih =>
    intro b ln P P' h q
    rw [pAll] at q
    split at q
    · split at q
      · injection q with q; omega
      · rename_i P2 hP2
        refine ih _ _ P2 P' ?_ q
        unfold pLn at hP2
        split at hP2
        · split at hP2
          · rename_i ok
            injection hP2 with hP2
            rw [← hP2]
            exact bnd_ln _ h ok
          · exact absurd hP2 (by simp)
        · injection hP2 with hP2
          rw [← hP2]; exact h
    · injection q with _ q
      injection q with q
      rw [← q]; exact h
/-- the words end within the text -/
def endP (A : Nat → Nat → Int32) (np sz : Nat) : Prop := ∀ p, p < np → ¬ A 30 p = 2 → (A 36 p).toNatClampNeg ≤ sz ∧ (A 38 p).toNatClampNeg ≤ sz
theorem end_pa {A : Nat → Nat → Int32} {e i nv np nc sz : Nat} {p1 sc pv : Int32} (h : endP A np sz) (hi : i ≤ e) (he : e ≤ sz) (hs : sz ≤ 4000) : endP (paA A e i nv np nc p1 sc pv) (np + 1) sz := by
  have t1 := nT_in (A 6) hi
  have t2 := nT_in (A 6) t1.2
  have t3 := nT_in (A 6) t2.2
  have t4 := nT_in (A 6) t3.2
  have u3 : nT3 (A 6) e i ≤ e := t3.2
  have u4 : nT4 (A 6) e i ≤ e := t4.2
  intro p hp
  unfold paA
  by_cases z : p1 = 2
  · rw [if_pos z]
    show ¬ upd (A 30) np p1 p = 2 → (A 36 p).toNatClampNeg ≤ sz ∧ (A 38 p).toNatClampNeg ≤ sz
    by_cases w : p = np
    · rw [w, pk_us]; exact fun q => absurd z q
    · rw [pk_un w]; exact h p (by omega)
  · rw [if_neg z]
    show ¬ upd (A 30) np p1 p = 2 → (upd (A 36) np (nI (nT3 (A 6) e i)) p).toNatClampNeg ≤ sz ∧ (upd (A 38) np (if p1 = 1 then nI (nT4 (A 6) e i) else nI (nT3 (A 6) e i)) p).toNatClampNeg ≤ sz
    by_cases w : p = np
    · rw [w, pk_us, pk_us, pk_us]
      intro _
      rw [nI_clamp (by omega)]
      refine ⟨by omega, ?_⟩
      split
      · rw [nI_clamp (by omega)]; omega
      · rw [nI_clamp (by omega)]; omega
    · rw [pk_un w, pk_un w, pk_un w]; exact h p (by omega)
theorem end_ln {A : Nat → Nat → Int32} {e i nv ns np nc sz : Nat} {ln : Int32} (kd : Nat) (h : endP A np sz) (hi : i ≤ e) (he : e ≤ sz) (hs : sz ≤ 4000) : endP (lnA A e i nv ns np nc ln kd) (lnP np kd) sz := by
  match kd with
  | 0 => exact h
  | 1 => exact h
  | 2 => exact h
  | 3 => exact end_pa h hi he hs
  | 4 => exact end_pa h hi he hs
  | 5 => exact end_pa h hi he hs
  | 6 => exact h
  | 7 => exact h
  | n + 8 => exact h
theorem end_all {f : Nat → Int32} {size : Nat} (hs : size ≤ 4000) : ∀ k b ln (P P' : PS), endP P.2.2.2.2.1 P.2.2.1 size → pAll f size k b ln P = (0, some P') → endP P'.2.2.2.2.1 P'.2.2.1 size := by
  intro k
  induction k with
  | zero =>
    intro b ln P P' h q
    rw [pAll] at q
    injection q with _ q
    injection q with q
    rw [← q]; exact h
  | succ k ih =>
    intro b ln P P' h q
    rw [pAll] at q
    split at q
    · rename_i hb
      split at q
      · injection q with q; omega
      · rename_i P2 hP2
        refine ih _ _ P2 P' ?_ q
        unfold pLn at hP2
        split at hP2
        · split at hP2
          · injection hP2 with hP2
            rw [← hP2]
            have l := lnE_in f size (size - b) b rfl (by omega)
            exact end_ln _ h (nT_in f l.1).2 l.2 hs
          · exact absurd hP2 (by simp)
        · injection hP2 with hP2
          rw [← hP2]; exact h
    · injection q with _ q
      injection q with q
      rw [← q]; exact h
