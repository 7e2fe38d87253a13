/-! LINES as the class asks them -/
theorem fnd_ext {g g' : Nat → Bool} : ∀ n k, (∀ v, k ≤ v → v < k + n → g v = g' v) → fnd g n k = fnd g' n k := by
  intro n
  induction n with
  | zero => intro k _; rfl
  | succ n ih =>
    intro k h
    rw [fnd, fnd, h k (Nat.le_refl _) (by omega), ih (k + 1) (fun v h1 h2 => h v (by omega) (by omega))]
theorem fnd_no {g : Nat → Bool} : ∀ n k, (∀ v, k ≤ v → v < k + n → g v = false) → fnd g n k = 0 := by
  intro n
  induction n with
  | zero => intro k _; rfl
  | succ n ih =>
    intro k h
    rw [fnd, if_neg (by rw [h k (Nat.le_refl _) (by omega)]; decide), ih (k + 1) (fun v h1 h2 => h v (by omega) (by omega))]
/-- the first of n names that is x -/
def vfd (g : Nat → Int64) (n : Nat) (x : Int64) : Nat := fnd (fun v => decide (g v = x)) n 1
/-- the names j .. k of n, and their numbers -/
def nmsP (A : Nat → Nat → Int32) (j k n : Nat) : Prop := ∀ v, 1 ≤ v → v ≤ n → isNm (A 6) (A j v).toNatClampNeg (A k v).toNatClampNeg = true
def nmV (A : Nat → Nat → Int32) (j k v : Nat) : Int64 := nmL (A 6) (A j v).toNatClampNeg (A k v).toNatClampNeg
theorem vfd_nm {A : Nat → Nat → Int32} {j k n F T : Nat} (h : nmsP A j k n) (hw : isNm (A 6) F T = true) : vfd (nmV A j k) n (nmL (A 6) F T) = fnd (fun v => smW (A 6) (A j v).toNatClampNeg (A k v).toNatClampNeg F T) n 1 := by
  refine fnd_ext n 1 (fun v h1 h2 => ?_)
  rw [nmV]
  cases z : smW (A 6) (A j v).toNatClampNeg (A k v).toNatClampNeg F T with
  | true => exact decide_eq_true ((nmL_eq (h v h1 (by omega)) hw).mpr z)
  | false => exact decide_eq_false (fun q => by rw [(nmL_eq (h v h1 (by omega)) hw).mp q] at z; cases z)
theorem vfd_0 {A : Nat → Nat → Int32} {j k n : Nat} (h : nmsP A j k n) : vfd (nmV A j k) n 0 = 0 := by
  refine fnd_no n 1 (fun v h1 h2 => decide_eq_false (fun z => ?_))
  rw [nmV, nmL_0, h v h1 (by omega)] at z
  cases z
/-- the class's answers of a line: the name and the number of word i -/
def cNa (f : Nat → Int32) (e b c i : Nat) : Int64 := if i < c then nmL f (nF f e (wP f e b i)) (wP f e b (i + 1)) else 0
def cNi (f : Nat → Int32) (e b c i : Nat) : Int32 := if i < c then nuI f (nF f e (wP f e b i)) (wP f e b (i + 1)) else -1000000
section LNS
variable {A : Nat → Nat → Int32} {f : Nat → Int32} {e b c nv ns : Nat} {fs fe : Nat → Int32}
theorem cNm_c (h : lnW f e b c fs fe) (hb : b ≤ e) {i : Nat} (hi : i < 6) : cNm f e (wP f e b i) = true ↔ cNa f e b c i ≠ 0 := by
  have hw : decide (nF f e (wP f e b i) < nT f e (wP f e b i)) = decide (i < c) := lnW_lt h hb hi
  rw [cNm, hw, cNa]
  by_cases z : i < c
  · rw [decide_eq_true z, Bool.true_and, if_pos z]
    show isNm f (nF f e (wP f e b i)) (wP f e b (i + 1)) = true ↔ _
    rw [ne_eq, nmL_0]; simp
  · rw [decide_eq_false z, if_neg z]; simp
theorem cNu_c (h : lnW f e b c fs fe) (hb : b ≤ e) {i : Nat} (hi : i < 6) {lo hi1 : Int64} (hlo : -999999 ≤ lo.toInt) : cNu f e (wP f e b i) lo hi1 = true ↔ lo.toInt ≤ (cNi f e b c i).toInt ∧ (cNi f e b c i).toInt ≤ hi1.toInt := by
  have hw : decide (nF f e (wP f e b i) < nT f e (wP f e b i)) = decide (i < c) := lnW_lt h hb hi
  rw [cNu, hw, cNi]
  by_cases z : i < c
  · rw [decide_eq_true z, Bool.true_and, if_pos z]
    show (isNu f (nF f e (wP f e b i)) (wP f e b (i + 1)) && (decide (lo ≤ nuV f (nF f e (wP f e b i)) (wP f e b (i + 1))) && decide (nuV f (nF f e (wP f e b i)) (wP f e b (i + 1)) ≤ hi1))) = true ↔ _
    rw [nuI_in hlo, Bool.and_eq_true, decide_eq_true_iff, decide_eq_true_iff]
  · rw [decide_eq_false z, if_neg z]
    rw [show (-1000000 : Int32).toInt = -1000000 from rfl]
    constructor
    · intro q; cases q
    · intro q; omega
theorem cEnd_c (h : lnW f e b c fs fe) (hb : b ≤ e) {i : Nat} (hi : i < 6) : cEnd f e (wP f e b i) = true ↔ c ≤ i := by
  have hw : decide (nF f e (wP f e b i) < nT f e (wP f e b i)) = decide (i < c) := lnW_lt h hb hi
  rw [cEnd, decide_eq_true_iff]
  have : (nF f e (wP f e b i) < nT f e (wP f e b i)) ↔ i < c := decide_eq_decide.mp hw
  rw [this]; omega
theorem wB_c (h : lnW f e b c fs fe) (hb : b ≤ e) {i : Nat} (hi : i < 6) : wB f e (wP f e b i) = true ↔ i < c := by
  rw [lnW_lt h hb hi, decide_eq_true_iff]
theorem cNa_lt {i : Nat} (h : cNa f e b c i ≠ 0) : i < c ∧ isNm f (nF f e (wP f e b i)) (wP f e b (i + 1)) = true ∧ cNa f e b c i = nmL f (nF f e (wP f e b i)) (wP f e b (i + 1)) := by
  unfold cNa at h ⊢
  by_cases z : i < c
  · rw [if_pos z] at h ⊢
    refine ⟨z, ?_, rfl⟩
    cases q : isNm f (nF f e (wP f e b i)) (wP f e b (i + 1)) with
    | true => rfl
    | false => exact absurd (nmL_0.mpr q) h
  · rw [if_neg z] at h; exact absurd rfl h
theorem cNi_lt {i : Nat} (h : cNi f e b c i ≠ -1000000) : i < c ∧ isNu f (nF f e (wP f e b i)) (wP f e b (i + 1)) = true ∧ cNi f e b c i = nuI f (nF f e (wP f e b i)) (wP f e b (i + 1)) ∧ vNu f e (wP f e b i) = (cNi f e b c i).toInt64 ∧ (vNu f e (wP f e b i)).toInt32 = cNi f e b c i := by
  unfold cNi at h ⊢
  by_cases z : i < c
  · rw [if_pos z] at h ⊢
    have q : isNu f (nF f e (wP f e b i)) (wP f e b (i + 1)) = true := by
      cases q : isNu f (nF f e (wP f e b i)) (wP f e b (i + 1)) with
      | true => rfl
      | false => exact absurd (nuI_no q) h
    exact ⟨z, q, rfl, (nuI_l q).symm, nuI_i q⟩
  · rw [if_neg z] at h; exact absurd rfl h
/-- the value that word i names -/
theorem fV_c (hf : A 6 = f) {i : Nat} (hn : nmsP A 13 14 nv) (h : cNa f e b c i ≠ 0) : fV A nv (nF (A 6) e (wP f e b i)) (nT (A 6) e (wP f e b i)) = vfd (nmV A 13 14) nv (cNa f e b c i) := by
  obtain ⟨-, h2, h3⟩ := cNa_lt h
  rw [h3]
  subst hf
  exact (vfd_nm hn h2).symm
theorem fS_c (hf : A 6 = f) {i : Nat} (hn : nmsP A 21 22 ns) (h : cNa f e b c i ≠ 0) : fS A ns (nF (A 6) e (wP f e b i)) (nT (A 6) e (wP f e b i)) = vfd (nmV A 21 22) ns (cNa f e b c i) := by
  obtain ⟨-, h2, h3⟩ := cNa_lt h
  rw [h3]
  subst hf
  exact (vfd_nm hn h2).symm
theorem okSc_c (hf : A 6 = f) (h : lnW f e b c fs fe) (hb : b ≤ e) (hn : nmsP A 21 22 ns) (hns : ns ≤ 30) : okSc A e (wP f e b 1) ns = true ↔ c = 2 ∧ cNa f e b c 1 ≠ 0 ∧ ns < 30 ∧ vfd (nmV A 21 22) ns (cNa f e b c 1) = 0 := by
  have k1 := cNm_c h hb (i := 1) (by decide)
  have k2 : cEnd f e (nT f e (wP f e b 1)) = true ↔ c ≤ 2 := cEnd_c h hb (i := 2) (by decide)
  have k3 := fS_c (e := e) (b := b) (c := c) (i := 1) hf hn
  subst hf
  rw [okSc, Bool.and_eq_true, Bool.and_eq_true, Bool.and_eq_true, decide_eq_true_iff, decide_eq_true_iff, k1, k2]
  constructor
  · rintro ⟨a1, a2, a3, a4⟩
    have := (cNa_lt a1).1
    exact ⟨by omega, a1, by omega, by rw [← k3 a1]; exact a2⟩
  · rintro ⟨a1, a2, a3, a4⟩
    exact ⟨a2, by rw [k3 a2]; exact a4, by omega, by omega⟩
theorem okVa0_c (hf : A 6 = f) (h : lnW f e b c fs fe) (hb : b ≤ e) (hn : nmsP A 13 14 nv) (hnv : nv ≤ 40) : okVa A e (wP f e b 1) nv 0 = true ↔ c = 2 ∧ cNa f e b c 1 ≠ 0 ∧ nv < 40 ∧ vfd (nmV A 13 14) nv (cNa f e b c 1) = 0 := by
  have k1 := cNm_c h hb (i := 1) (by decide)
  have k2 : cEnd f e (nT f e (wP f e b 1)) = true ↔ c ≤ 2 := cEnd_c h hb (i := 2) (by decide)
  have k3 := fV_c (e := e) (b := b) (c := c) (i := 1) hf hn
  subst hf
  rw [okVa, if_pos rfl, Bool.and_eq_true, Bool.and_eq_true, Bool.and_eq_true, decide_eq_true_iff, decide_eq_true_iff, k1, k2]
  constructor
  · rintro ⟨a1, a2, a3, a4⟩
    have := (cNa_lt a1).1
    exact ⟨by omega, a1, by omega, by rw [← k3 a1]; exact a2⟩
  · rintro ⟨a1, a2, a3, a4⟩
    exact ⟨a2, by rw [k3 a2]; exact a4, by omega, by omega⟩
theorem okVa1_c (hf : A 6 = f) (h : lnW f e b c fs fe) (hb : b ≤ e) (hn : nmsP A 13 14 nv) (hnv : nv ≤ 40) : okVa A e (wP f e b 1) nv 1 = true ↔ c = 5 ∧ (cNa f e b c 1 ≠ 0 ∧ nv < 40 ∧ vfd (nmV A 13 14) nv (cNa f e b c 1) = 0) ∧ (cNi f e b c 2 ≠ -1000000 ∧ cNi f e b c 3 ≠ -1000000 ∧ cNi f e b c 4 ≠ -1000000) ∧ (cNi f e b c 2).toInt ≤ (cNi f e b c 4).toInt ∧ (cNi f e b c 4).toInt ≤ (cNi f e b c 3).toInt := by
  have k1 := cNm_c h hb (i := 1) (by decide)
  have k2 : cEnd f e (nT4 f e (wP f e b 1)) = true ↔ c ≤ 5 := cEnd_c h hb (i := 5) (by decide)
  have k3 := fV_c (e := e) (b := b) (c := c) (i := 1) hf hn
  have n2 : cNu f e (nT f e (wP f e b 1)) (-999999) 999999 = true ↔ _ := cNu_c h hb (i := 2) (by decide) (lo := -999999) (hi1 := 999999) (by decide)
  have g2 : ∀ i, (cNi f e b c i).toInt ≠ -1000000 ↔ cNi f e b c i ≠ -1000000 := fun i => ⟨fun q z => q (by rw [z]; rfl), fun q z => q (Int32.toInt_inj.mp z)⟩
  have bd : ∀ i, cNi f e b c i ≠ -1000000 → -999999 ≤ (cNi f e b c i).toInt ∧ (cNi f e b c i).toInt ≤ 999999 := fun i z => by
    obtain ⟨-, q1, q2, -⟩ := cNi_lt z
    rw [q2]; exact (nuI_of q1).2
  have vt : ∀ i, cNi f e b c i ≠ -1000000 → (vNu f e (wP f e b i)).toInt = (cNi f e b c i).toInt := fun i z => by
    rw [(cNi_lt z).2.2.2.1, Int32.toInt_toInt64]
  subst hf
  rw [okVa, if_neg (by decide), Bool.and_eq_true, Bool.and_eq_true, Bool.and_eq_true, Bool.and_eq_true, Bool.and_eq_true, Bool.and_eq_true, decide_eq_true_iff, decide_eq_true_iff, k1, k2, n2]
  rw [show (-999999 : Int64).toInt = -999999 from rfl, show (999999 : Int64).toInt = 999999 from rfl]
  constructor
  · rintro ⟨a1, a2, a3, a4, a5, a6, a7⟩
    have z2 : cNi (A 6) e b c 2 ≠ -1000000 := fun q => by rw [q] at a4; exact absurd a4.1 (by decide)
    have v2 : (vNu (A 6) e (nT (A 6) e (wP (A 6) e b 1))).toInt = _ := vt 2 z2
    have n3 : cNu (A 6) e (nT2 (A 6) e (wP (A 6) e b 1)) (vNu (A 6) e (nT (A 6) e (wP (A 6) e b 1))) 999999 = true ↔ _ := cNu_c h hb (i := 3) (by decide) (lo := vNu (A 6) e (nT (A 6) e (wP (A 6) e b 1))) (hi1 := 999999) (by rw [v2]; exact a4.1)
    rw [n3, v2, show (999999 : Int64).toInt = 999999 from rfl] at a5
    have z3 : cNi (A 6) e b c 3 ≠ -1000000 := fun q => by rw [q, show (-1000000 : Int32).toInt = -1000000 from rfl] at a5; omega
    have v3 : (vNu (A 6) e (nT2 (A 6) e (wP (A 6) e b 1))).toInt = _ := vt 3 z3
    have n4 : cNu (A 6) e (nT3 (A 6) e (wP (A 6) e b 1)) (vNu (A 6) e (nT (A 6) e (wP (A 6) e b 1))) (vNu (A 6) e (nT2 (A 6) e (wP (A 6) e b 1))) = true ↔ _ := cNu_c h hb (i := 4) (by decide) (lo := vNu (A 6) e (nT (A 6) e (wP (A 6) e b 1))) (hi1 := vNu (A 6) e (nT2 (A 6) e (wP (A 6) e b 1))) (by rw [v2]; exact a4.1)
    rw [n4, v2, v3] at a6
    have z4 : cNi (A 6) e b c 4 ≠ -1000000 := fun q => by rw [q, show (-1000000 : Int32).toInt = -1000000 from rfl] at a6; omega
    have := (cNi_lt z4).1
    exact ⟨by omega, ⟨a1, by omega, by rw [← k3 a1]; exact a2⟩, ⟨z2, z3, z4⟩, a6.1, a6.2⟩
  · rintro ⟨a1, ⟨a2, a3, a4⟩, ⟨z2, z3, z4⟩, a6, a7⟩
    have v2 : (vNu (A 6) e (nT (A 6) e (wP (A 6) e b 1))).toInt = _ := vt 2 z2
    have v3 : (vNu (A 6) e (nT2 (A 6) e (wP (A 6) e b 1))).toInt = _ := vt 3 z3
    have n3 : cNu (A 6) e (nT2 (A 6) e (wP (A 6) e b 1)) (vNu (A 6) e (nT (A 6) e (wP (A 6) e b 1))) 999999 = true ↔ _ := cNu_c h hb (i := 3) (by decide) (lo := vNu (A 6) e (nT (A 6) e (wP (A 6) e b 1))) (hi1 := 999999) (by rw [v2]; exact (bd 2 z2).1)
    have n4 : cNu (A 6) e (nT3 (A 6) e (wP (A 6) e b 1)) (vNu (A 6) e (nT (A 6) e (wP (A 6) e b 1))) (vNu (A 6) e (nT2 (A 6) e (wP (A 6) e b 1))) = true ↔ _ := cNu_c h hb (i := 4) (by decide) (lo := vNu (A 6) e (nT (A 6) e (wP (A 6) e b 1))) (hi1 := vNu (A 6) e (nT2 (A 6) e (wP (A 6) e b 1))) (by rw [v2]; exact (bd 2 z2).1)
    rw [n3, n4, v2, v3, show (999999 : Int64).toInt = 999999 from rfl]
    have := bd 2 z2
    have := bd 3 z3
    exact ⟨a2, by rw [k3 a2]; exact a4, by omega, ⟨by omega, by omega⟩, ⟨by omega, by omega⟩, ⟨a6, a7⟩, by omega⟩
theorem okBa_c (hf : A 6 = f) (h : lnW f e b c fs fe) (hb : b ≤ e) : (cNu (A 6) e (wP f e b 1) 0 999 && cEnd (A 6) e (nT (A 6) e (wP f e b 1))) = true ↔ c = 2 ∧ 0 ≤ (cNi f e b c 1).toInt ∧ (cNi f e b c 1).toInt ≤ 999 := by
  have k2 : cEnd f e (nT f e (wP f e b 1)) = true ↔ c ≤ 2 := cEnd_c h hb (i := 2) (by decide)
  have n1 := cNu_c h hb (i := 1) (by decide) (lo := 0) (hi1 := 999) (by decide)
  subst hf
  rw [Bool.and_eq_true, k2, n1, show (0 : Int64).toInt = 0 from rfl, show (999 : Int64).toInt = 999 from rfl]
  constructor
  · rintro ⟨a1, a2⟩
    have z : cNi (A 6) e b c 1 ≠ -1000000 := fun q => by rw [q] at a1; exact absurd a1.1 (by decide)
    have := (cNi_lt z).1
    exact ⟨by omega, a1⟩
  · rintro ⟨a1, a2⟩; exact ⟨a2, by omega⟩
theorem okKe_c (hf : A 6 = f) (h : lnW f e b c fs fe) (hb : b ≤ e) : okKe A e (wP f e b 1) ns = true ↔ c = 3 ∧ (1 ≤ (cNi f e b c 1).toInt ∧ (cNi f e b c 1).toInt ≤ 9) ∧ cNa f e b c 2 ≠ 0 ∧ A 27 (10 * ns + (cNi f e b c 1).toNatClampNeg) ≤ 0 := by
  have k2 : cNm f e (nT f e (wP f e b 1)) = true ↔ _ := cNm_c h hb (i := 2) (by decide)
  have k3 : cEnd f e (nT f e (nT f e (wP f e b 1))) = true ↔ c ≤ 3 := cEnd_c h hb (i := 3) (by decide)
  have n1 := cNu_c h hb (i := 1) (by decide) (lo := 1) (hi1 := 9) (by decide)
  subst hf
  rw [okKe, Bool.and_eq_true, Bool.and_eq_true, Bool.and_eq_true, decide_eq_true_iff, k2, k3, n1, show (1 : Int64).toInt = 1 from rfl, show (9 : Int64).toInt = 9 from rfl]
  have vi : 1 ≤ (cNi (A 6) e b c 1).toInt → (vNu (A 6) e (wP (A 6) e b 1)).toInt32 = cNi (A 6) e b c 1 := fun q => (cNi_lt (fun z => by rw [z] at q; exact absurd q (by decide))).2.2.2.2
  constructor
  · rintro ⟨a1, a2, a3, a4⟩
    have := (cNa_lt a2).1
    rw [vi a1.1] at a4
    exact ⟨by omega, a1, a2, a4⟩
  · rintro ⟨a1, a2, a3, a4⟩
    exact ⟨a2, a3, by omega, by rw [vi a2.1]; exact a4⟩
theorem okIf_c (hf : A 6 = f) (h : lnW f e b c fs fe) (hb : b ≤ e) (hn : nmsP A 13 14 nv) : okIf A e (wP f e b 1) nv = true ↔ c = 4 ∧ vfd (nmV A 13 14) nv (cNa f e b c 1) ≠ 0 ∧ cNi f e b c 3 ≠ -1000000 ∧ wP f e b 3 - nF f e (wP f e b 2) = 1 ∧ (f (nF f e (wP f e b 2)) = 61 ∨ f (nF f e (wP f e b 2)) = 60 ∨ f (nF f e (wP f e b 2)) = 62) := by
  have k1 := cNm_c h hb (i := 1) (by decide)
  have w2 : (decide (nF f e (nT f e (wP f e b 1)) < nT f e (nT f e (wP f e b 1)))) = true ↔ 2 < c := wB_c h hb (i := 2) (by decide)
  have k4 : cEnd f e (nT f e (nT f e (nT f e (wP f e b 1)))) = true ↔ c ≤ 4 := cEnd_c h hb (i := 4) (by decide)
  have k3 := fV_c (e := e) (b := b) (c := c) (i := 1) hf hn
  have n3 : cNu f e (nT f e (nT f e (wP f e b 1))) (-999999) 999999 = true ↔ _ := cNu_c h hb (i := 3) (by decide) (lo := -999999) (hi1 := 999999) (by decide)
  have bd : ∀ i, cNi f e b c i ≠ -1000000 → -999999 ≤ (cNi f e b c i).toInt ∧ (cNi f e b c i).toInt ≤ 999999 := fun i z => by
    obtain ⟨-, q1, q2, -⟩ := cNi_lt z
    rw [q2]; exact (nuI_of q1).2
  subst hf
  rw [okIf, Bool.and_eq_true, Bool.and_eq_true, Bool.and_eq_true, Bool.and_eq_true, Bool.and_eq_true, Bool.and_eq_true, Bool.or_eq_true, Bool.or_eq_true, k1, w2, k4, n3, decide_eq_true_iff, decide_eq_true_iff, decide_eq_true_iff, decide_eq_true_iff, decide_eq_true_iff]
  rw [show (-999999 : Int64).toInt = -999999 from rfl, show (999999 : Int64).toInt = 999999 from rfl]
  constructor
  · rintro ⟨a1, a2, ⟨a3, a4⟩, a5, a6, a7⟩
    have z3 : cNi (A 6) e b c 3 ≠ -1000000 := fun q => by rw [q] at a6; exact absurd a6.1 (by decide)
    have := (cNi_lt z3).1
    exact ⟨by omega, by rw [← k3 a1]; exact a2, z3, a4, a5⟩
  · rintro ⟨a1, a2, a3, a4, a5⟩
    have z1 : cNa (A 6) e b c 1 ≠ 0 := fun q => a2 (by rw [q]; exact vfd_0 hn)
    exact ⟨z1, by rw [k3 z1]; exact a2, ⟨by omega, a4⟩, a5, bd 3 a3, by omega⟩
theorem okPa_0 (hf : A 6 = f) (h : lnW f e b c fs fe) (hb : b ≤ e) (nv : Nat) : okPa A e (wP f e b 1) nv 0 = true ↔ c = 4 ∧ (0 ≤ (cNi f e b c 1).toInt ∧ 0 ≤ (cNi f e b c 2).toInt) := by
  have n1 := cNu_c h hb (i := 1) (by decide) (lo := 0) (hi1 := 999999) (by decide)
  have n2 : cNu f e (nT f e (wP f e b 1)) 0 999999 = true ↔ _ := cNu_c h hb (i := 2) (by decide) (lo := 0) (hi1 := 999999) (by decide)
  have w3 : wB f e (nT2 f e (wP f e b 1)) = true ↔ 3 < c := wB_c h hb (i := 3) (by decide)
  have k4 : cEnd f e (nT3 f e (wP f e b 1)) = true ↔ c ≤ 4 := cEnd_c h hb (i := 4) (by decide)
  have bd : ∀ i, 0 ≤ (cNi f e b c i).toInt → (cNi f e b c i).toInt ≤ 999999 := fun i y => by
    have z : cNi f e b c i ≠ -1000000 := fun q => by rw [q] at y; exact absurd y (by decide)
    obtain ⟨-, q1, q2, -⟩ := cNi_lt z
    rw [q2]; exact (nuI_of q1).2.2
  subst hf
  rw [okPa, if_neg (by decide), if_neg (by decide), Bool.and_eq_true, Bool.and_eq_true, Bool.and_eq_true, n1, n2, w3, k4, show (0 : Int64).toInt = 0 from rfl, show (999999 : Int64).toInt = 999999 from rfl]
  constructor
  · rintro ⟨a1, a2, a3, a4⟩; exact ⟨by omega, a1.1, a2.1⟩
  · rintro ⟨a1, a2, a3⟩; exact ⟨⟨a2, bd _ a2⟩, ⟨a3, bd _ a3⟩, by omega, by omega⟩
theorem okPa_1 (hf : A 6 = f) (h : lnW f e b c fs fe) (hb : b ≤ e) (nv : Nat) : okPa A e (wP f e b 1) nv 1 = true ↔ c = 5 ∧ (0 ≤ (cNi f e b c 1).toInt ∧ 0 ≤ (cNi f e b c 2).toInt) := by
  have n1 := cNu_c h hb (i := 1) (by decide) (lo := 0) (hi1 := 999999) (by decide)
  have n2 : cNu f e (nT f e (wP f e b 1)) 0 999999 = true ↔ _ := cNu_c h hb (i := 2) (by decide) (lo := 0) (hi1 := 999999) (by decide)
  have w3 : wB f e (nT2 f e (wP f e b 1)) = true ↔ 3 < c := wB_c h hb (i := 3) (by decide)
  have w4 : wB f e (nT3 f e (wP f e b 1)) = true ↔ 4 < c := wB_c h hb (i := 4) (by decide)
  have k4 : cEnd f e (nT4 f e (wP f e b 1)) = true ↔ c ≤ 5 := cEnd_c h hb (i := 5) (by decide)
  have bd : ∀ i, 0 ≤ (cNi f e b c i).toInt → (cNi f e b c i).toInt ≤ 999999 := fun i y => by
    have z : cNi f e b c i ≠ -1000000 := fun q => by rw [q] at y; exact absurd y (by decide)
    obtain ⟨-, q1, q2, -⟩ := cNi_lt z
    rw [q2]; exact (nuI_of q1).2.2
  subst hf
  rw [okPa, if_neg (by decide), if_pos rfl, Bool.and_eq_true, Bool.and_eq_true, Bool.and_eq_true, Bool.and_eq_true, n1, n2, w3, w4, k4, show (0 : Int64).toInt = 0 from rfl, show (999999 : Int64).toInt = 999999 from rfl]
  constructor
  · rintro ⟨a1, a2, a3, a4, a5⟩; exact ⟨by omega, a1.1, a2.1⟩
  · rintro ⟨a1, a2, a3⟩; exact ⟨⟨a2, bd _ a2⟩, ⟨a3, bd _ a3⟩, by omega, by omega, by omega⟩
theorem okPa_2 (hf : A 6 = f) (h : lnW f e b c fs fe) (hb : b ≤ e) (hn : nmsP A 13 14 nv) : okPa A e (wP f e b 1) nv 2 = true ↔ c = 5 ∧ (1 ≤ (cNi f e b c 3).toInt ∧ (cNi f e b c 3).toInt ≤ 9) ∧ vfd (nmV A 13 14) nv (cNa f e b c 4) ≠ 0 ∧ (0 ≤ (cNi f e b c 1).toInt ∧ 0 ≤ (cNi f e b c 2).toInt) := by
  have n1 := cNu_c h hb (i := 1) (by decide) (lo := 0) (hi1 := 999999) (by decide)
  have n2 : cNu f e (nT f e (wP f e b 1)) 0 999999 = true ↔ _ := cNu_c h hb (i := 2) (by decide) (lo := 0) (hi1 := 999999) (by decide)
  have n3 : cNu f e (nT2 f e (wP f e b 1)) 1 9 = true ↔ _ := cNu_c h hb (i := 3) (by decide) (lo := 1) (hi1 := 9) (by decide)
  have k1 : cNm f e (nT3 f e (wP f e b 1)) = true ↔ _ := cNm_c h hb (i := 4) (by decide)
  have k3 := fV_c (e := e) (b := b) (c := c) (i := 4) hf hn
  have k4 : cEnd f e (nT4 f e (wP f e b 1)) = true ↔ c ≤ 5 := cEnd_c h hb (i := 5) (by decide)
  have bd : ∀ i, 0 ≤ (cNi f e b c i).toInt → (cNi f e b c i).toInt ≤ 999999 := fun i y => by
    have z : cNi f e b c i ≠ -1000000 := fun q => by rw [q] at y; exact absurd y (by decide)
    obtain ⟨-, q1, q2, -⟩ := cNi_lt z
    rw [q2]; exact (nuI_of q1).2.2
  subst hf
  rw [okPa, if_pos rfl, Bool.and_eq_true, Bool.and_eq_true, Bool.and_eq_true, Bool.and_eq_true, Bool.and_eq_true, decide_eq_true_iff, n1, n2, n3, k1, k4, show (0 : Int64).toInt = 0 from rfl, show (999999 : Int64).toInt = 999999 from rfl, show (1 : Int64).toInt = 1 from rfl, show (9 : Int64).toInt = 9 from rfl]
  constructor
  · rintro ⟨a1, a2, a3, a4, a5, a6⟩
    have := (cNa_lt a4).1
    exact ⟨by omega, a3, by rw [← k3 a4]; exact a5, a1.1, a2.1⟩
  · rintro ⟨a1, a2, a3, a4, a5⟩
    have z1 : cNa (A 6) e b c 4 ≠ 0 := fun q => a3 (by rw [q]; exact vfd_0 hn)
    exact ⟨⟨a4, bd _ a4⟩, ⟨a5, bd _ a5⟩, a2, z1, by rw [← k3 z1] at a3; exact a3, by omega⟩
end LNS
