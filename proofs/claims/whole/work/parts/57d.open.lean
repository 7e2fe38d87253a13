/-! THE OPEN WARNINGS: the class's list op of no of them, by rank and number; n all, rk their ranks, ac which are accepted -/
def wOp (n : Nat) (rk ac : Nat → Int32) (op : Nat → Nat) (no : Nat) : Prop := (∀ j, j < no → 1 ≤ op j ∧ op j ≤ n ∧ ac (op j) = 0) ∧ (∀ k, 1 ≤ k → k ≤ n → ac k = 0 → ∃ j, j < no ∧ op j = k) ∧ ∀ i j, i < j → j < no → (rk (op j)).toInt < (rk (op i)).toInt ∨ ((rk (op j)).toInt = (rk (op i)).toInt ∧ op i < op j)
theorem wOp_inj {n no : Nat} {rk ac : Nat → Int32} {op : Nat → Nat} (h : wOp n rk ac op no) {i j : Nat} (hi : i < no) (hj : j < no) (e : op i = op j) : i = j := by
  rcases Nat.lt_trichotomy i j with q | q | q
  · have := h.2.2 i j q hj; rw [e] at this; omega
  · exact q
  · have := h.2.2 j i q hi; rw [e] at this; omega
theorem cnt_one {g g' : Nat → Bool} {x : Nat} : ∀ n, x < n → g x = false → g' x = true → (∀ k, k ≠ x → g' k = g k) → cnt g' n = cnt g n + 1 := by
  intro n
  induction n with
  | zero => intro h; exact absurd h (Nat.not_lt_zero _)
  | succ n ih =>
    intro h h1 h2 h3
    by_cases q : x = n
    · have e : cnt g' n = cnt g n := cnt_ext n (fun j hj => h3 j (by omega))
      rw [cnt_t (by rw [← q]; exact h2), cnt_f (by rw [← q]; exact h1), e]
    · have e := ih (by omega) h1 h2 h3
      have e1 := h3 n (fun z => q z.symm)
      cases z : g n with
      | true => rw [cnt_t (by rw [e1]; exact z), cnt_t z, e]
      | false => rw [cnt_f (by rw [e1]; exact z), cnt_f z, e]
theorem cnt_zero {g : Nat → Bool} : ∀ n, (∀ k, k < n → g k = false) → cnt g n = 0 := by
  intro n
  induction n with
  | zero => intro _; rfl
  | succ n ih => intro h; rw [cnt_f (h n (by omega))]; exact ih (fun k hk => h k (by omega))
/-- how many numbers a list of other ones has -/
theorem cnt_list {op : Nat → Nat} {n : Nat} : ∀ (m : Nat) (g : Nat → Bool), (∀ j, j < m → 1 ≤ op j ∧ op j ≤ n) → (∀ i j, i < m → j < m → op i = op j → i = j) → (∀ k, k < n → (g k = true ↔ ∃ j, j < m ∧ op j = k + 1)) → cnt g n = m := by
  intro m
  induction m with
  | zero =>
    intro g _ _ h
    refine cnt_zero n (fun k hk => ?_)
    cases z : g k with
    | false => rfl
    | true => obtain ⟨j, hj, -⟩ := (h k hk).mp z; exact absurd hj (Nat.not_lt_zero _)
  | succ m ih =>
    intro g h1 h2 h3
    have hm := h1 m (Nat.lt_succ_self _)
    have e := ih (fun k => g k && decide (k ≠ op m - 1)) (fun j hj => h1 j (by omega)) (fun i j hi hj => h2 i j (by omega) (by omega)) (fun k hk => by
      rw [Bool.and_eq_true, h3 k hk, decide_eq_true_iff]
      constructor
      · rintro ⟨⟨j, hj, ej⟩, n1⟩
        refine ⟨j, ?_, ej⟩
        by_cases q : j = m
        · rw [q] at ej; omega
        · omega
      · rintro ⟨j, hj, ej⟩
        refine ⟨⟨j, by omega, ej⟩, fun q => ?_⟩
        have := h2 j m (by omega) (by omega) (by omega)
        omega)
    have e2 := cnt_one (g := fun k => g k && decide (k ≠ op m - 1)) (g' := g) (x := op m - 1) n (by omega) (by simp) ((h3 _ (by omega)).mpr ⟨m, Nat.lt_succ_self _, by omega⟩) (fun k hk => by simp [hk])
    rw [e2, e]
theorem wOp_cnt {n no : Nat} {rk ac : Nat → Int32} {op : Nat → Nat} (h : wOp n rk ac op no) : cnt (fun j => decide (ac (j + 1) = 0)) n = no := by
  refine cnt_list no _ (fun j hj => ⟨(h.1 j hj).1, (h.1 j hj).2.1⟩) (fun i j hi hj e => wOp_inj h hi hj e) (fun k hk => ?_)
  rw [decide_eq_true_iff]
  constructor
  · intro z; exact h.2.1 (k + 1) (by omega) (by omega) z
  · rintro ⟨j, hj, e⟩; rw [← e]; exact (h.1 j hj).2.2
/-- the i-th of the open ones has i before it -/
theorem wOp_bef {n no i : Nat} {rk ac : Nat → Int32} {tm : Nat → Int64} {op : Nat → Nat} (h : wOp n rk ac op no) (hm : ∀ i j, 1 ≤ i → i ≤ j → j ≤ n → tm i ≤ tm j) (hi : i < no) : befN rk tm ac n (op i) 0 = i := by
  have hoi := h.1 i hi
  unfold befN
  refine cnt_list i _ (fun j hj => ⟨(h.1 j (by omega)).1, (h.1 j (by omega)).2.1⟩) (fun a b ha hb e => wOp_inj h (by omega) (by omega) e) (fun k hk => ?_)
  rw [Bool.and_eq_true, decide_eq_true_iff]
  have key : fstB rk tm (op i) 0 (k + 1) = true ↔ (rk (op i)).toInt < (rk (k + 1)).toInt ∨ ((rk (op i)).toInt = (rk (k + 1)).toInt ∧ k + 1 < op i) := by
    unfold fstB
    by_cases q : rk (op i) < rk (k + 1)
    · rw [if_pos q]
      have := Int32.lt_iff_toInt_lt.mp q
      simp [this]
    · rw [if_neg q]
      have q1 : ¬ (rk (op i)).toInt < (rk (k + 1)).toInt := fun z => q (Int32.lt_iff_toInt_lt.mpr z)
      rw [Bool.and_eq_true, Bool.or_eq_true, Bool.and_eq_true, decide_eq_true_iff, decide_eq_true_iff, decide_eq_true_iff, decide_eq_true_iff]
      constructor
      · rintro ⟨a1, a2⟩
        right
        refine ⟨by rw [a1], ?_⟩
        rcases a2 with a2 | a2
        · rcases Nat.lt_or_ge (k + 1) (op i) with z | z
          · exact z
          · have z1 := hm (op i) (k + 1) hoi.1 z (by omega)
            have z2 := Int64.le_iff_toInt_le.mp z1
            have z3 := Int64.lt_iff_toInt_lt.mp a2
            omega
        · exact a2.2
      · rintro (a1 | ⟨a1, a2⟩)
        · exact absurd a1 q1
        · refine ⟨Int32.toInt_inj.mp a1.symm, ?_⟩
          have z1 := Int64.le_iff_toInt_le.mp (hm (k + 1) (op i) (by omega) (by omega) hoi.2.1)
          by_cases z : (tm (k + 1)).toInt < (tm (op i)).toInt
          · exact Or.inl (Int64.lt_iff_toInt_lt.mpr z)
          · exact Or.inr ⟨Int64.toInt_inj.mp (by omega), a2⟩
  rw [key]
  constructor
  · rintro ⟨a1, a2⟩
    obtain ⟨j, hj, e⟩ := h.2.1 (k + 1) (by omega) (by omega) a2
    refine ⟨j, ?_, e⟩
    rcases Nat.lt_trichotomy j i with z | z | z
    · exact z
    · rw [z] at e; rw [← e] at a1; omega
    · have := h.2.2 i j z hj; rw [e] at this; omega
  · rintro ⟨j, hj, e⟩
    have := h.2.2 j i hj hi
    rw [e] at this
    refine ⟨by omega, ?_⟩
    rw [← e]; exact (h.1 j (by omega)).2.2
/-- the i-th open warning, 0 if there is none -/
theorem wOp_fnd {n no : Nat} {rk ac : Nat → Int32} {tm : Nat → Int64} {op : Nat → Nat} {p1 : Int32} (h : wOp n rk ac op no) (hm : ∀ i j, 1 ≤ i → i ≤ j → j ≤ n → tm i ≤ tm j) (hn : n ≤ 200) (hno : no ≤ n) :
    (∀ i, i < no → p1 = nI i → fnd (fun k => decide (ac k = 0) && decide (nI (befN rk tm ac n k 0) = p1)) n 1 = op i) ∧ ((∀ i, i < no → p1 ≠ nI i) → fnd (fun k => decide (ac k = 0) && decide (nI (befN rk tm ac n k 0) = p1)) n 1 = 0) := by
  have K : ∀ k, 1 ≤ k → k ≤ n → (decide (ac k = 0) && decide (nI (befN rk tm ac n k 0) = p1)) = true → ∃ j, j < no ∧ op j = k ∧ p1 = nI j := by
    intro k h1 h2 hk
    rw [Bool.and_eq_true, decide_eq_true_iff, decide_eq_true_iff] at hk
    obtain ⟨j, hj, e⟩ := h.2.1 k h1 h2 hk.1
    refine ⟨j, hj, e, ?_⟩
    rw [← hk.2, ← e, wOp_bef h hm hj]
  constructor
  · intro i hi e
    rcases fnd_in (fun k => decide (ac k = 0) && decide (nI (befN rk tm ac n k 0) = p1)) n 1 with z | ⟨z1, z2, z3, -⟩
    · exfalso
      have hoi := h.1 i hi
      have : ∀ m k, k ≤ op i → op i < k + m → (∀ j, j < no → True) → fnd (fun k => decide (ac k = 0) && decide (nI (befN rk tm ac n k 0) = p1)) m k ≠ 0 ∨ k = 0 := by
        intro m
        induction m with
        | zero => intro k a b _; omega
        | succ m ih =>
          intro k a b _
          rw [fnd]
          by_cases y : (decide (ac k = 0) && decide (nI (befN rk tm ac n k 0) = p1)) = true
          · rw [if_pos y]; by_cases w : k = 0
            · exact Or.inr w
            · exact Or.inl w
          · rw [if_neg y]
            have hne : k ≠ op i := fun w => y (by rw [w, hoi.2.2, wOp_bef h hm hi, e]; simp)
            rcases ih (k + 1) (by omega) (by omega) (fun _ _ => trivial) with w | w
            · exact Or.inl w
            · omega
      rcases this n 1 hoi.1 (by omega) (fun _ _ => trivial) with w | w
      · exact w z
      · omega
    · obtain ⟨j, hj, ej, ep⟩ := K _ z1 (by omega) z3
      have : i = j := by
        rw [e] at ep
        exact (nI_eq (by omega) (by omega)).mp ep
      rw [← ej, this]
  · intro hno2
    rcases fnd_in (fun k => decide (ac k = 0) && decide (nI (befN rk tm ac n k 0) = p1)) n 1 with z | ⟨z1, z2, z3, -⟩
    · exact z
    · obtain ⟨j, hj, ej, ep⟩ := K _ z1 (by omega) z3
      exact absurd ep (hno2 j hj)
/-- a place more, and one less -/
def insL (op : Nat → Nat) (pl x : Nat) : Nat → Nat := fun j => if j < pl then op j else if j = pl then x else op (j - 1)
def delL (op : Nat → Nat) (pl : Nat) : Nat → Nat := fun j => if j < pl then op j else op (j + 1)
theorem wOp_ins {n no pl : Nat} {rk ac : Nat → Int32} {op : Nat → Nat} {r : Int32} (h : wOp n rk ac op no) (hpl : pl ≤ no) (ha : ac (n + 1) = 0) (h1 : ∀ j, j < pl → r.toInt ≤ (rk (op j)).toInt) (h2 : ∀ j, pl ≤ j → j < no → (rk (op j)).toInt < r.toInt) : wOp (n + 1) (upd rk (n + 1) r) ac (insL op pl (n + 1)) (no + 1) := by
  have eo : ∀ j, j < no → upd rk (n + 1) r (op j) = rk (op j) := fun j hj => pk_un (by have := (h.1 j hj).2.1; omega)
  have V : ∀ j, j < no + 1 → (j < pl ∧ insL op pl (n + 1) j = op j) ∨ (j = pl ∧ insL op pl (n + 1) j = n + 1) ∨ (pl < j ∧ insL op pl (n + 1) j = op (j - 1)) := by
    intro j hj
    unfold insL
    rcases Nat.lt_trichotomy j pl with q | q | q
    · left; rw [if_pos q]; exact ⟨q, rfl⟩
    · right; left; rw [if_neg (by omega), if_pos q]; exact ⟨q, rfl⟩
    · right; right; rw [if_neg (by omega), if_neg (by omega)]; exact ⟨q, rfl⟩
  refine ⟨fun j hj => ?_, fun k k1 k2 hk => ?_, fun i j hij hj => ?_⟩
  · rcases V j hj with ⟨q, e⟩ | ⟨q, e⟩ | ⟨q, e⟩ <;> rw [e]
    · have := h.1 j (by omega); exact ⟨this.1, by omega, this.2.2⟩
    · exact ⟨by omega, Nat.le_refl _, ha⟩
    · have := h.1 (j - 1) (by omega); exact ⟨this.1, by omega, this.2.2⟩
  · by_cases q : k = n + 1
    · refine ⟨pl, by omega, ?_⟩
      unfold insL
      rw [if_neg (Nat.lt_irrefl _), if_pos rfl, q]
    · obtain ⟨j, hj, e⟩ := h.2.1 k k1 (by omega) hk
      by_cases z : j < pl
      · exact ⟨j, by omega, by unfold insL; rw [if_pos z]; exact e⟩
      · exact ⟨j + 1, by omega, by unfold insL; rw [if_neg (by omega), if_neg (by omega)]; exact e⟩
  · rcases V i (by omega) with ⟨qi, ei⟩ | ⟨qi, ei⟩ | ⟨qi, ei⟩ <;> rcases V j hj with ⟨qj, ej⟩ | ⟨qj, ej⟩ | ⟨qj, ej⟩ <;> rw [ei, ej]
    · rw [eo i (by omega), eo j (by omega)]; exact h.2.2 i j hij (by omega)
    · rw [eo i (by omega), pk_us]
      have := h1 i qi
      have := (h.1 i (by omega)).2.1
      omega
    · rw [eo i (by omega), eo (j - 1) (by omega)]; exact h.2.2 i (j - 1) (by omega) (by omega)
    · omega
    · omega
    · rw [eo (j - 1) (by omega), pk_us]
      left; exact h2 (j - 1) (by omega) (by omega)
    · omega
    · omega
    · rw [eo (i - 1) (by omega), eo (j - 1) (by omega)]; exact h.2.2 (i - 1) (j - 1) (by omega) (by omega)
theorem wOp_del {n no pl : Nat} {rk ac : Nat → Int32} {op : Nat → Nat} (h : wOp n rk ac op no) (hpl : pl < no) : wOp n rk (upd ac (op pl) 1) (delL op pl) (no - 1) := by
  have V : ∀ j, j < no - 1 → ∃ i, i < no ∧ i ≠ pl ∧ delL op pl j = op i ∧ (i = j ∧ j < pl ∨ i = j + 1 ∧ pl ≤ j) := by
    intro j hj
    unfold delL
    by_cases q : j < pl
    · exact ⟨j, by omega, by omega, by rw [if_pos q], Or.inl ⟨rfl, q⟩⟩
    · exact ⟨j + 1, by omega, by omega, by rw [if_neg q], Or.inr ⟨rfl, by omega⟩⟩
  refine ⟨fun j hj => ?_, fun k k1 k2 hk => ?_, fun i j hij hj => ?_⟩
  · obtain ⟨i, hi, hn, e, -⟩ := V j hj
    rw [e]
    have := h.1 i hi
    refine ⟨this.1, this.2.1, ?_⟩
    rw [pk_un (fun z => hn (wOp_inj h hi hpl z))]; exact this.2.2
  · by_cases q : k = op pl
    · rw [q, pk_us] at hk; exact absurd hk (by decide)
    · rw [pk_un q] at hk
      obtain ⟨j, hj, e⟩ := h.2.1 k k1 k2 hk
      have hjp : j ≠ pl := fun z => q (by rw [← e, z])
      by_cases z : j < pl
      · exact ⟨j, by omega, by unfold delL; rw [if_pos z]; exact e⟩
      · exact ⟨j - 1, by omega, by unfold delL; rw [if_neg (by omega), show j - 1 + 1 = j by omega]; exact e⟩
  · obtain ⟨i1, hi1, -, ei, oi⟩ := V i (by omega)
    obtain ⟨j1, hj1, -, ej, oj⟩ := V j hj
    rw [ei, ej]
    exact h.2.2 i1 j1 (by omega) hj1
