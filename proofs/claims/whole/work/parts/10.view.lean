/-! THE VIEW: what is known of the heap's cells as one function of the address. The kit's worlds stand below it (one pool of all cells that were made since the law began; cells from before are read alone). -/
abbrev vH : Type := Nat → Option va_E
def vup (h : vH) (a : Nat) (e : va_E) : vH := fun b => if b = a then some e else h b
theorem vup_s (h : vH) (a : Nat) (e : va_E) : vup h a e a = some e := by simp [vup]
theorem vup_n (h : vH) {a b : Nat} (e : va_E) (n : b ≠ a) : vup h a e b = h b := by simp [vup, n]
theorem vup_k {h : vH} {a b : Nat} {e x y : va_E} (hb : h b = some x) (ha : h a = some y) (n : x ≠ y) : vup h a e b = some x := by
  rw [vup_n h e (fun q => n (by rw [q, ha] at hb; exact (Option.some.inj hb).symm))]
  exact hb
theorem vup_f {h : vH} {a b : Nat} {e x : va_E} (hb : h b = some x) (ha : h a = none) : vup h a e b = some x := by
  rw [vup_n h e (fun q => by rw [q, ha] at hb; cases hb)]
  exact hb
/-- what can be read at a cell -/
def vrd (D : va_G) (cl : List vw_C) (U : State) (q : Nat × va_E) (H : Heap) : Prop := match q.2 with
  | .inl x => ∃ cell : Cell, H[q.1]? = some cell ∧ cell.vm.isStatics = false ∧ cell.vm ≠ .unknown ∧ (∀ ty, ArrOfT U x.1 ty → U.isArrayOf cell ty) ∧ x.2.1 ≤ cell.slots.size ∧ cell.slots.size.toInt32 = Int32.ofNat x.2.1 ∧ ∀ j : Nat, j < x.2.1 → cell.slots[j]? = (vp_cell x.1 x.2).slots[j]?
  | .inr o => ∃ r : vw_C, cl[o.1]? = some r ∧ ∃ cell : Cell, H[q.1]? = some cell ∧ cell.cls = D.1 o.1 ∧ cell.vm.isStatics = false ∧ cell.vm ≠ .unknown ∧ ∀ k : Nat, k < r.2.2 → cell.slots[D.2 o.1 k]? = some (vp_V o.2 k)
theorem vrd.kept {D : va_G} {cl : List vw_C} {U : State} {q : Nat × va_E} {H H1 : Heap} (h : vrd D cl U q H) (e : H1[q.1]? = H[q.1]?) : vrd D cl U q H1 := by
  obtain ⟨a, x⟩ := q
  cases x with
  | inl x =>
    obtain ⟨cell, h1, h2⟩ := h
    exact ⟨cell, e.trans h1, h2⟩
  | inr o =>
    obtain ⟨r, h1, cell, h2, h3⟩ := h
    exact ⟨r, h1, cell, e.trans h2, h3⟩
theorem vArr_back {u U : State} (hvm : u.vm.Alike U.vm) {cA : ClassId} {ty : FieldType} (h : ArrOfT U cA ty) : ArrOfT u cA ty := arrOfT_moved hvm.symm h
theorem vrd.moved {D : va_G} {cl : List vw_C} {u U : State} (hvm : u.vm.Alike U.vm) {q : Nat × va_E} {H : Heap} (h : vrd D cl u q H) : vrd D cl U q H := by
  obtain ⟨a, x⟩ := q
  cases x with
  | inl x =>
    obtain ⟨cell, h1, h2, h3, h4, h5⟩ := h
    exact ⟨cell, h1, h2, h3, fun ty hty => State.isArrayOf_alike hvm (h4 ty (vArr_back hvm hty)), h5⟩
  | inr o => exact h
theorem vp_cell_size (cA : ClassId) (x : vp_A) : (vp_cell cA x).slots.size = x.1 := by
  obtain ⟨n, y⟩ := x
  rcases y with f | f | f | f | f <;> exact arrV_size _ _ _
theorem vp_cell_vm (cA : ClassId) (x : vp_A) : (vp_cell cA x).vm = .none := by
  obtain ⟨n, y⟩ := x
  rcases y with f | f | f | f | f <;> rfl
theorem vp_cell_arr (U : State) (cA : ClassId) (x : vp_A) (ty : FieldType) (h : ArrOfT U cA ty) : U.isArrayOf (vp_cell cA x) ty := by
  obtain ⟨n, y⟩ := x
  rcases y with f | f | f | f | f <;> exact h _ _
theorem vrd.of {D : va_G} {cl : List vw_C} {U : State} {q : Nat × va_E} {H : Heap} (h : va_at D cl q H) : vrd D cl U q H := by
  obtain ⟨a, x⟩ := q
  cases x with
  | inl x =>
    refine ⟨vp_cell x.1 x.2, h, by rw [vp_cell_vm]; rfl, by rw [vp_cell_vm]; exact (fun z => by cases z), fun ty hty => vp_cell_arr U x.1 x.2 ty hty, by rw [vp_cell_size]; exact Nat.le_refl _, (by rw [vp_cell_size] <;> rfl), fun j _ => rfl⟩
  | inr o =>
    obtain ⟨r, h1, cell, h2, h3, h4, h5⟩ := h
    exact ⟨r, h1, cell, h2, h3, by rw [h4]; rfl, by rw [h4]; exact (fun z => by cases z), h5⟩
abbrev vB (S0 : State) : Nat → Prop := fun q => S0.heap.size ≤ q
/-- the view h is true of the heap H -/
def vQ (S0 : State) (D : va_G) (cl : List vw_C) (h : vH) (H : Heap) : Prop := ∃ (L : List Nat) (f : Nat → va_E), va_P D cl (va_pl L f) H ∧ va_D (vB S0) (va_pl L f) ∧ ∀ (a : Nat) (e : va_E), h a = some e → (a ∈ L ∧ f a = e) ∨ (a < S0.heap.size ∧ vrd D cl S0 (a, e) S0.heap)
/-- the state is one of the law's, S0 its start -/
def vN (S0 U : State) : Prop := S0.WarmedH U.vm ∧ S0.heap.size ≤ U.heap.size ∧ ∀ q : Nat, q < S0.heap.size → U.heap[q]? = S0.heap[q]?
/-- a method's start and end -/
def vI (S0 : State) (D : va_G) (cl : List vw_C) (h : vH) (U : State) : Prop := vN S0 U ∧ vQ S0 D cl h U.heap
/-- within a method that began at s -/
def vO (S0 : State) (D : va_G) (cl : List vw_C) (h : vH) (s : State) (H : Heap) (locs : List Loc) : Prop := vN S0 s ∧ va_S (vB S0) s.heap H locs ∧ vQ S0 D cl h H
theorem vO.start {S0 : State} {D : va_G} {cl : List vw_C} {h : vH} {s : State} (x : vI S0 D cl h s) : vO S0 D cl h s s.heap [] := ⟨x.1, va_S.rf, x.2⟩
theorem vO.old {S0 : State} {D : va_G} {cl : List vw_C} {h : vH} {s : State} {H : Heap} {locs : List Loc} (x : vO S0 D cl h s H locs) : ∀ q : Nat, q < S0.heap.size → H[q]? = S0.heap[q]? := fun q hq => by
  rw [x.2.1.2.1 q (Nat.lt_of_lt_of_le hq x.1.2.1) (Nat.not_le.mpr hq)]
  exact x.1.2.2 q hq
theorem vO.rd {S0 : State} {D : va_G} {cl : List vw_C} {h : vH} {s : State} {H : Heap} {locs : List Loc} (x : vO S0 D cl h s H locs) {a : Nat} {e : va_E} (ha : h a = some e) : vrd D cl s (a, e) H := by
  obtain ⟨L, f, hP, hD, hh⟩ := x.2.2
  rcases hh a e ha with ⟨h1, h2⟩ | ⟨h1, h2⟩
  · obtain ⟨k, hk⟩ := va_pl_get (X := []) (f := f) h1
    exact vrd.of (by rw [← h2]; exact hP k _ hk)
  · exact (h2.kept (x.old a h1)).moved x.1.1.alike
theorem vO.lt {S0 : State} {D : va_G} {cl : List vw_C} {h : vH} {s : State} {H : Heap} {locs : List Loc} (x : vO S0 D cl h s H locs) {a : Nat} {e : va_E} (ha : h a = some e) : a < H.size := by
  obtain ⟨L, f, hP, hD, hh⟩ := x.2.2
  rcases hh a e ha with ⟨h1, h2⟩ | ⟨h1, h2⟩
  · exact va_pl_lt (X := []) hP h1
  · exact Nat.lt_of_lt_of_le h1 (Nat.le_trans x.1.2.1 x.2.1.1)
/-- the state behind a method -/
theorem vO.fin {S0 : State} {D : va_G} {cl : List vw_C} {h : vH} {s t : State} {H : Heap} {locs : List Loc} (x : vO S0 D cl h s H locs) (ht : t.heap = H) (hW : s.WarmedH t.vm) : vI S0 D cl h t := by
  refine ⟨⟨x.1.1.trans hW, ?_, fun q hq => ?_⟩, ?_⟩
  · rw [ht]; exact Nat.le_trans x.1.2.1 x.2.1.1
  · rw [ht]; exact x.old q hq
  · rw [ht]; exact x.2.2
/-- a state that a callee begins with -/
theorem vO.call {S0 : State} {D : va_G} {cl : List vw_C} {h : vH} {s U : State} {H : Heap} {locs : List Loc} (x : vO S0 D cl h s H locs) (ht : U.heap = H) (hW : s.WarmedH U.vm) : vI S0 D cl h U := x.fin ht hW
/-- behind a call -/
theorem vO.back {S0 : State} {D : va_G} {cl : List vw_C} {h h' : vH} {s t : State} {H H1 : Heap} {locs locs1 : List Loc} (x : vO S0 D cl h s H locs) (ht : t.heap = H1) (y : vI S0 D cl h' t) (hS : va_S (vB S0) s.heap H1 locs1) : vO S0 D cl h' s H1 locs1 := ⟨x.1, hS, by rw [← ht]; exact y.2⟩
/-- a cell that may be written: it isn't older than the law -/
theorem vO.set {S0 : State} {D : va_G} {cl : List vw_C} {h : vH} {s : State} {H : Heap} {locs : List Loc} (x : vO S0 D cl h s H locs) {a : Nat} {e0 : va_E} (ha : h a = some e0) (hw : S0.heap.size ≤ a) :
    ∃ (ws : va_W) (k : Nat), va_P D cl ws H ∧ va_D (vB S0) ws ∧ ws[k]? = some (a, e0) ∧ ∀ (e : va_E) (H1 : Heap) (locs1 : List Loc), va_P D cl (ws.set k (a, e)) H1 → va_D (vB S0) (ws.set k (a, e)) → va_S (vB S0) s.heap H1 locs1 → vO S0 D cl (vup h a e) s H1 locs1 := by
  obtain ⟨L, f, hP, hD, hh⟩ := x.2.2
  rcases hh a e0 ha with ⟨h1, h2⟩ | ⟨h1, -⟩
  · obtain ⟨k, hk⟩ := va_pl_get (X := []) (f := f) h1
    rw [List.nil_append] at hk
    refine ⟨va_pl L f, k, hP, hD, by rw [← h2]; exact hk, fun e H1 locs1 hP1 hD1 hS1 => ⟨x.1, hS1, L, va_up f a e, ?_, ?_, fun b y hb => ?_⟩⟩
    · have e1 := va_pl_set (X := []) (e := e) (by rw [List.nil_append]; exact hD) h1 (by rw [List.nil_append]; exact hk)
      rw [List.nil_append, List.nil_append] at e1
      rw [← e1]; exact hP1
    · have e1 := va_pl_set (X := []) (e := e) (by rw [List.nil_append]; exact hD) h1 (by rw [List.nil_append]; exact hk)
      rw [List.nil_append, List.nil_append] at e1
      rw [← e1]; exact hD1
    · by_cases hba : b = a
      · subst hba
        rw [vup_s] at hb
        exact Or.inl ⟨h1, by rw [va_up_self]; exact Option.some.inj hb⟩
      · rw [vup_n h e hba] at hb
        rcases hh b y hb with ⟨g1, g2⟩ | g
        · exact Or.inl ⟨g1, by rw [va_up_ne _ _ hba]; exact g2⟩
        · exact Or.inr g
  · exact absurd hw (Nat.not_le.mpr h1)
/-- a new cell -/
theorem vO.new {S0 : State} {D : va_G} {cl : List vw_C} {h : vH} {s : State} {H : Heap} {locs : List Loc} (x : vO S0 D cl h s H locs) :
    ∃ ws : va_W, va_P D cl ws H ∧ va_D (vB S0) ws ∧ ∀ (q : Nat) (e : va_E) (H1 : Heap) (locs1 : List Loc), va_P D cl (ws ++ [(q, e)]) H1 → va_D (vB S0) (ws ++ [(q, e)]) → va_S (vB S0) s.heap H1 locs1 → h q = none ∧ S0.heap.size ≤ q ∧ vO S0 D cl (vup h q e) s H1 locs1 := by
  obtain ⟨L, f, hP, hD, hh⟩ := x.2.2
  refine ⟨va_pl L f, hP, hD, fun q e H1 locs1 hP1 hD1 hS1 => ?_⟩
  have hlen : (va_pl L f ++ [(q, e)])[(va_pl L f).length]? = some (q, e) := by
    rw [List.getElem?_append_right (Nat.le_refl _), Nat.sub_self]; rfl
  have hq : S0.heap.size ≤ q := hD1.2 _ _ hlen
  have hn : q ∉ L := by
    intro hm
    obtain ⟨k, hk⟩ := va_pl_get (X := []) (f := f) hm
    rw [List.nil_append] at hk
    have hk1 := (List.getElem?_eq_some_iff.mp hk).1
    have := hD1.1 k (va_pl L f).length (q, f q) (q, e) (by rw [List.getElem?_append_left hk1]; exact hk) hlen rfl
    omega
  refine ⟨?_, hq, x.1, hS1, L ++ [q], va_up f q e, by rw [← va_pl_push hn]; exact hP1, by rw [← va_pl_push hn]; exact hD1, fun b y hb => ?_⟩
  · cases hy : h q with
    | none => rfl
    | some y =>
      rcases hh q y hy with ⟨g1, -⟩ | ⟨g1, -⟩
      · exact absurd g1 hn
      · exact absurd hq (Nat.not_le.mpr g1)
  · by_cases hba : b = q
    · subst hba
      rw [vup_s] at hb
      exact Or.inl ⟨List.mem_append_right _ List.mem_cons_self, by rw [va_up_self]; exact Option.some.inj hb⟩
    · rw [vup_n h e hba] at hb
      rcases hh b y hb with ⟨g1, g2⟩ | g
      · exact Or.inl ⟨List.mem_append_left _ g1, by rw [va_up_ne _ _ hba]; exact g2⟩
      · exact Or.inr g
/-- less is known -/
theorem vO.weak {S0 : State} {D : va_G} {cl : List vw_C} {h h' : vH} {s : State} {H : Heap} {locs : List Loc} (x : vO S0 D cl h s H locs) (hh : ∀ a e, h' a = some e → h a = some e) : vO S0 D cl h' s H locs := by
  obtain ⟨h1, h2, L, f, h3, h4, h5⟩ := x
  exact ⟨h1, h2, L, f, h3, h4, fun a e ha => h5 a e (hh a e ha)⟩
