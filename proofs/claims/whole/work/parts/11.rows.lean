/-! ROWS OVER THE VIEW -/
/-- what stays through a method: machine, code, locals' number, class, words, tables -/
def vC (p : Program) (s : State) (m : MethodId) (args : Array Value) (c : Code) (cc : ByteArray) (nL : Nat) (own : String) (Ts : List Cond) (D : va_G) (cl : List vw_C) (tys : List (ClassId × FieldType)) : Prop := CallFix p m c cc nL s args Ts own ∧ va_K D cl tys s
/-- a field, by the pool's number: to be read -/
def vFl (Ts : List Cond) (cl : List vw_C) (own : String) (index ci k : Nat) : Prop := ∃ (C : String) (T : u_T) (N : Nat) (ref : String), cl[ci]? = some (C, T, N) ∧ k < N ∧ (∀ w ∈ u_ws C T N, w ∈ Ts) ∧ Cond.fieldLink own index ref (T k).2.1 (T k).2.2.1 ∈ Ts ∧ ((T k).1 = ref ∨ Cond.sameField ref (T k).1 (T k).2.1 (T k).2.2.1 ∈ Ts)
/-- to be written; fin: a final field, in its own class's constructor -/
def vFp (Ts : List Cond) (cl : List vw_C) (own : String) (index ci k : Nat) (ty : FieldType) (fin : Bool) : Prop := ∃ (C : String) (T : u_T) (N : Nat) (ref : String) (ty0 : Nat → FieldType), cl[ci]? = some (C, T, N) ∧ k < N ∧ (∀ w ∈ u_ws C T N, w ∈ Ts) ∧ Cond.fieldLink own index ref (T k).2.1 (T k).2.2.1 ∈ Ts ∧ ((T k).1 = ref ∨ Cond.sameField ref (T k).1 (T k).2.1 (T k).2.2.1 ∈ Ts) ∧ (∀ j, j < N → parseFieldDescriptor (T j).2.2.1 = some (ty0 j)) ∧ (∀ a, a < N → ∀ b, b < N → a ≠ b → (T a).2.1 ≠ (T b).2.1) ∧ parseFieldDescriptor (T k).2.2.1 = some ty ∧ (T k).2.2.2 = fin ∧ (fin = true → (T k).1 = own)
/-- a class whose objects are made -/
def vFn (Ts : List Cond) (cl : List vw_C) (own : String) (index ci : Nat) (fs : List Value) : Prop := ∃ (C : String) (T : u_T) (ty0 : Nat → FieldType), cl[ci]? = some (C, T, fs.length) ∧ (∀ w ∈ u_ws C T fs.length, w ∈ Ts) ∧ Cond.classLink own index C ∈ Ts ∧ Cond.instantiable C fs.length ∈ Ts ∧ Cond.initialized C ∈ Ts ∧ (∀ j, j < fs.length → parseFieldDescriptor (T j).2.2.1 = some (ty0 j)) ∧ ∀ j, j < fs.length → defaultValue (ty0 j) = vp_V fs j
theorem vsame {Ts : List Cond} {args : Array Value} {s : State} (hts : ∀ w ∈ Ts, w.before args s = true) {o ref n d : String} (h : o = ref ∨ Cond.sameField ref o n d ∈ Ts) : ∀ x, s.fieldFound? o n d = some x → s.fieldFound? ref n d = some x := by
  intro x hx
  rcases h with h | h
  · subst h; exact hx
  · exact u_same (hts _ h) x hx
section VROWS
variable {p : Program} {l : Launch} {e : Env} {R : Room} {s : State} {m : MethodId} {args : Array Value} {below : List Frame} {meth : Method} {c : Code} {H : Heap} {locs : List Loc} {cells slots : Nat} {Q : State → Prop}
variable {cc : ByteArray} {pc nL : Nat} {ls : Array Slot} {rest : List Value} {D : va_G} {cl : List vw_C} {tys : List (ClassId × FieldType)} {own : String} {Ts : List Cond} {S0 : State} {h : vH} {a : Nat}
theorem mv_get (C : vC p s m args c cc nL own Ts D cl tys) (X : vO S0 D cl h s H locs) {ci index : Nat} {fs : List Value} (ha : h a = some (.inr (ci, fs))) (k : Nat) (hf : vFl Ts cl own index ci k) {v : Value} (hv : fs[k]? = some v) (hdg : decode cc pc = .ok (.getfield index, 3))
    (kk : W p l e R s m args below meth c H locs cells slots Q (F0 m (pc + 3) ls (v :: rest))) : W p l e R s m args below meth c H locs cells slots Q (F0 m pc ls (.ref a :: rest)) := by
  obtain ⟨⟨hx, hb, -, hown, hts⟩, hK⟩ := C
  obtain ⟨Cn, T, N, ref, hc, hk, hin, hlk, hsm⟩ := hf
  obtain ⟨r, h1, cell, q1, q2, q3, q4, q5⟩ := X.rd ha
  have hr : r = (Cn, T, N) := Option.some.inj (h1.symm.trans hc)
  subst hr
  obtain ⟨hS, hfc, kC, hkC, hkind⟩ := hK.1 ci _ hc
  obtain ⟨cf, kf, fi, f, hi, hsl⟩ := hS k hk
  refine W.getf hx hb hown (hts _ hlk) (vsame hts hsm _ hi) (u_facts hfc hkC (u_lays hts hin hk) hi).1 q1 q4 (v := v) ?_ rfl rfl hdg kk
  rw [hsl, q5 k hk]
  simp [vp_V, hv]
theorem mv_put (C : vC p s m args c cc nL own Ts D cl tys) (X : vO S0 D cl h s H locs) {ci index : Nat} {fs : List Value} (ha : h a = some (.inr (ci, fs))) (hw : S0.heap.size ≤ a) (k : Nat) {ty : FieldType} {v : Value} (hf : vFp Ts cl own index ci k ty false) (hn : narrow ty v = v) (hfit : fits ty v = true) (hl : k < fs.length) (hdg : decode cc pc = .ok (.putfield index, 3))
    (kk : ∀ (H1 : Heap) (locs1 : List Loc), vO S0 D cl (vup h a (.inr (ci, fs.set k v))) s H1 locs1 → W p l e R s m args below meth c H1 locs1 cells slots Q (F0 m (pc + 3) ls rest)) : W p l e R s m args below meth c H locs cells slots Q (F0 m pc ls (v :: .ref a :: rest)) := by
  obtain ⟨⟨hx, hb, -, hown, hts⟩, hK⟩ := C
  obtain ⟨Cn, T, N, ref, ty0, hc, hk, hin, hlk, hsm, hty, hnm, hd, hfin, -⟩ := hf
  obtain ⟨ws, q0, hP, hD, he, hset⟩ := X.set ha hw
  exact va_put hx hb hts hin ty0 hty hnm hown hK hP hD X.2.1 q0 he hc k hk (hts _ hlk) (vsame hts hsm) hfin hd hn hfit hl hdg (fun H1 l1 a1 a2 a3 => kk H1 l1 (hset _ H1 l1 a1 a2 a3))
theorem mv_putF (C : vC p s m args c cc nL own Ts D cl tys) (X : vO S0 D cl h s H locs) {ci index : Nat} {fs : List Value} (ha : h a = some (.inr (ci, fs))) (hw : S0.heap.size ≤ a) (k : Nat) {ty : FieldType} {v : Value} (hin2 : meth.name = "<init>") (hf : vFp Ts cl own index ci k ty true) (hn : narrow ty v = v) (hfit : fits ty v = true) (hl : k < fs.length) (hdg : decode cc pc = .ok (.putfield index, 3))
    (kk : ∀ (H1 : Heap) (locs1 : List Loc), vO S0 D cl (vup h a (.inr (ci, fs.set k v))) s H1 locs1 → W p l e R s m args below meth c H1 locs1 cells slots Q (F0 m (pc + 3) ls rest)) : W p l e R s m args below meth c H locs cells slots Q (F0 m pc ls (v :: .ref a :: rest)) := by
  obtain ⟨⟨hx, hb, -, hown, hts⟩, hK⟩ := C
  obtain ⟨Cn, T, N, ref, ty0, hc, hk, hin, hlk, hsm, hty, hnm, hd, hfin, hdc⟩ := hf
  obtain ⟨ws, q0, hP, hD, he, hset⟩ := X.set ha hw
  exact va_putF hx hb hts hin ty0 hty hnm hown hK hP hD X.2.1 q0 he hc k hk (hts _ hlk) (vsame hts hsm) hfin hin2 (hdc rfl) hd hn hfit hl hdg (fun H1 l1 a1 a2 a3 => kk H1 l1 (hset _ H1 l1 a1 a2 a3))
theorem mv_new (C : vC p s m args c cc nL own Ts D cl tys) (X : vO S0 D cl h s H locs) {ci index : Nat} {fs : List Value} (hf : vFn Ts cl own index ci fs) (hcells : cells + 1 ≤ R.cells) (hslots : slots + fs.length ≤ R.slots) (hdg : decode cc pc = .ok (.new index, 3))
    (kk : ∀ (q : Nat) (H1 : Heap), h q = none → S0.heap.size ≤ q → vO S0 D cl (vup h q (.inr (ci, fs))) s H1 locs → W p l e R s m args below meth c H1 locs (cells + 1) (slots + fs.length) Q (F0 m (pc + 3) ls (.ref q :: rest))) : W p l e R s m args below meth c H locs cells slots Q (F0 m pc ls rest) := by
  obtain ⟨⟨hx, hb, -, hown, hts⟩, hK⟩ := C
  obtain ⟨Cn, T, ty0, hc, hin, hcl, hins, hini, hty, hfs⟩ := hf
  obtain ⟨ws, hP, hD, hnew⟩ := X.new
  exact va_new hx hb hts hin ty0 hty hown (hts _ hcl) (hts _ hins) (hts _ hini) hK hP hD X.2.1 (fun q hq => Nat.le_trans X.1.2.1 hq) hc hfs hcells hslots hdg (fun q H1 a1 a2 a3 => by
    obtain ⟨b1, b2, b3⟩ := hnew q _ H1 locs a1 a2 a3
    exact kk q H1 b1 b2 b3)
theorem mv_hin {i : Int32} {j n N : Nat} (hi : i = nI j) (hj : j < n) (hn : n < 2 ^ 31) (hN : n ≤ N) : ¬ (i < 0 ∨ N ≤ i.toNatClampNeg) := by
  subst hi
  rw [nI_clamp (by omega)]
  intro z
  rcases z with z | z
  · exact nI_pos (by omega) z
  · omega
theorem mv_iald (C : vC p s m args c cc nL own Ts D cl tys) (X : vO S0 D cl h s H locs) {n : Nat} {cA : ClassId} {f : Nat → Int32} (ha : h a = some (.inl (cA, n, .inl f))) (t0 : Nat) (ht : tys[t0]? = some (cA, .int)) {i : Int32} (j : Nat) (hi : i = nI j) (hj : j < n) (hn : n < 2 ^ 31) (hdg : decode cc pc = .ok (.iaload, 1))
    (kk : W p l e R s m args below meth c H locs cells slots Q (F0 m (pc + 1) ls (.int (f j) :: rest))) : W p l e R s m args below meth c H locs cells slots Q (F0 m pc ls (.int i :: .ref a :: rest)) := by
  obtain ⟨⟨hx, hb, -, hown, hts⟩, hK⟩ := C
  obtain ⟨cell, q1, q2, q3, q4, q5, q6, q7⟩ := X.rd ha
  have ec : i.toNatClampNeg = j := by rw [hi]; exact nI_clamp (by omega)
  exact W.iald (v := .int (f j)) hx hb q1 (q4 .int (hK.2 t0 _ ht).1) q3 (mv_hin hi hj hn q5) (by rw [ec, q7 _ hj]; show (arrV _ _ _).slots[_]? = _; rw [arrV_read _ _ hj]) rfl rfl hdg kk
theorem mv_lald (C : vC p s m args c cc nL own Ts D cl tys) (X : vO S0 D cl h s H locs) {n : Nat} {cA : ClassId} {f : Nat → Int64} (ha : h a = some (.inl (cA, n, .inr (.inl f)))) (t0 : Nat) (ht : tys[t0]? = some (cA, .long)) {i : Int32} (j : Nat) (hi : i = nI j) (hj : j < n) (hn : n < 2 ^ 31) (hdg : decode cc pc = .ok (.laload, 1))
    (kk : W p l e R s m args below meth c H locs cells slots Q (F0 m (pc + 1) ls (.long (f j) :: rest))) : W p l e R s m args below meth c H locs cells slots Q (F0 m pc ls (.int i :: .ref a :: rest)) := by
  obtain ⟨⟨hx, hb, -, hown, hts⟩, hK⟩ := C
  obtain ⟨cell, q1, q2, q3, q4, q5, q6, q7⟩ := X.rd ha
  have ec : i.toNatClampNeg = j := by rw [hi]; exact nI_clamp (by omega)
  exact W.lald (v := .long (f j)) hx hb q1 (q4 .long (hK.2 t0 _ ht).1) q3 (mv_hin hi hj hn q5) (by rw [ec, q7 _ hj]; show (arrV _ _ _).slots[_]? = _; rw [arrV_read _ _ hj]) rfl rfl hdg kk
theorem mv_bald (C : vC p s m args c cc nL own Ts D cl tys) (X : vO S0 D cl h s H locs) {n : Nat} {cA : ClassId} {f : Nat → Int32} (ha : h a = some (.inl (cA, n, .inl f))) (t0 : Nat) (ht : tys[t0]? = some (cA, .byte)) {i : Int32} (j : Nat) (hi : i = nI j) (hj : j < n) (hn : n < 2 ^ 31) (hdg : decode cc pc = .ok (.baload, 1))
    (kk : W p l e R s m args below meth c H locs cells slots Q (F0 m (pc + 1) ls (.int (f j) :: rest))) : W p l e R s m args below meth c H locs cells slots Q (F0 m pc ls (.int i :: .ref a :: rest)) := by
  obtain ⟨⟨hx, hb, -, hown, hts⟩, hK⟩ := C
  obtain ⟨cell, q1, q2, q3, q4, q5, q6, q7⟩ := X.rd ha
  have ec : i.toNatClampNeg = j := by rw [hi]; exact nI_clamp (by omega)
  exact W.bald (v := .int (f j)) hx hb q1 (q4 .byte (hK.2 t0 _ ht).1) q3 (mv_hin hi hj hn q5) (by rw [ec, q7 _ hj]; show (arrV _ _ _).slots[_]? = _; rw [arrV_read _ _ hj]) rfl rfl hdg kk
theorem mv_zald (C : vC p s m args c cc nL own Ts D cl tys) (X : vO S0 D cl h s H locs) {n : Nat} {cA : ClassId} {f : Nat → Int32} (ha : h a = some (.inl (cA, n, .inl f))) (t0 : Nat) (ht : tys[t0]? = some (cA, .boolean)) {i : Int32} (j : Nat) (hi : i = nI j) (hj : j < n) (hn : n < 2 ^ 31) (hdg : decode cc pc = .ok (.baload, 1))
    (kk : W p l e R s m args below meth c H locs cells slots Q (F0 m (pc + 1) ls (.int (f j) :: rest))) : W p l e R s m args below meth c H locs cells slots Q (F0 m pc ls (.int i :: .ref a :: rest)) := by
  obtain ⟨⟨hx, hb, -, hown, hts⟩, hK⟩ := C
  obtain ⟨cell, q1, q2, q3, q4, q5, q6, q7⟩ := X.rd ha
  have ec : i.toNatClampNeg = j := by rw [hi]; exact nI_clamp (by omega)
  exact W.zald (v := .int (f j)) hx hb q1 (q4 .boolean (hK.2 t0 _ ht).1) q3 (mv_hin hi hj hn q5) (by rw [ec, q7 _ hj]; show (arrV _ _ _).slots[_]? = _; rw [arrV_read _ _ hj]) rfl rfl hdg kk
theorem mv_aald (C : vC p s m args c cc nL own Ts D cl tys) (X : vO S0 D cl h s H locs) {n : Nat} {cA : ClassId} {f : Nat → Option Nat} (ha : h a = some (.inl (cA, n, .inr (.inr (.inr (.inr f)))))) (t0 : Nat) {ty : FieldType} (ht : tys[t0]? = some (cA, ty)) (hr : ty.isReference = true) {i : Int32} (j : Nat) (hi : i = nI j) (hj : j < n) (hn : n < 2 ^ 31) (hdg : decode cc pc = .ok (.aaload, 1))
    (kk : W p l e R s m args below meth c H locs cells slots Q (F0 m (pc + 1) ls (va_rf (f j) :: rest))) : W p l e R s m args below meth c H locs cells slots Q (F0 m pc ls (.int i :: .ref a :: rest)) := by
  obtain ⟨⟨hx, hb, -, hown, hts⟩, hK⟩ := C
  obtain ⟨cell, q1, q2, q3, q4, q5, q6, q7⟩ := X.rd ha
  have ec : i.toNatClampNeg = j := by rw [hi]; exact nI_clamp (by omega)
  exact W.aald (v := va_rf (f j)) (ty := ty) hx hb q1 (q4 ty (hK.2 t0 _ ht).1) hr q3 (mv_hin hi hj hn q5) (by rw [ec, q7 _ hj]; show (arrV _ _ _).slots[_]? = _; rw [arrV_read _ _ hj]) rfl rfl hdg kk
theorem mv_alen (C : vC p s m args c cc nL own Ts D cl tys) (X : vO S0 D cl h s H locs) {cA : ClassId} {x : vp_A} (ha : h a = some (.inl (cA, x))) (t0 : Nat) {ty : FieldType} (ht : tys[t0]? = some (cA, ty)) (hdg : decode cc pc = .ok (.arraylength, 1))
    (kk : W p l e R s m args below meth c H locs cells slots Q (F0 m (pc + 1) ls (.int (nI x.1) :: rest))) : W p l e R s m args below meth c H locs cells slots Q (F0 m pc ls (.ref a :: rest)) := by
  obtain ⟨⟨hx, hb, -, hown, hts⟩, hK⟩ := C
  obtain ⟨cell, q1, q2, q3, q4, q5, q6, q7⟩ := X.rd ha
  exact W.alen (n := nI x.1) hx hb q1 (q4 ty (hK.2 t0 _ ht).1) q6 rfl rfl hdg kk
theorem mv_in {i : Int32} {j n : Nat} (hi : i = nI j) (hj : j < n) (hn : n < 2 ^ 31) : vp_in i n := by rw [hi]; exact vp_in_nI hj hn
theorem mv_iast (C : vC p s m args c cc nL own Ts D cl tys) (X : vO S0 D cl h s H locs) {n : Nat} {cA : ClassId} {f : Nat → Int32} (ha : h a = some (.inl (cA, n, .inl f))) (hw : S0.heap.size ≤ a) (t0 : Nat) (ht : tys[t0]? = some (cA, .int)) {i x : Int32} (j : Nat) (hi : i = nI j) (hj : j < n) (hn : n < 2 ^ 31) (hdg : decode cc pc = .ok (.iastore, 1))
    (kk : ∀ (H1 : Heap) (locs1 : List Loc), vO S0 D cl (vup h a (.inl (cA, n, .inl (upd f j x)))) s H1 locs1 → W p l e R s m args below meth c H1 locs1 cells slots Q (F0 m (pc + 1) ls rest)) : W p l e R s m args below meth c H locs cells slots Q (F0 m pc ls (.int x :: .int i :: .ref a :: rest)) := by
  obtain ⟨⟨hx, hb, -, hown, hts⟩, hK⟩ := C
  obtain ⟨ws, q0, hP, hD, he, hset⟩ := X.set ha hw
  have ec : i.toNatClampNeg = j := by rw [hi]; exact nI_clamp (by omega)
  refine va_iast hx hb hK hP hD X.2.1 q0 t0 he ht (mv_in hi hj hn) hdg (fun H1 l1 a1 a2 a3 => kk H1 l1 ?_)
  rw [ec] at a1 a2
  exact hset _ H1 l1 a1 a2 a3
theorem mv_last (C : vC p s m args c cc nL own Ts D cl tys) (X : vO S0 D cl h s H locs) {n : Nat} {cA : ClassId} {f : Nat → Int64} (ha : h a = some (.inl (cA, n, .inr (.inl f)))) (hw : S0.heap.size ≤ a) (t0 : Nat) (ht : tys[t0]? = some (cA, .long)) {i : Int32} {x : Int64} (j : Nat) (hi : i = nI j) (hj : j < n) (hn : n < 2 ^ 31) (hdg : decode cc pc = .ok (.lastore, 1))
    (kk : ∀ (H1 : Heap) (locs1 : List Loc), vO S0 D cl (vup h a (.inl (cA, n, .inr (.inl (vp_updL f j x))))) s H1 locs1 → W p l e R s m args below meth c H1 locs1 cells slots Q (F0 m (pc + 1) ls rest)) : W p l e R s m args below meth c H locs cells slots Q (F0 m pc ls (.long x :: .int i :: .ref a :: rest)) := by
  obtain ⟨⟨hx, hb, -, hown, hts⟩, hK⟩ := C
  obtain ⟨ws, q0, hP, hD, he, hset⟩ := X.set ha hw
  have ec : i.toNatClampNeg = j := by rw [hi]; exact nI_clamp (by omega)
  refine va_last hx hb hK hP hD X.2.1 q0 t0 he ht (mv_in hi hj hn) hdg (fun H1 l1 a1 a2 a3 => kk H1 l1 ?_)
  rw [ec] at a1 a2
  exact hset _ H1 l1 a1 a2 a3
theorem mv_bast (C : vC p s m args c cc nL own Ts D cl tys) (X : vO S0 D cl h s H locs) {n : Nat} {cA : ClassId} {f : Nat → Int32} (ha : h a = some (.inl (cA, n, .inl f))) (hw : S0.heap.size ≤ a) (t0 : Nat) (ht : tys[t0]? = some (cA, .byte)) {i x : Int32} (j : Nat) (hi : i = nI j) (hj : j < n) (hn : n < 2 ^ 31) (hdg : decode cc pc = .ok (.bastore, 1))
    (kk : ∀ (H1 : Heap) (locs1 : List Loc), vO S0 D cl (vup h a (.inl (cA, n, .inl (upd f j (vp_nar .byte x))))) s H1 locs1 → W p l e R s m args below meth c H1 locs1 cells slots Q (F0 m (pc + 1) ls rest)) : W p l e R s m args below meth c H locs cells slots Q (F0 m pc ls (.int x :: .int i :: .ref a :: rest)) := by
  obtain ⟨⟨hx, hb, -, hown, hts⟩, hK⟩ := C
  obtain ⟨ws, q0, hP, hD, he, hset⟩ := X.set ha hw
  have ec : i.toNatClampNeg = j := by rw [hi]; exact nI_clamp (by omega)
  refine va_bast hx hb hK hP hD X.2.1 q0 t0 he ht (mv_in hi hj hn) hdg (fun H1 l1 a1 a2 a3 => kk H1 l1 ?_)
  rw [ec] at a1 a2
  exact hset _ H1 l1 a1 a2 a3
theorem mv_any (C : vC p s m args c cc nL own Ts D cl tys) (X : vO S0 D cl h s H locs) {ci : Nat} {fs : List Value} {r : vw_C} {E : String} (ha : h a = some (.inr (ci, fs))) (hc : cl[ci]? = some r) (hasg : ∀ comp c0 : ClassId, s.vm.findClass E = some comp → s.vm.findClass r.1 = some c0 → s.vm.assignable c0 comp = true) : va_Any E s H a := by
  obtain ⟨⟨hx, hb, -, hown, hts⟩, hK⟩ := C
  obtain ⟨r', h1, cell, q1, q2, q3, q4, q5⟩ := X.rd ha
  have hr : r' = r := Option.some.inj (h1.symm.trans hc)
  subst hr
  obtain ⟨hS, hfc, kC, hkC, hkind⟩ := hK.1 ci _ hc
  exact ⟨cell, q1, q3, ⟨kC, by rw [q2]; exact hkC⟩, fun comp h9 => hasg comp _ h9 (by rw [q2]; exact hfc)⟩
theorem mv_recv (C : vC p s m args c cc nL own Ts D cl tys) (X : vO S0 D cl h s H locs) {ci : Nat} {fs : List Value} {r : vw_C} (ha : h a = some (.inr (ci, fs))) (hc : cl[ci]? = some r) : ∃ cell : Cell, H[a]? = some cell ∧ cell.vm.isStatics = false ∧ s.vm.findClass r.1 = some cell.cls := by
  obtain ⟨⟨hx, hb, -, hown, hts⟩, hK⟩ := C
  obtain ⟨r', h1, cell, q1, q2, q3, q4, q5⟩ := X.rd ha
  have hr : r' = r := Option.some.inj (h1.symm.trans hc)
  subst hr
  obtain ⟨hS, hfc, kC, hkC, hkind⟩ := hK.1 ci _ hc
  exact ⟨cell, q1, q3, by rw [q2]; exact hfc⟩
theorem mv_aast (C : vC p s m args c cc nL own Ts D cl tys) (X : vO S0 D cl h s H locs) {n v : Nat} {cA : ClassId} {E : String} {f : Nat → Option Nat} (ha : h a = some (.inl (cA, n, .inr (.inr (.inr (.inr f)))))) (hw : S0.heap.size ≤ a) (t0 : Nat) (ht : tys[t0]? = some (cA, .object E)) (hr : va_Any E s H v) {i : Int32} (j : Nat) (hi : i = nI j) (hj : j < n) (hn : n < 2 ^ 31) (hdg : decode cc pc = .ok (.aastore, 1))
    (kk : ∀ (H1 : Heap) (locs1 : List Loc), vO S0 D cl (vup h a (.inl (cA, n, .inr (.inr (.inr (.inr (va_up f j (some v)))))))) s H1 locs1 → W p l e R s m args below meth c H1 locs1 cells slots Q (F0 m (pc + 1) ls rest)) : W p l e R s m args below meth c H locs cells slots Q (F0 m pc ls (.ref v :: .int i :: .ref a :: rest)) := by
  obtain ⟨⟨hx, hb, -, hown, hts⟩, hK⟩ := C
  obtain ⟨ws, q0, hP, hD, he, hset⟩ := X.set ha hw
  have ec : i.toNatClampNeg = j := by rw [hi]; exact nI_clamp (by omega)
  refine va_astqM hx hb hK hP hD X.2.1 q0 t0 he ht hr (mv_in hi hj hn) hdg (fun H1 l1 a1 a2 a3 => kk H1 l1 ?_)
  rw [ec] at a1 a2
  exact hset _ H1 l1 a1 a2 a3
theorem mv_aastN (C : vC p s m args c cc nL own Ts D cl tys) (X : vO S0 D cl h s H locs) {n : Nat} {cA : ClassId} {E : String} {f : Nat → Option Nat} (ha : h a = some (.inl (cA, n, .inr (.inr (.inr (.inr f)))))) (hw : S0.heap.size ≤ a) (t0 : Nat) (ht : tys[t0]? = some (cA, .object E)) {i : Int32} (j : Nat) (hi : i = nI j) (hj : j < n) (hn : n < 2 ^ 31) (hdg : decode cc pc = .ok (.aastore, 1))
    (kk : ∀ (H1 : Heap) (locs1 : List Loc), vO S0 D cl (vup h a (.inl (cA, n, .inr (.inr (.inr (.inr (va_up f j none))))))) s H1 locs1 → W p l e R s m args below meth c H1 locs1 cells slots Q (F0 m (pc + 1) ls rest)) : W p l e R s m args below meth c H locs cells slots Q (F0 m pc ls (.null :: .int i :: .ref a :: rest)) := by
  obtain ⟨⟨hx, hb, -, hown, hts⟩, hK⟩ := C
  obtain ⟨ws, q0, hP, hD, he, hset⟩ := X.set ha hw
  have ec : i.toNatClampNeg = j := by rw [hi]; exact nI_clamp (by omega)
  refine va_astqN hx hb hK hP hD X.2.1 q0 t0 he ht (mv_in hi hj hn) hdg (fun H1 l1 a1 a2 a3 => kk H1 l1 ?_)
  rw [ec] at a1 a2
  exact hset _ H1 l1 a1 a2 a3
/-- one class of arrays a type -/
theorem va_RA_one {U : State} {c1 c2 : ClassId} {ty : FieldType} (h1 : va_RA U c1 ty) (h2 : va_RA U c2 ty) : c1 = c2 := by
  cases ty with
  | object C =>
    obtain ⟨_, _, -, -, -, a⟩ := h1
    obtain ⟨_, _, -, -, -, b⟩ := h2
    exact Option.some.inj (a.symm.trans b)
  | _ => exact Option.some.inj (Eq.trans (Eq.symm h1) h2)
theorem mv_newa (C : vC p s m args c cc nL own Ts D cl tys) (X : vO S0 D cl h s H locs) {atype : ArrayType} (harr : Cond.arrayClass (newarray.typeOf atype) ∈ Ts) {ty : FieldType} (hty : newarray.typeOf atype = ty) (t0 : Nat) {cA : ClassId} (ht : tys[t0]? = some (cA, ty)) {n : Int32} (N' : Nat) {a0 : vp_A} (ha : ∀ cA : ClassId, vp_cell cA a0 = arrV cA N' (fun _ => defaultValue ty)) (hi : n = nI N') (hN : N' < 2 ^ 31) (hbytes : N' * componentBytes ty ≤ 536870912) (hcells : cells + 1 ≤ R.cells) (hslots : slots + N' ≤ R.slots) (hdg : decode cc pc = .ok (.newarray atype, 2))
    (kk : ∀ (q : Nat) (H1 : Heap), h q = none → S0.heap.size ≤ q → vO S0 D cl (vup h q (.inl (cA, a0))) s H1 locs → W p l e R s m args below meth c H1 locs (cells + 1) (slots + N') Q (F0 m (pc + 2) ls (.ref q :: rest))) : W p l e R s m args below meth c H locs cells slots Q (F0 m pc ls (.int n :: rest)) := by
  obtain ⟨⟨hx, hb, -, hown, hts⟩, hK⟩ := C
  obtain ⟨ws, hP, hD, hnew⟩ := X.new
  subst hi
  refine va_newa hx hb (hts _ harr) hty hK hP hD X.2.1 (fun q hq => Nat.le_trans X.1.2.1 hq) ha (nI_pos hN) (nI_clamp hN) hbytes hcells hslots hdg (fun q cB H1 hK1 a1 a2 a3 => ?_)
  have h1 : va_RA s cB ty := (hK1.2 tys.length (cB, ty) (by rw [List.getElem?_append_right (Nat.le_refl _), Nat.sub_self]; rfl)).2
  have h2 : cA = cB := va_RA_one (hK.2 t0 _ ht).2 h1
  subst h2
  obtain ⟨b1, b2, b3⟩ := hnew q _ H1 locs a1 a2 a3
  exact kk q H1 b1 b2 b3
theorem mv_newq (C : vC p s m args c cc nL own Ts D cl tys) (X : vO S0 D cl h s H locs) {E : String} {index : Nat} (hcl : Cond.classLink own index E ∈ Ts) (hover : va_AO E s) (t0 : Nat) {cA : ClassId} (ht : tys[t0]? = some (cA, .object E)) {n : Int32} (N' : Nat) (hi : n = nI N') (hN : N' < 2 ^ 31) (hbytes : N' * 4 ≤ 536870912) (hcells : cells + 1 ≤ R.cells) (hslots : slots + N' ≤ R.slots) (hdg : decode cc pc = .ok (.anewarray index, 3))
    (kk : ∀ (q : Nat) (H1 : Heap), h q = none → S0.heap.size ≤ q → vO S0 D cl (vup h q (.inl (cA, N', .inr (.inr (.inr (.inr (fun _ => none))))))) s H1 locs → W p l e R s m args below meth c H1 locs (cells + 1) (slots + N') Q (F0 m (pc + 3) ls (.ref q :: rest))) : W p l e R s m args below meth c H locs cells slots Q (F0 m pc ls (.int n :: rest)) := by
  obtain ⟨⟨hx, hb, -, hown, hts⟩, hK⟩ := C
  obtain ⟨ws, hP, hD, hnew⟩ := X.new
  subst hi
  refine va_newq hx hb hown (hts _ hcl) hover hK hP hD X.2.1 (fun q hq => Nat.le_trans X.1.2.1 hq) (nI_pos hN) (nI_clamp hN) hbytes hcells hslots hdg (fun q cB H1 hK1 a1 a2 a3 => ?_)
  have h1 : va_RA s cB (.object E) := (hK1.2 tys.length (cB, .object E) (by rw [List.getElem?_append_right (Nat.le_refl _), Nat.sub_self]; rfl)).2
  have h2 : cA = cB := va_RA_one (hK.2 t0 _ ht).2 h1
  subst h2
  obtain ⟨b1, b2, b3⟩ := hnew q _ H1 locs a1 a2 a3
  exact kk q H1 b1 b2 b3
end VROWS
