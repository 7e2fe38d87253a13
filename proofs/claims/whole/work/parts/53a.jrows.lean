/-! ROWS FOR THE JDK'S AND THE CLASS'S METHODS -/
theorem vne {h : vH} {a b : Nat} {x y : va_E} (ha : h a = some x) (hb : h b = some y) (n : x ≠ y) : a ≠ b := fun q => n (by rw [q, hb] at ha; exact (Option.some.inj ha).symm)
theorem vnf {h : vH} {a b : Nat} {x : va_E} (ha : h a = some x) (hb : h b = none) : a ≠ b := fun q => by rw [q, hb] at ha; cases ha
theorem vup_u (h : vH) (a : Nat) (e e' : va_E) : vup (vup h a e) a e' = vup h a e' := funext (fun b => by
  by_cases q : b = a
  · rw [q, vup_s, vup_s]
  · rw [vup_n _ _ q, vup_n _ _ q, vup_n _ _ q])
/-- what was known stays, but for the cells of K -/
def vfx (K : Nat → Prop) (h h' : vH) : Prop := ∀ b e, h b = some e → ¬ K b → h' b = some e
theorem vfx.rf {K : Nat → Prop} {h : vH} : vfx K h h := fun _ _ q _ => q
theorem vfx.trans {K : Nat → Prop} {h h' h'' : vH} (p : vfx K h h') (q : vfx K h' h'') : vfx K h h'' := fun b e x k => q b e (p b e x k) k
theorem vfx.mono {K K' : Nat → Prop} {h h' : vH} (p : vfx K h h') (hk : ∀ b, K b → K' b) : vfx K' h h' := fun b e x k => p b e x (fun z => k (hk b z))
theorem vfx.up {K : Nat → Prop} {h h' : vH} {a : Nat} {e : va_E} (p : vfx K h h') (ha : K a) : vfx K h (vup h' a e) := fun b x q k => by
  rw [vup_n _ _ (fun z => k (by rw [z]; exact ha))]; exact p b x q k
theorem vfx.new {K : Nat → Prop} {h h' : vH} {a : Nat} {e : va_E} (p : vfx K h h') (ha : h a = none) : vfx K h (vup h' a e) := fun b x q k => by
  rw [vup_n _ _ (vnf q ha)]; exact p b x q k
/-- a cell that isn't known now wasn't before, if all stays -/
theorem vfx.non {h h' : vH} {a : Nat} (p : vfx (fun _ => False) h h') (ha : h' a = none) : h a = none := by
  cases q : h a with
  | none => rfl
  | some e => rw [p a e q (fun z => z)] at ha; cases ha
theorem sel_priv {C : String} {y z w : MethodName} {s : State} {args : Array Value} (hy : y.cls ≠ "java/lang/invoke/MethodHandle" ∧ y.cls ≠ "java/lang/invoke/VarHandle") (hz : z.cls = y.cls)
    (hsel0 : (Cond.selects C w z).before args s = true) (hpriv : (Cond.privateMethod y).before args s = true) (hinst : (Cond.instanceMethod y).before args s = true) :
    (Cond.selects C y y).before args s = true := by
  obtain ⟨c, r, m0, hc, -, hm0, -, mk0, hk0, hni⟩ := Cond.selects_spec hsel0
  obtain ⟨mk, methM, hnamed, hmethM, -, -⟩ := Cond.instanceMethod_spec hinst
  have hfound : s.methodFound? y.cls y.name y.desc = some mk := State.methodFound?_of_named hnamed hy
  have hsel : selectMethod {} s.vm c mk = .method mk := selectMethod_private hmethM (Cond.privateMethod_at hpriv mk methM hnamed hmethM)
  have hcls : mk.cls = m0.cls := by
    have h1 := findClass_of_methodNamed hnamed
    have h2 := findClass_of_methodNamed hm0
    rw [hz] at h2
    exact Option.some.inj (h1.symm.trans h2)
  simp only [Cond.before, Cond.holds, Cond.value, hc, hfound, hnamed, hsel, hcls, hk0]
  simp; exact hni
/-- what calls of a private method of a superclass, and of super's own, ask of the tables -/
theorem va_Nw.warmPr {x : MethodName} {s U : State} (hW : s.WarmedH U.vm) (hZ : va_Nw (.privateMethod x) s) : va_Nw (.privateMethod x) U := va_tabs rfl (rfl : (s.setVm U.vm).vm = U.vm) (by rw [Cond.privateMethod_setVm hW.alike]; exact hZ)
def vKP (S0 : State) (Ts : List Cond) (own : String) (index : Nat) (C : String) (w z y : MethodName) (bytes : ByteArray) (maxL : Nat) (ret : Option FieldType) (n : Nat) : Prop := Cond.methodLink own index y ∈ Ts ∧ Cond.sameMethod y.cls y.cls y.name y.desc ∈ Ts ∧ Cond.selects C w z ∈ Ts ∧ z.cls = y.cls ∧ va_Nw (.privateMethod y) S0 ∧ Cond.instanceMethod y ∈ Ts ∧ Cond.initialized y.cls ∈ Ts ∧ Cond.code y bytes maxL ret ∈ Ts ∧ (y.cls ≠ "java/lang/invoke/MethodHandle" ∧ y.cls ≠ "java/lang/invoke/VarHandle" ∧ (parseMethodDescriptor y.desc).map (fun d => d.parameters.length) = some n)
def vKU2 (Ts : List Cond) (own : String) (index : Nat) (y : MethodName) (bytes : ByteArray) (maxL : Nat) (ret : Option FieldType) (n : Nat) : Prop := Cond.methodLink own index y ∈ Ts ∧ Cond.sameMethod y.cls y.cls y.name y.desc ∈ Ts ∧ Cond.superclass own y.cls ∈ Ts ∧ Cond.instanceMethod y ∈ Ts ∧ Cond.initialized y.cls ∈ Ts ∧ Cond.code y bytes maxL ret ∈ Ts ∧ (y.name ≠ "<init>" ∧ (parseMethodDescriptor y.desc).map (fun d => d.parameters.length) = some n)
section JROWS
variable {p : Program} {l : Launch} {e : Env} {R : Room} {s : State} {m : MethodId} {args : Array Value} {below : List Frame} {meth : Method} {c : Code} {H : Heap} {locs : List Loc} {cells slots : Nat} {Q : State → Prop}
variable {cc : ByteArray} {pc nL : Nat} {ls : Array Slot} {rest st0 : List Value} {D : va_G} {cl : List vw_C} {tys : List (ClassId × FieldType)} {own : String} {Ts : List Cond} {S0 : State} {h : vH} {a : Nat}
theorem mv_gets (C : vC p s m args c cc nL own Ts D cl tys) (X : vO S0 D cl h s H locs) {Cn ref n d : String} {v : Value} {index : Nat} (hZ : va_Z Cn n d v (vB S0) S0 S0.heap) (hlk : Cond.fieldLink own index ref n d ∈ Ts) (hsm : Cn = ref) (hdg : decode cc pc = .ok (.getstatic index, 3))
    (kk : W p l e R s m args below meth c H locs cells slots Q (F0 m (pc + 3) ls (v :: rest))) : W p l e R s m args below meth c H locs cells slots Q (F0 m pc ls rest) := by
  obtain ⟨⟨hx, hb, -, hown, hts⟩, hK⟩ := C
  have h1 : va_Z Cn n d v (vB S0) s s.heap := (hZ.moved X.1.1.alike).kept (fun q g1 g2 => X.1.2.2 q g1)
  exact va_gets hx hb h1 X.2.1 hown (hts _ hlk) (fun x hx => by rw [← hsm]; exact hx) hdg kk
theorem mv_obj (C : vC p s m args c cc nL own Ts D cl tys) (hsz : ls.size = nL) {index : Nat} (hk : Cond.methodLink own index Lib.objectInit ∈ Ts ∧ Cond.instanceMethod Lib.objectInit ∈ Ts ∧ Cond.code Lib.objectInit ⟨#[0xb1]⟩ 1 none ∈ Ts) (hframes : 1 ≤ R.frames) (hlocals : (rest.map fun v => v.category).sum + 12 ≤ R.locals) (hdg : decode cc pc = .ok (.invokespecial index, 3))
    (kk : W p l e R s m args below meth c H locs cells slots Q (F0 m (pc + 3) ls rest)) : W p l e R s m args below meth c H locs cells slots Q (F0 m pc ls (.ref a :: rest)) := by
  obtain ⟨⟨hx, hb, hml, hown, hts⟩, hK⟩ := C
  exact W.objInit hx hb hown (hts _ hk.1) (hts _ hk.2.1) (hts _ hk.2.2) (g := F0 m pc ls (.ref a :: rest)) rfl (by rw [hml]; exact hsz) rfl hdg hframes (by show 2 * 0 + _ + _ ≤ _; omega) kk
theorem mv_castE (C : vC p s m args c cc nL own Ts D cl tys) (X : vO S0 D cl h s H locs) {ci index : Nat} {fs : List Value} {r : vw_C} (ha : h a = some (.inr (ci, fs))) (hc : cl[ci]? = some r) {nm : String} (hr : r.1 = nm) (hlk : Cond.classLink own index nm ∈ Ts) (hdg : decode cc pc = .ok (.checkcast index, 3))
    (kk : W p l e R s m args below meth c H locs cells slots Q (F0 m (pc + 3) ls (.ref a :: rest))) : W p l e R s m args below meth c H locs cells slots Q (F0 m pc ls (.ref a :: rest)) := by
  have h1 := mv_recv C X ha hc
  rw [hr] at h1
  exact va_castE C.1.1 C.1.2.1 C.1.2.2.2.1 (C.1.2.2.2.2 _ hlk) h1 hdg kk
theorem mv_instE (C : vC p s m args c cc nL own Ts D cl tys) (X : vO S0 D cl h s H locs) {ci index : Nat} {fs : List Value} {r : vw_C} (ha : h a = some (.inr (ci, fs))) (hc : cl[ci]? = some r) {nm : String} (hr : r.1 = nm) (hlk : Cond.classLink own index nm ∈ Ts) (hdg : decode cc pc = .ok (.instanceof index, 3))
    (kk : W p l e R s m args below meth c H locs cells slots Q (F0 m (pc + 3) ls (.int 1 :: rest))) : W p l e R s m args below meth c H locs cells slots Q (F0 m pc ls (.ref a :: rest)) := by
  have h1 := mv_recv C X ha hc
  rw [hr] at h1
  exact va_instE C.1.1 C.1.2.1 C.1.2.2.2.1 (C.1.2.2.2.2 _ hlk) h1 hdg kk
theorem mv_castY (C : vC p s m args c cc nL own Ts D cl tys) (X : vO S0 D cl h s H locs) {ci index : Nat} {fs : List Value} {r : vw_C} (ha : h a = some (.inr (ci, fs))) (hc : cl[ci]? = some r) {nm : String} (hcs : va_Nw (.castable r.1 nm) S0) (hlk : Cond.classLink own index nm ∈ Ts) (hdg : decode cc pc = .ok (.checkcast index, 3))
    (kk : W p l e R s m args below meth c H locs cells slots Q (F0 m (pc + 3) ls (.ref a :: rest))) : W p l e R s m args below meth c H locs cells slots Q (F0 m pc ls (.ref a :: rest)) :=
  va_castY C.1.1 C.1.2.1 C.1.2.2.2.1 (C.1.2.2.2.2 _ hlk) (va_Nw.warmC X.1.1 hcs) (mv_recv C X ha hc) hdg kk
theorem mv_ldcS (C : vC p s m args c cc nL own Ts D cl tys) (X : vO S0 D cl h s H locs) {index : Nat} {tx : String} (hZ : vk_R own index tx a S0) (hdg : decode cc pc = .ok (.ldc index, 2))
    (kk : W p l e R s m args below meth c H locs cells slots Q (F0 m (pc + 2) ls (.ref a :: rest))) : W p l e R s m args below meth c H locs cells slots Q (F0 m pc ls rest) :=
  va_ldcS C.1.1 C.1.2.1 C.1.2.2.2.1 (hZ.warm X.1.1) hdg kk
theorem mv_ldcM (C : vC p s m args c cc nL own Ts D cl tys) (X : vO S0 D cl h s H locs) {index mi : Nat} {Cn : String} (hM : va_Mi Cn mi S0) (hlk : Cond.classLink own index Cn ∈ Ts) (hdg : decode cc pc = .ok (.ldc index, 2))
    (kk : W p l e R s m args below meth c H locs cells slots Q (F0 m (pc + 2) ls (.ref mi :: rest))) : W p l e R s m args below meth c H locs cells slots Q (F0 m pc ls rest) :=
  va_ldcM C.1.1 C.1.2.1 C.1.2.2.2.1 (C.1.2.2.2.2 _ hlk) (hM.moved X.1.1.alike) hdg kk
/-- the class of a pooled array -/
theorem vO.cls {s : State} {H : Heap} {locs : List Loc} (X : vO S0 D cl h s H locs) {cA : ClassId} {x : vp_A} (ha : h a = some (.inl (cA, x))) (hw : S0.heap.size ≤ a) : ∃ cell : Cell, H[a]? = some cell ∧ cell.vm.isStatics = false ∧ cell.cls = cA := by
  obtain ⟨ws, k, hP, -, he, -⟩ := X.set ha hw
  have h1 : H[a]? = some (vp_cell cA x) := hP k _ he
  refine ⟨_, h1, by rw [vp_cell_vm]; rfl, ?_⟩
  obtain ⟨n, f | f | f | f | f⟩ := x <;> rfl
def vKG (Ts : List Cond) (own : String) (index : Nat) : Prop := Cond.methodLink own index ⟨"java/lang/Object", "getClass", "()Ljava/lang/Class;"⟩ ∈ Ts ∧ Cond.instanceMethod ⟨"java/lang/Object", "getClass", "()Ljava/lang/Class;"⟩ ∈ Ts ∧ Cond.native ⟨"java/lang/Object", "getClass", "()Ljava/lang/Class;"⟩ ∈ Ts ∧ Cond.selects "[Ljava/lang/Object;" ⟨"java/lang/Object", "getClass", "()Ljava/lang/Class;"⟩ ⟨"java/lang/Object", "getClass", "()Ljava/lang/Class;"⟩ ∈ Ts
theorem mv_getC (C : vC p s m args c cc nL own Ts D cl tys) (X : vO S0 D cl h s H locs) (hsz : ls.size = nL) {index mi : Nat} (K : vKG Ts own index) (hdc : va_Dc S0) (hM : va_Mi "[Ljava/lang/Object;" mi S0) {cA : ClassId} {x : vp_A} (ha : h a = some (.inl (cA, x))) (hw : S0.heap.size ≤ a) (t0 : Nat) (ht : tys[t0]? = some (cA, .object "java/lang/Object")) (hframes : 1 ≤ R.frames) (hlocals : (rest.map fun v => v.category).sum + 14 ≤ R.locals) (hdg : decode cc pc = .ok (.invokevirtual index, 3))
    (kk : W p l e R s m args below meth c H locs cells slots Q (F0 m (pc + 3) ls (.ref mi :: rest))) : W p l e R s m args below meth c H locs cells slots Q (F0 m pc ls (.ref a :: rest)) := by
  obtain ⟨⟨hx, hb, hml, hown, hts⟩, hK⟩ := C
  obtain ⟨k1, k2, k3, k4⟩ := K
  obtain ⟨cell, c1, c2, c3⟩ := X.cls ha hw
  exact va_getC hx hb (by rw [hml]; exact hsz.symm) hown (hts _ k1) (hdc.moved X.1.1.alike).use (hts _ k4) (hts _ k2) (hts _ k3) (hM.moved X.1.1.alike) ⟨cell, c1, c2, by rw [c3]; exact va_nmO (hK.2 t0 _ ht).2 (by decide +kernel)⟩ hframes hlocals hdg kk
def vKL (Ts : List Cond) (own : String) (index : Nat) : Prop := Cond.methodLink own index ⟨"[B", "clone", "()Ljava/lang/Object;"⟩ ∈ Ts ∧ Cond.sameMethod "[B" "java/lang/Object" "clone" "()Ljava/lang/Object;" ∈ Ts ∧ Cond.native ⟨"java/lang/Object", "clone", "()Ljava/lang/Object;"⟩ ∈ Ts ∧ Cond.instanceMethod ⟨"java/lang/Object", "clone", "()Ljava/lang/Object;"⟩ ∈ Ts ∧ Cond.selects "[B" ⟨"[B", "clone", "()Ljava/lang/Object;"⟩ ⟨"java/lang/Object", "clone", "()Ljava/lang/Object;"⟩ ∈ Ts
theorem mv_cloneB (C : vC p s m args c cc nL own Ts D cl tys) (X : vO S0 D cl h s H locs) (hsz : ls.size = nL) {index : Nat} (K : vKL Ts own index) (hcl : va_Nw (.castable "[B" "java/lang/Cloneable") S0) {cA : ClassId} {n : Nat} {f : Nat → Int32} (ha : h a = some (.inl (cA, n, .inl f))) (hw : S0.heap.size ≤ a) (t0 : Nat) (ht : tys[t0]? = some (cA, .byte)) (hfit : ∀ i, i < n → fits .byte (.int (f i)) = true) (hframes : 1 ≤ R.frames) (hlocals : (rest.map fun v => v.category).sum + 14 ≤ R.locals) (hcells : cells + 1 ≤ R.cells) (hslots : slots + n ≤ R.slots) (hdg : decode cc pc = .ok (.invokevirtual index, 3))
    (kk : ∀ (q : Nat) (H1 : Heap), h q = none → S0.heap.size ≤ q → vO S0 D cl (vup h q (.inl (cA, n, .inl f))) s H1 locs → W p l e R s m args below meth c H1 locs (cells + 1) (slots + n) Q (F0 m (pc + 3) ls (.ref q :: rest))) : W p l e R s m args below meth c H locs cells slots Q (F0 m pc ls (.ref a :: rest)) := by
  obtain ⟨⟨hx, hb, hml, hown, hts⟩, hK⟩ := C
  obtain ⟨k1, k2, k3, k4, k5⟩ := K
  obtain ⟨L, f0, hP, hD, hh⟩ := X.2.2
  rcases hh a _ ha with ⟨g1, g2⟩ | ⟨g1, -⟩
  · obtain ⟨k0, hk0⟩ := va_pl_get (X := []) (f := f0) g1
    rw [List.nil_append] at hk0
    rw [g2] at hk0
    have hnm : s.vm.findClass "[B" = some cA := (hK.2 t0 _ ht).2
    refine va_clone hx hb (by rw [hml]; exact hsz.symm) hown (hts _ k1) (hts _ k2) (hts _ k3) (hts _ k4) (hts _ k5) (va_Nw.warmC X.1.1 hcl) hK hP hD X.2.1 (fun q hq => Nat.le_trans X.1.2.1 hq) k0 t0 hk0 ht hnm (fun i v hv => ?_) hframes hlocals hcells hslots hdg (fun q H1 hK1 a1 a2 a3 => ?_)
    · by_cases hi : i < n
      · have : (vp_cell cA (n, .inl f)).slots[i]? = some (.int (f i)) := by show (arrV _ _ _).slots[_]? = _; rw [arrV_read _ _ hi]
        rw [this] at hv; cases hv; exact hfit i hi
      · rw [Array.getElem?_eq_none (by rw [vp_cell_size]; exact Nat.le_of_not_lt hi)] at hv; cases hv
    · have hlen : (va_pl L f0 ++ [(q, (.inl (cA, n, .inl f) : va_E))])[(va_pl L f0).length]? = some (q, .inl (cA, n, .inl f)) := by
        rw [List.getElem?_append_right (Nat.le_refl _), Nat.sub_self]; rfl
      have hq : S0.heap.size ≤ q := a2.2 _ _ hlen
      have hn : q ∉ L := by
        intro hm
        obtain ⟨k, hk⟩ := va_pl_get (X := []) (f := f0) hm
        rw [List.nil_append] at hk
        have hk1 := (List.getElem?_eq_some_iff.mp hk).1
        have := a2.1 k (va_pl L f0).length (q, f0 q) (q, .inl (cA, n, .inl f)) (by rw [List.getElem?_append_left hk1]; exact hk) hlen rfl
        omega
      refine kk q H1 ?_ hq ⟨X.1, a3, L ++ [q], va_up f0 q (.inl (cA, n, .inl f)), by rw [← va_pl_push hn]; exact a1, by rw [← va_pl_push hn]; exact a2, fun b y hb => ?_⟩
      · cases hy : h q with
        | none => rfl
        | some y =>
          rcases hh q y hy with ⟨g1, -⟩ | ⟨g1, -⟩
          · exact absurd g1 hn
          · exact absurd hq (Nat.not_le.mpr g1)
      · by_cases hba : b = q
        · subst hba
          rw [vup_s] at hb
          exact Or.inl ⟨List.mem_append_right _ List.mem_cons_self, by rw [va_up_self]; exact Option.some.inj hb⟩
        · rw [vup_n h _ hba] at hb
          rcases hh b y hb with ⟨g1, g2⟩ | g
          · exact Or.inl ⟨List.mem_append_left _ g1, by rw [va_up_ne _ _ hba]; exact g2⟩
          · exact Or.inr g
  · exact absurd hw (Nat.not_le.mpr g1)
theorem mv_castB (C : vC p s m args c cc nL own Ts D cl tys) (X : vO S0 D cl h s H locs) {cA : ClassId} {x : vp_A} {index : Nat} (ha : h a = some (.inl (cA, x))) (hw : S0.heap.size ≤ a) (t0 : Nat) (ht : tys[t0]? = some (cA, .byte)) (hlk : Cond.classLink own index "[B" ∈ Ts) (hdg : decode cc pc = .ok (.checkcast index, 3))
    (kk : W p l e R s m args below meth c H locs cells slots Q (F0 m (pc + 3) ls (.ref a :: rest))) : W p l e R s m args below meth c H locs cells slots Q (F0 m pc ls (.ref a :: rest)) := by
  obtain ⟨ws, k0, hP, hD, he, -⟩ := X.set ha hw
  exact va_castA C.1.1 C.1.2.1 C.1.2.2.2.1 (C.1.2.2.2.2 _ hlk) hP k0 he (C.2.2 t0 _ ht).2 hdg kk
variable {mc ms index n maxL F N b ci : Nat} {y x w z : MethodName} {bytes : ByteArray} {ret : Option FieldType} {As : List Value} {fs : List Value} {r : vw_C} {Qc : Array Value → State → Outcome → State → Prop}
theorem mv_rP (hG : ∀ w ∈ Ts, goodWord w = true) (C : vC p s m args c cc nL own Ts D cl tys) (X : vO S0 D cl h s H locs) (K : vKP S0 Ts own index r.1 w z y bytes maxL ret n) (hM : Met l y (vW y bytes maxL ret Ts) (vRm F N mc ms) (va_Pc (.ref b :: As) (vI S0 D cl h)) Qc mc ms (vB S0)) (hb9 : h b = some (.inr (ci, fs))) (hci : cl[ci]? = some r) (hR : F + 1 ≤ R.frames ∧ 8 + (maxL + 11) + N ≤ R.locals) (hn : As.length = n) (hsz : ls.size = nL) (hst : st0 = As.reverse ++ .ref b :: rest) (hW : (rest.map fun v => v.category).sum ≤ 8) (hdg : decode cc pc = .ok (.invokevirtual index, 3)) (hf : cells + mc ≤ R.cells ∧ slots + ms ≤ R.slots) :
    va_Run p l e R s m args below meth c H locs cells slots mc ms (F0 m pc ls st0) rest (Qc (Value.ref b :: As).toArray) (vB S0) := by
  obtain ⟨k1, k2, k3, k4, k5, k6, k7, k8, k9⟩ := K
  have hT : GoodIn Ts ([] ++ vW y bytes maxL ret Ts) := vGood hG k8 (fun w hw => by cases hw)
  have hts := C.1.2.2.2.2
  have cw : va_CU R s args own r.1 y.cls index y y bytes maxL ret (vW y bytes maxL ret Ts) (vRm F N mc ms) mc ms n :=
    ⟨⟨rfl, rfl, hR.1, hR.2, pay_in hts hT, List.mem_cons_self⟩, hts _ k8, hts _ k7, ⟨k9.1, k9.2.1⟩, fun sig h9 => by
      have h2 := k9.2.2
      rw [h9] at h2
      exact (Option.some.inj h2).symm, hts _ k1, hts _ k2, va_Decl.of (hts _ k6) (hts _ k8), sel_priv ⟨k9.1, k9.2.1⟩ k4 (hts _ k3) (va_Nw.use rfl (va_Nw.warmPr X.1.1 k5)) (hts _ k6), hts _ k6⟩
  exact va_runU C.1 hM cw ⟨vBlind, mv_recv C X hb9 hci, fun U hU hWm => ⟨rfl, X.call hU hWm⟩⟩ rfl hn hsz hst (lv_room hW) hdg hf
theorem mv_rSU (hG : ∀ w ∈ Ts, goodWord w = true) (C : vC p s m args c cc nL own Ts D cl tys) (X : vO S0 D cl h s H locs) (K : vKU2 Ts own index y bytes maxL ret n) (hM : Met l y (vW y bytes maxL ret Ts) (vRm F N mc ms) (va_Pc (.ref b :: As) (vI S0 D cl h)) Qc mc ms (vB S0)) (hb9 : h b = some (.inr (ci, fs))) (hci : cl[ci]? = some r) (hR : F + 1 ≤ R.frames ∧ 8 + (maxL + 11) + N ≤ R.locals) (hn : As.length = n) (hsz : ls.size = nL) (hst : st0 = As.reverse ++ .ref b :: rest) (hW : (rest.map fun v => v.category).sum ≤ 8) (hdg : decode cc pc = .ok (.invokespecial index, 3)) (hf : cells + mc ≤ R.cells ∧ slots + ms ≤ R.slots) :
    va_Run p l e R s m args below meth c H locs cells slots mc ms (F0 m pc ls st0) rest (Qc (Value.ref b :: As).toArray) (vB S0) := by
  obtain ⟨k1, k2, k3, k4, k5, k6, k7⟩ := K
  have hT : GoodIn Ts (va_wsSU own index y (vW y bytes maxL ret Ts)) := vGood (ws := [.methodLink own index y, .sameMethod y.cls y.cls y.name y.desc, .superclass own y.cls, .instanceMethod y, .initialized y.cls]) hG k6 (fun w hw => by
    simp only [List.mem_cons, List.not_mem_nil, or_false] at hw
    rcases hw with rfl | rfl | rfl | rfl | rfl <;> assumption)
  obtain ⟨hS, hfc, kC, hkC, hkind⟩ := C.2.1 ci _ hci
  exact va_runSU (C := r.1) (cC := D.1 ci) ⟨hfc, kC, hkC, hkind⟩ C.1 hM (va_cwSU n C.1.2.2.2.2 hT rfl rfl rfl k7 hR) ⟨vBlind, mv_recv C X hb9 hci, fun U hU hWm => ⟨rfl, X.call hU hWm⟩⟩ rfl hn hsz hst (lv_room hW) hdg hf
end JROWS
