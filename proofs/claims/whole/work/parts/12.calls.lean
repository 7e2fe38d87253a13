/-! METHODS AND CALLS OVER THE VIEW -/
abbrev vW (y : MethodName) (bytes : ByteArray) (maxL : Nat) (ret : Option FieldType) (Ts : List Cond) : List Cond := Cond.code y bytes maxL ret :: Ts
abbrev vRm (F N mc ms : Nat) : Room := { frames := F, cells := mc, slots := ms, locals := N }
/-- a method's contract, from the view h on; by its answer: int, long, none, a reference -/
def vMi (l : Launch) (S0 : State) (D : va_G) (cl : List vw_C) (Ts : List Cond) (y : MethodName) (bytes : ByteArray) (maxL : Nat) (ret : Option FieldType) (F N mc ms : Nat) (av : List Value) (h : vH) (post : Int32 → vH → Prop) : Prop := Met l y (vW y bytes maxL ret Ts) (vRm F N mc ms) (va_Pc av (vI S0 D cl h)) (va_Qi post (vI S0 D cl) (vB S0)) mc ms (vB S0)
def vMl (l : Launch) (S0 : State) (D : va_G) (cl : List vw_C) (Ts : List Cond) (y : MethodName) (bytes : ByteArray) (maxL : Nat) (ret : Option FieldType) (F N mc ms : Nat) (av : List Value) (h : vH) (post : Int64 → vH → Prop) : Prop := Met l y (vW y bytes maxL ret Ts) (vRm F N mc ms) (va_Pc av (vI S0 D cl h)) (va_Ql post (vI S0 D cl) (vB S0)) mc ms (vB S0)
def vMv (l : Launch) (S0 : State) (D : va_G) (cl : List vw_C) (Ts : List Cond) (y : MethodName) (bytes : ByteArray) (maxL : Nat) (ret : Option FieldType) (F N mc ms : Nat) (av : List Value) (h : vH) (post : vH → Prop) : Prop := Met l y (vW y bytes maxL ret Ts) (vRm F N mc ms) (va_Pc av (vI S0 D cl h)) (va_Qv post (vI S0 D cl) (vB S0)) mc ms (vB S0)
def vMq (l : Launch) (S0 : State) (D : va_G) (cl : List vw_C) (Ts : List Cond) (y : MethodName) (bytes : ByteArray) (maxL : Nat) (ret : Option FieldType) (F N mc ms : Nat) (av : List Value) (h : vH) (post : Option Nat → vH → Prop) : Prop := Met l y (vW y bytes maxL ret Ts) (vRm F N mc ms) (va_Pc av (vI S0 D cl h)) (va_Qq post (vI S0 D cl) (vB S0)) mc ms (vB S0)
/-- a method's beginning -/
theorem vM_of {l : Launch} {S0 : State} {D : va_G} {cl : List vw_C} {tys : List (ClassId × FieldType)} (hK0 : va_K D cl tys S0) {Ts : List Cond} {y : MethodName} {bytes : ByteArray} {maxL : Nat} {ret : Option FieldType} {F N mc ms : Nat} {av : List Value} {h : vH} {Qc : Array Value → State → Outcome → State → Prop} (hy : plainName y.cls = true) (hlen : (lg_sl av).length ≤ maxL)
    (body : ∀ (p : Program) (e : Env) (s : State) (m : MethodId) (below : List Frame) (meth : Method) (c : Code) (ls : Array Slot), vC p s m av.toArray c bytes maxL y.cls Ts D cl tys → meth.sig.returnType = ret → meth.locks = false → meth.name = y.name → vO S0 D cl h s s.heap [] → lv_has ls maxL (lv_args 0 av) →
      W p l e (vRm F N mc ms) s m av.toArray below meth c s.heap [] 0 0 (MQ below Qc av.toArray s mc ms (vB S0)) (F0 m 0 ls [])) :
    Met l y (vW y bytes maxL ret Ts) (vRm F N mc ms) (va_Pc av (vI S0 D cl h)) Qc mc ms (vB S0) := by
  refine Met.ofW (cc := bytes) (maxL := maxL) (ret := ret) hy rfl ?_
  intro p e s m args below meth c s₁ B hml hv
  obtain ⟨rfl, hI⟩ := hv
  have hts : ∀ w ∈ vW y bytes maxL ret Ts, w.before av.toArray s = true := atoms_spec (ws := vW y bytes maxL ret Ts) B.pre
  have hown : s.vm.findClass y.cls = some m.cls := findClass_of_methodNamed B.named
  have hl := lv_entry av (n := maxL) hlen
  rw [lg_entry_eq]
  exact body p e s m below meth c _ ⟨⟨B.exec, B.bytes, hml, hown, fun w hw => hts w (List.mem_cons_of_mem _ hw)⟩, va_K.moved hI.1.1.alike hK0⟩ B.returns B.notSynchronized (name_of_methodNamed B.named B.method).1 (vO.start hI) hl
section VCALLS
variable {p : Program} {l : Launch} {e : Env} {R : Room} {s : State} {m : MethodId} {args : Array Value} {below : List Frame} {meth : Method} {c : Code} {H : Heap} {locs : List Loc} {cells slots : Nat} {Q : State → Prop}
variable {cc : ByteArray} {pc nL : Nat} {ls : Array Slot} {rest st0 : List Value} {D : va_G} {cl : List vw_C} {tys : List (ClassId × FieldType)} {own : String} {Ts : List Cond} {S0 : State} {h : vH} {a : Nat}
variable {mc ms : Nat}
/-- ends -/
theorem mv_iret (C : vC p s m args c cc nL own Ts D cl tys) (X : vO S0 D cl h s H locs) {post : Int32 → vH → Prop} {v : Int32} {ty : FieldType} (hr : meth.sig.returnType = some ty) (hn : narrow ty (.int v) = .int v) (hlk : meth.locks = false) (hp : post v h) (hc : cells ≤ mc) (hs : slots ≤ ms) (hdg : decode cc pc = .ok (.ireturn, 1)) :
    W p l e R s m args below meth c H locs cells slots (MQ below (va_Qi post (vI S0 D cl) (vB S0)) args s mc ms (vB S0)) (F0 m pc ls [.int v]) := by
  refine W.widen hc hs ?_
  exact W.zret (ty := ty) C.1.1 C.1.2.1 hr hn (fun t ht hW => ⟨⟨v, h, rfl, hp, X.fin ht hW⟩, X.2.1.F ht⟩) X.2.1.2.2 hdg hlk
theorem mv_lret (C : vC p s m args c cc nL own Ts D cl tys) (X : vO S0 D cl h s H locs) {post : Int64 → vH → Prop} {v : Int64} (hr : meth.sig.returnType = some .long) (hlk : meth.locks = false) (hp : post v h) (hc : cells ≤ mc) (hs : slots ≤ ms) (hdg : decode cc pc = .ok (.lreturn, 1)) :
    W p l e R s m args below meth c H locs cells slots (MQ below (va_Ql post (vI S0 D cl) (vB S0)) args s mc ms (vB S0)) (F0 m pc ls [.long v]) := by
  refine W.widen hc hs ?_
  exact W.lret C.1.1 C.1.2.1 hr (fun t ht hW => ⟨⟨v, h, rfl, hp, X.fin ht hW⟩, X.2.1.F ht⟩) X.2.1.2.2 hdg hlk
theorem mv_vret (C : vC p s m args c cc nL own Ts D cl tys) (X : vO S0 D cl h s H locs) {post : vH → Prop} (hr : meth.sig.returnType = none) (hlk : meth.locks = false) (hp : post h) (hc : cells ≤ mc) (hs : slots ≤ ms) (hdg : decode cc pc = .ok (.return_, 1)) :
    W p l e R s m args below meth c H locs cells slots (MQ below (va_Qv post (vI S0 D cl) (vB S0)) args s mc ms (vB S0)) (F0 m pc ls []) := by
  refine W.widen hc hs ?_
  exact W.vret C.1.1 C.1.2.1 hr (fun t ht hW => ⟨⟨h, rfl, hp, X.fin ht hW⟩, X.2.1.F ht⟩) X.2.1.2.2 hdg hlk
theorem mv_aret (C : vC p s m args c cc nL own Ts D cl tys) (X : vO S0 D cl h s H locs) {post : Option Nat → vH → Prop} {r : Option Nat} {rt : FieldType} (hr : meth.sig.returnType = some rt) (hrt : (∃ n, rt = .object n) ∨ ∃ t, rt = .array t) (hlk : meth.locks = false) (hp : post r h) (hc : cells ≤ mc) (hs : slots ≤ ms) (hdg : decode cc pc = .ok (.areturn, 1)) :
    W p l e R s m args below meth c H locs cells slots (MQ below (va_Qq post (vI S0 D cl) (vB S0)) args s mc ms (vB S0)) (F0 m pc ls [va_rf r]) := by
  refine W.widen hc hs ?_
  exact W.aret (v := va_rf r) C.1.1 C.1.2.1 hr hrt (va_rf_or r) (fun t ht hW => ⟨⟨r, h, rfl, hp, X.fin ht hW⟩, X.2.1.F ht⟩) X.2.1.2.2 hdg hlk
/-- the word list of a callee is good -/
theorem vGood {y : MethodName} {bytes : ByteArray} {maxL : Nat} {ret : Option FieldType} (hG : ∀ w ∈ Ts, goodWord w = true) (hc : Cond.code y bytes maxL ret ∈ Ts) {ws : List Cond} (hw : ∀ w ∈ ws, w ∈ Ts) : GoodIn Ts (ws ++ vW y bytes maxL ret Ts) := by
  intro w h9
  have h1 : w ∈ Ts := by
    rcases List.mem_append.mp h9 with h | h
    · exact hw w h
    · rcases List.mem_cons.mp h with h | h
      · rw [h]; exact hc
      · exact h
  exact ⟨h1, good_of_word (hG w h1)⟩
theorem vBlind {av : List Value} : FrameBlind (va_Pc av (vI S0 D cl h)) := fun _ _ _ _ q => ⟨q.1, ⟨q.2.1.1, q.2.1.2.1, q.2.1.2.2⟩, q.2.2⟩
/-- what a call of a method asks of the tables: an object's own method, an inherited or overriding one, a static one, a constructor -/
def vKV (Ts : List Cond) (own : String) (index : Nat) (y : MethodName) (bytes : ByteArray) (maxL : Nat) (ret : Option FieldType) (n : Nat) : Prop := Cond.methodLink own index y ∈ Ts ∧ Cond.instanceMethod y ∈ Ts ∧ Cond.selects y.cls y y ∈ Ts ∧ Cond.initialized y.cls ∈ Ts ∧ Cond.code y bytes maxL ret ∈ Ts ∧ (y.cls ≠ "java/lang/invoke/MethodHandle" ∧ y.cls ≠ "java/lang/invoke/VarHandle" ∧ (parseMethodDescriptor y.desc).map (fun d => d.parameters.length) = some n)
def vKU (Ts : List Cond) (own : String) (index : Nat) (C owner : String) (x y : MethodName) (bytes : ByteArray) (maxL : Nat) (ret : Option FieldType) (n : Nat) : Prop := Cond.methodLink own index x ∈ Ts ∧ Cond.sameMethod x.cls owner x.name x.desc ∈ Ts ∧ Cond.selects C x y ∈ Ts ∧ Cond.instanceMethod y ∈ Ts ∧ Cond.initialized y.cls ∈ Ts ∧ Cond.code y bytes maxL ret ∈ Ts ∧ (owner ≠ "java/lang/invoke/MethodHandle" ∧ owner ≠ "java/lang/invoke/VarHandle" ∧ (parseMethodDescriptor x.desc).map (fun d => d.parameters.length) = some n)
def vKS (Ts : List Cond) (own : String) (index : Nat) (y : MethodName) (bytes : ByteArray) (maxL : Nat) (ret : Option FieldType) (n : Nat) : Prop := Cond.methodLink own index y ∈ Ts ∧ Cond.static y ∈ Ts ∧ Cond.initialized y.cls ∈ Ts ∧ Cond.code y bytes maxL ret ∈ Ts ∧ (y.cls ≠ "java/lang/invoke/MethodHandle" ∧ y.cls ≠ "java/lang/invoke/VarHandle" ∧ (parseMethodDescriptor y.desc).map (fun d => d.parameters.length) = some n)
def vKI (Ts : List Cond) (own : String) (index : Nat) (y : MethodName) (bytes : ByteArray) (maxL : Nat) (n : Nat) : Prop := Cond.methodLink own index y ∈ Ts ∧ Cond.instanceMethod y ∈ Ts ∧ Cond.initialized y.cls ∈ Ts ∧ Cond.code y bytes maxL none ∈ Ts ∧ y.name = "<init>" ∧ (y.cls ≠ "java/lang/invoke/MethodHandle" ∧ y.cls ≠ "java/lang/invoke/VarHandle" ∧ (parseMethodDescriptor y.desc).map (fun d => d.parameters.length) = some n)
variable {index n maxL F N b ci : Nat} {y x : MethodName} {bytes : ByteArray} {ret : Option FieldType} {As : List Value} {fs : List Value} {r : vw_C} {Qc : Array Value → State → Outcome → State → Prop}
theorem mv_rV (hG : ∀ w ∈ Ts, goodWord w = true) (C : vC p s m args c cc nL own Ts D cl tys) (X : vO S0 D cl h s H locs) (K : vKV Ts own index y bytes maxL ret n) (hM : Met l y (vW y bytes maxL ret Ts) (vRm F N mc ms) (va_Pc (.ref b :: As) (vI S0 D cl h)) Qc mc ms (vB S0)) (hb9 : h b = some (.inr (ci, fs))) (hci : cl[ci]? = some r) (hrC : r.1 = y.cls) (hR : F + 1 ≤ R.frames ∧ 8 + (maxL + 11) + N ≤ R.locals) (hn : As.length = n) (hsz : ls.size = nL) (hst : st0 = As.reverse ++ .ref b :: rest) (hW : (rest.map fun v => v.category).sum ≤ 8) (hdg : decode cc pc = .ok (.invokevirtual index, 3)) (hf : cells + mc ≤ R.cells ∧ slots + ms ≤ R.slots) :
    va_Run p l e R s m args below meth c H locs cells slots mc ms (F0 m pc ls st0) rest (Qc (Value.ref b :: As).toArray) (vB S0) := by
  obtain ⟨k1, k2, k3, k4, k5, k6⟩ := K
  have hT : GoodIn Ts (wsV own index y.cls y (vW y bytes maxL ret Ts)) := vGood (ws := [.methodLink own index y, .instanceMethod y, .selects y.cls y y, .initialized y.cls]) hG k5 (fun w hw => by
    simp only [List.mem_cons, List.not_mem_nil, or_false] at hw
    rcases hw with rfl | rfl | rfl | rfl <;> assumption)
  have hrecv := mv_recv C X hb9 hci
  rw [hrC] at hrecv
  exact va_runV C.1 hM (cwV (C := y.cls) n C.1.2.2.2.2 hT rfl rfl rfl ⟨rfl, k6⟩ hR) ⟨vBlind, hrecv, fun U hU hWm => ⟨rfl, X.call hU hWm⟩⟩ rfl hn hsz hst (lv_room hW) hdg hf
theorem mv_rU (hG : ∀ w ∈ Ts, goodWord w = true) (C : vC p s m args c cc nL own Ts D cl tys) (X : vO S0 D cl h s H locs) {owner : String} (K : vKU Ts own index r.1 owner x y bytes maxL ret n) (hdecl : va_Decl s ⟨owner, x.name, x.desc⟩) (hM : Met l y (vW y bytes maxL ret Ts) (vRm F N mc ms) (va_Pc (.ref b :: As) (vI S0 D cl h)) Qc mc ms (vB S0)) (hb9 : h b = some (.inr (ci, fs))) (hci : cl[ci]? = some r) (hR : F + 1 ≤ R.frames ∧ 8 + (maxL + 11) + N ≤ R.locals) (hn : As.length = n) (hsz : ls.size = nL) (hst : st0 = As.reverse ++ .ref b :: rest) (hW : (rest.map fun v => v.category).sum ≤ 8) (hdg : decode cc pc = .ok (.invokevirtual index, 3)) (hf : cells + mc ≤ R.cells ∧ slots + ms ≤ R.slots) :
    va_Run p l e R s m args below meth c H locs cells slots mc ms (F0 m pc ls st0) rest (Qc (Value.ref b :: As).toArray) (vB S0) := by
  obtain ⟨k1, k2, k3, k4, k5, k6, k7⟩ := K
  have hT : GoodIn Ts ([] ++ vW y bytes maxL ret Ts) := vGood hG k6 (fun w hw => by cases hw)
  have hts := C.1.2.2.2.2
  have cw : va_CU R s args own r.1 owner index x y bytes maxL ret (vW y bytes maxL ret Ts) (vRm F N mc ms) mc ms n :=
    ⟨⟨rfl, rfl, hR.1, hR.2, pay_in hts hT, List.mem_cons_self⟩, hts _ k6, hts _ k5, ⟨k7.1, k7.2.1⟩, fun sig h9 => by
      have h2 := k7.2.2
      rw [h9] at h2
      exact (Option.some.inj h2).symm, hts _ k1, hts _ k2, hdecl, hts _ k3, hts _ k4⟩
  exact va_runU C.1 hM cw ⟨vBlind, mv_recv C X hb9 hci, fun U hU hWm => ⟨rfl, X.call hU hWm⟩⟩ rfl hn hsz hst (lv_room hW) hdg hf
theorem mv_rS (hG : ∀ w ∈ Ts, goodWord w = true) (C : vC p s m args c cc nL own Ts D cl tys) (X : vO S0 D cl h s H locs) (K : vKS Ts own index y bytes maxL ret n) (hM : Met l y (vW y bytes maxL ret Ts) (vRm F N mc ms) (va_Pc As (vI S0 D cl h)) Qc mc ms (vB S0)) (hR : F + 1 ≤ R.frames ∧ 8 + (maxL + 11) + N ≤ R.locals) (hn : As.length = n) (hsz : ls.size = nL) (hst : st0 = As.reverse ++ rest) (hW : (rest.map fun v => v.category).sum ≤ 8) (hdg : decode cc pc = .ok (.invokestatic index, 3)) (hf : cells + mc ≤ R.cells ∧ slots + ms ≤ R.slots) :
    va_Run p l e R s m args below meth c H locs cells slots mc ms (F0 m pc ls st0) rest (Qc As.toArray) (vB S0) := by
  obtain ⟨k1, k2, k3, k4, k5⟩ := K
  have hT : GoodIn Ts (va_wsS own index y (vW y bytes maxL ret Ts)) := vGood (ws := [.methodLink own index y, .static y, .initialized y.cls]) hG k4 (fun w hw => by
    simp only [List.mem_cons, List.not_mem_nil, or_false] at hw
    rcases hw with rfl | rfl | rfl <;> assumption)
  exact va_runS C.1 hM (va_cwS n C.1.2.2.2.2 hT rfl rfl rfl k5 hR) ⟨vBlind, fun U hU hWm => ⟨rfl, X.call hU hWm⟩⟩ rfl hn hsz hst (lv_room hW) hdg hf
theorem mv_rI (hG : ∀ w ∈ Ts, goodWord w = true) (C : vC p s m args c cc nL own Ts D cl tys) (X : vO S0 D cl h s H locs) (K : vKI Ts own index y bytes maxL n) (hM : Met l y (vW y bytes maxL none Ts) (vRm F N mc ms) (va_Pc (.ref b :: As) (vI S0 D cl h)) Qc mc ms (vB S0)) (hR : F + 1 ≤ R.frames ∧ 8 + (maxL + 11) + N ≤ R.locals) (hn : As.length = n) (hsz : ls.size = nL) (hst : st0 = As.reverse ++ .ref b :: rest) (hW : (rest.map fun v => v.category).sum ≤ 8) (hdg : decode cc pc = .ok (.invokespecial index, 3)) (hf : cells + mc ≤ R.cells ∧ slots + ms ≤ R.slots) :
    va_Run p l e R s m args below meth c H locs cells slots mc ms (F0 m pc ls st0) rest (Qc (Value.ref b :: As).toArray) (vB S0) := by
  obtain ⟨k1, k2, k3, k4, k5, k6⟩ := K
  have hT : GoodIn Ts ([] ++ vW y bytes maxL none Ts) := vGood hG k4 (fun w hw => by cases hw)
  have hts := C.1.2.2.2.2
  exact va_runI C.1 hM (cwI n hts hT rfl rfl rfl (hts _ k3) (hts _ k1) (hts _ k2) k5 k6 hR) ⟨vBlind, fun U hU hWm => ⟨rfl, X.call hU hWm⟩⟩ rfl hn hsz hst (lv_room hW) hdg hf
/-- a private constructor of a nest mate -/
def vKIN (S0 : State) (Ts : List Cond) (own : String) (index : Nat) (y : MethodName) (host : String) (bytes : ByteArray) (maxL : Nat) (n : Nat) : Prop := va_Nw (.methodLinkNest own index y host) S0 ∧ Cond.instanceMethod y ∈ Ts ∧ Cond.initialized y.cls ∈ Ts ∧ Cond.code y bytes maxL none ∈ Ts ∧ y.name = "<init>" ∧ (y.cls ≠ "java/lang/invoke/MethodHandle" ∧ y.cls ≠ "java/lang/invoke/VarHandle" ∧ (parseMethodDescriptor y.desc).map (fun d => d.parameters.length) = some n)
theorem mv_rIN (hG : ∀ w ∈ Ts, goodWord w = true) (C : vC p s m args c cc nL own Ts D cl tys) (X : vO S0 D cl h s H locs) {host : String} (K : vKIN S0 Ts own index y host bytes maxL n) (hM : Met l y (vW y bytes maxL none Ts) (vRm F N mc ms) (va_Pc (.ref b :: As) (vI S0 D cl h)) Qc mc ms (vB S0)) (hR : F + 1 ≤ R.frames ∧ 8 + (maxL + 11) + N ≤ R.locals) (hn : As.length = n) (hsz : ls.size = nL) (hst : st0 = As.reverse ++ .ref b :: rest) (hW : (rest.map fun v => v.category).sum ≤ 8) (hdg : decode cc pc = .ok (.invokespecial index, 3)) (hf : cells + mc ≤ R.cells ∧ slots + ms ≤ R.slots) :
    va_Run p l e R s m args below meth c H locs cells slots mc ms (F0 m pc ls st0) rest (Qc (Value.ref b :: As).toArray) (vB S0) := by
  obtain ⟨k1, k2, k3, k4, k5, k6⟩ := K
  have hT : GoodIn Ts ([] ++ vW y bytes maxL none Ts) := vGood hG k4 (fun w hw => by cases hw)
  have hts := C.1.2.2.2.2
  exact va_runIN C.1 hM ⟨va_cnB n hts hT rfl rfl rfl (va_Nw.warmM X.1.1 k1) (hts _ k3) k6 hR, k5, hts _ k2⟩ ⟨vBlind, fun U hU hWm => ⟨rfl, X.call hU hWm⟩⟩ rfl hn hsz hst (lv_room hW) hdg hf
variable {aa : Array Value}
/-- behind a call -/
theorem mv_bi (X : vO S0 D cl h s H locs) {post : Int32 → vH → Prop} (hr : va_Run p l e R s m args below meth c H locs cells slots mc ms (F0 m pc ls st0) rest (va_Qi post (vI S0 D cl) (vB S0) aa) (vB S0)) (kk : ∀ (r : Int32) (h' : vH) (H1 : Heap) (locs1 : List Loc), post r h' → vO S0 D cl h' s H1 locs1 → W p l e R s m args below meth c H1 locs1 (cells + mc) (slots + ms) Q (F0 m (pc + 3) ls (.int r :: rest))) : W p l e R s m args below meth c H locs cells slots Q (F0 m pc ls st0) :=
  va_calli hr X.2.1 (fun _ _ q => q) (fun _ q => q) (fun r u _ H1 locs1 ht _ hw hB _ _ hS => kk r u H1 locs1 hw (X.back ht hB hS))
theorem mv_bl (X : vO S0 D cl h s H locs) {post : Int64 → vH → Prop} (hr : va_Run p l e R s m args below meth c H locs cells slots mc ms (F0 m pc ls st0) rest (va_Ql post (vI S0 D cl) (vB S0) aa) (vB S0)) (kk : ∀ (r : Int64) (h' : vH) (H1 : Heap) (locs1 : List Loc), post r h' → vO S0 D cl h' s H1 locs1 → W p l e R s m args below meth c H1 locs1 (cells + mc) (slots + ms) Q (F0 m (pc + 3) ls (.long r :: rest))) : W p l e R s m args below meth c H locs cells slots Q (F0 m pc ls st0) :=
  va_calll hr X.2.1 (fun _ _ q => q) (fun _ q => q) (fun r u _ H1 locs1 ht _ hw hB _ _ hS => kk r u H1 locs1 hw (X.back ht hB hS))
theorem mv_bv (X : vO S0 D cl h s H locs) {post : vH → Prop} (hr : va_Run p l e R s m args below meth c H locs cells slots mc ms (F0 m pc ls st0) rest (va_Qv post (vI S0 D cl) (vB S0) aa) (vB S0)) (kk : ∀ (h' : vH) (H1 : Heap) (locs1 : List Loc), post h' → vO S0 D cl h' s H1 locs1 → W p l e R s m args below meth c H1 locs1 (cells + mc) (slots + ms) Q (F0 m (pc + 3) ls rest)) : W p l e R s m args below meth c H locs cells slots Q (F0 m pc ls st0) :=
  va_callv hr X.2.1 (fun _ _ q => q) (fun _ q => q) (fun u _ H1 locs1 ht _ hw hB _ _ hS => kk u H1 locs1 hw (X.back ht hB hS))
theorem mv_bq (X : vO S0 D cl h s H locs) {post : Option Nat → vH → Prop} (hr : va_Run p l e R s m args below meth c H locs cells slots mc ms (F0 m pc ls st0) rest (va_Qq post (vI S0 D cl) (vB S0) aa) (vB S0)) (kk : ∀ (r : Option Nat) (h' : vH) (H1 : Heap) (locs1 : List Loc), post r h' → vO S0 D cl h' s H1 locs1 → W p l e R s m args below meth c H1 locs1 (cells + mc) (slots + ms) Q (F0 m (pc + 3) ls (va_rf r :: rest))) : W p l e R s m args below meth c H locs cells slots Q (F0 m pc ls st0) :=
  va_callq hr X.2.1 (fun _ _ q => q) (fun _ q => q) (fun r u _ H1 locs1 ht _ hw hB _ _ hS => kk r u H1 locs1 hw (X.back ht hB hS))
end VCALLS
