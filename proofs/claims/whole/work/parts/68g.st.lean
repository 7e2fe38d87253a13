/-! THE START: what the law's first state gives -/
theorem st_kind {U : State} {cell : Cell} {t1 t2 : FieldType} (h1 : U.isArrayOf cell t1) (h2 : U.isArrayOf cell t2) : t1 = t2 := by
  obtain ⟨-, k1, a1, c1, b1⟩ := h1
  obtain ⟨-, k2, a2, c2, b2⟩ := h2
  cases Option.some.inj (a1.symm.trans a2)
  rw [b1] at b2
  injection b2
theorem st_ty {U : State} {c : ClassId} {t1 t2 : FieldType} (h1 : ArrOfT U c t1) (h2 : ArrOfT U c t2) : t1 = t2 := st_kind (h1 0 (fun _ => .null)) (h2 0 (fun _ => .null))
theorem st_ns {U : State} {cell : Cell} {t : FieldType} (h : U.isArrayOf cell t) : cell.vm.isStatics = false := by
  cases hv : cell.vm with
  | statics k => exact absurd hv (h.1 k)
  | _ => rfl
theorem st_arr {D : va_G} {U : State} {H : Heap} {A : Nat → Prop} {ty : FieldType} {t N : Nat} {f : Nat → Value} {cA : ClassId} {x : vp_A} (hT : va_T ty t N f A U H) (hA : ArrOfT U cA ty) (h1 : x.1 = N) (h2 : ∀ j, j < N → (vp_cell cA x).slots[j]? = some (f j)) : t < H.size ∧ vrd D vcl U (t, .inl (cA, x)) H := by
  obtain ⟨cell, q1, q2, q3, q4, q5, q6, -⟩ := hT
  refine ⟨(Array.getElem?_eq_some_iff.mp q1).1, ?_⟩
  refine ⟨cell, q1, st_ns q2, q3, fun ty' h' => ?_, ?_, ?_, fun j hj => ?_⟩
  · rw [st_ty h' hA]; exact q2
  · show x.1 ≤ _; rw [h1]; exact q4
  · show _ = Int32.ofNat x.1; rw [h1]; exact q5
  · have hj : j < x.1 := hj
    rw [h1] at hj
    rw [q6 j hj]; exact (h2 j hj).symm
theorem st_str {D : va_G} {dT : Nat → ClassId} {args : Array Value} {s : State} {A : Nat → Prop} {t : Term} {a av : Nat} (hK : va_K D vcl (vty dT) s) (hts : ∀ w ∈ GT, w.before args s = true) (hex : (Cond.exactly t "java/lang/String").before args s = true) (ht : t.eval args s none [] s = some (.ref a)) (hco : va_OF "java/lang/String" "coder" "B" (.int 0) a A s s.heap) (hva : va_OF "java/lang/String" "value" "[B" (.ref av) a A s s.heap) : ∃ z2 z3, a < s.heap.size ∧ vrd D vcl s (a, .inr (0, [.ref av, .int 0, z2, z3])) s.heap := by
  obtain ⟨a', c, cell, k, q1, q2, q3, q4, q5, q6, q7⟩ := Cond.exactly_spec (args := args) (first := s) (o := none) (s := s) (idx := []) (t := t) (cls := "java/lang/String") hex
  have ea : a' = a := by
    have w := q1.symm.trans ht
    injection w with w
    injection w
  subst ea
  obtain ⟨hS, hfc, kC, hkC, hord⟩ := hK.1 0 (R0, T0, 4) rfl
  have ec : c = D.1 0 := Option.some.inj (q2.symm.trans hfc)
  subst ec
  have ek : k = kC := Option.some.inj (q4.symm.trans hkC)
  subst ek
  have hsz := q7 hord
  have hslot : ∀ j, j < 4 → ∃ v, cell.slots[D.2 0 j]? = some v := fun j hj => by
    obtain ⟨cf, kf, fi, fd, hi, he⟩ := hS j hj
    have h3 := (u_facts hfc hkC (u_lays hts in0 hj) hi).2.2
    have h4 : fd.slot < cell.slots.size := by rw [hsz]; exact (Array.getElem?_eq_some_iff.mp h3).1
    exact ⟨cell.slots[fd.slot], by rw [← he]; exact Array.getElem?_eq_getElem h4⟩
  obtain ⟨z2, h2⟩ := hslot 2 (by decide)
  obtain ⟨z3, h3⟩ := hslot 3 (by decide)
  obtain ⟨cf, kf, fi, fd, ce1, g1, -, g2, g3, g4, -⟩ := hco
  obtain ⟨cf', kf', fi', fd', ce2, g1', -, g2', -, g4', -⟩ := hva
  cases Option.some.inj (g2.symm.trans q3)
  cases Option.some.inj (g2'.symm.trans g2)
  refine ⟨z2, z3, (Array.getElem?_eq_some_iff.mp q3).1, (R0, T0, 4), rfl, _, q3, q6, q5, g3, fun j hj => ?_⟩
  have hj : j < 4 := hj
  match j, hj with
  | 0, _ =>
    obtain ⟨_, _, _, _, hi, he⟩ := hS 0 (by decide)
    cases Option.some.inj (hi.symm.trans g1')
    show _ = some (Value.ref av)
    rw [← he]; exact g4'
  | 1, _ =>
    obtain ⟨_, _, _, _, hi, he⟩ := hS 1 (by decide)
    cases Option.some.inj (hi.symm.trans g1)
    show _ = some (Value.int 0)
    rw [← he]; exact g4
  | 2, _ => exact h2
  | 3, _ => exact h3
  | n + 4, h => exact absurd h (by omega)
def hcl (f : Nat → Nat) (g : Nat → va_E) : Nat → vH → vH
  | 0, h => h
  | n + 1, h => fun a => if a = f n then some (g n) else hcl f g n h a
theorem hcl_get {f : Nat → Nat} {g : Nat → va_E} {h : vH} : ∀ n, (∀ i j, i < n → j < n → f i = f j → i = j) → ∀ i, i < n → hcl f g n h (f i) = some (g i) := by
  intro n
  induction n with
  | zero => intro _ i hi; exact absurd hi (Nat.not_lt_zero _)
  | succ n ih =>
    intro inj i hi
    show (if f i = f n then some (g n) else hcl f g n h (f i)) = some (g i)
    by_cases w : f i = f n
    · rw [if_pos w, inj i n hi (Nat.lt_succ_self _) w]
    · rw [if_neg w]
      exact ih (fun a b ha hb e => inj a b (by omega) (by omega) e) i (by
        rcases Nat.lt_or_ge i n with q | q
        · exact q
        · exact absurd (by rw [show i = n by omega]) w)
theorem hcl_out {f : Nat → Nat} {g : Nat → va_E} {h : vH} {a : Nat} : ∀ n, (∀ i, i < n → a ≠ f i) → hcl f g n h a = h a := by
  intro n
  induction n with
  | zero => intro _; rfl
  | succ n ih =>
    intro ne
    show (if a = f n then some (g n) else hcl f g n h a) = h a
    rw [if_neg (ne n (Nat.lt_succ_self _))]
    exact ih (fun i hi => ne i (by omega))
theorem hcl_all {f : Nat → Nat} {g : Nat → va_E} {h : vH} {P : Nat → va_E → Prop} (h0 : ∀ a e, h a = some e → P a e) : ∀ n, (∀ i, i < n → P (f i) (g i)) → ∀ a e, hcl f g n h a = some e → P a e := by
  intro n
  induction n with
  | zero => intro _ a e q; exact h0 a e q
  | succ n ih =>
    intro hp a e q
    have q : (if a = f n then some (g n) else hcl f g n h a) = some e := q
    by_cases w : a = f n
    · rw [if_pos w] at q
      injection q with q
      rw [w, ← q]; exact hp n (Nat.lt_succ_self _)
    · rw [if_neg w] at q
      exact ih (fun i hi => hp i (by omega)) a e q
/-- an array's cell is no object's, and no array's of another type -/
theorem st_na {D : va_G} {dT : Nat → ClassId} {U : State} {H : Heap} {A : Nat → Prop} {ty : FieldType} {t N a : Nat} {f : Nat → Value} (hK : va_K D vcl (vty dT) U) (hT : va_T ty t N f A U H) (hO : va_O "java/lang/String" a A U H) : a ≠ t := by
  intro e
  subst e
  obtain ⟨cell, q1, ⟨-, k, q2, comp, q3⟩, -⟩ := hT
  obtain ⟨cell', p1, -, p2, -⟩ := hO
  cases Option.some.inj (p1.symm.trans q1)
  obtain ⟨-, hfc, kC, hkC, hord⟩ := hK.1 0 (R0, T0, 4) rfl
  have ec : cell.cls = D.1 0 := Option.some.inj (p2.symm.trans hfc)
  rw [ec, hkC] at q2
  injection q2 with q2
  rw [q2] at hord
  rw [hord] at q3
  exact absurd q3 (by simp)
theorem st_nt {U : State} {H : Heap} {A : Nat → Prop} {ty ty' : FieldType} {t N t' N' : Nat} {f f' : Nat → Value} (hT : va_T ty t N f A U H) (hT' : va_T ty' t' N' f' A U H) (ne : ty ≠ ty') : t ≠ t' := by
  intro e
  subst e
  obtain ⟨cell, q1, q2, -⟩ := hT
  obtain ⟨cell', p1, p2, -⟩ := hT'
  cases Option.some.inj (p1.symm.trans q1)
  exact ne (st_kind q2 p2)
/-- two arrays at one place hold the same -/
theorem st_eq {U : State} {H : Heap} {A : Nat → Prop} {ty ty' : FieldType} {t N N' : Nat} {f f' : Nat → Value} (hN : N < 2 ^ 31) (hN' : N' < 2 ^ 31) (hT : va_T ty t N f A U H) (hT' : va_T ty' t N' f' A U H) : N = N' ∧ ∀ j, j < N → f j = f' j := by
  obtain ⟨cell, q1, q2, q3, q4, q5, q6, -⟩ := hT
  obtain ⟨cell', p1, p2, p3, p4, p5, p6, -⟩ := hT'
  cases Option.some.inj (p1.symm.trans q1)
  have e : N = N' := nI_eqI hN hN' (q5.symm.trans p5)
  subst e
  exact ⟨rfl, fun j hj => Option.some.inj ((q6 j hj).symm.trans (p6 j hj))⟩
