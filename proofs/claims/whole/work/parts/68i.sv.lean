/-! the class's literals: the empty one, the signs of a line, the lines' words -/
def lzN : Nat → Nat
  | 0 => 0
  | 1 => 1
  | 2 => 1
  | 3 => 1
  | 4 => 1
  | i + 5 => (ltW i).1
def lzF : Nat → Nat → Int32
  | 0 => fun _ => 0
  | 1 => fun _ => 45
  | 2 => fun _ => 61
  | 3 => fun _ => 60
  | 4 => fun _ => 62
  | i + 5 => (ltW i).2
def lzL : List Nat := [0, 1, 1, 1, 1, 4, 7, 6, 3, 3, 4, 2, 3, 3]
def lzB : List (List Int32) := [[], [45], [61], [60], [62], [110, 97, 109, 101], [115, 101, 116, 116, 105, 110, 103], [115, 99, 114, 101, 101, 110], [112, 117, 116], [115, 97, 121], [115, 104, 111, 119], [105, 102], [107, 101, 121], [98, 97, 114]]
theorem lz_ok : ∀ i, i < 14 → lzL.getD i 0 = lzN i ∧ lzN i < 8 ∧ ∀ j, j < lzN i → (lzB.getD i []).getD j 0 = lzF i j := by decide +kernel
theorem lz_ne : ∀ i, i < 14 → ∀ j, j < 14 → i = j ∨ ¬ lzN i = lzN j ∨ ∃ k, k < 8 ∧ k < lzN i ∧ ¬ lzF i k = lzF j k := by
  have h : ∀ i, i < 14 → ∀ j, j < 14 → (decide (i = j) || !decide (lzN i = lzN j) || (List.range 8).any (fun k => decide (k < lzN i) && !decide (lzF i k = lzF j k))) = true := by decide +kernel
  intro i hi j hj
  have q := h i hi j hj
  rw [Bool.or_eq_true, Bool.or_eq_true] at q
  rcases q with (q | q) | q
  · exact Or.inl (of_decide_eq_true q)
  · exact Or.inr (Or.inl (by simpa using q))
  · obtain ⟨k, k1, k2⟩ := List.any_eq_true.mp q
    rw [Bool.and_eq_true] at k2
    exact Or.inr (Or.inr ⟨k, List.mem_range.mp k1, of_decide_eq_true k2.1, by simpa using k2.2⟩)
/-- a literal's cells: the string a, its bytes t -/
def stL (s : State) (i a t : Nat) : Prop := va_O "java/lang/String" a (vB s) s s.heap ∧ va_OF "java/lang/String" "coder" "B" (.int 0) a (vB s) s s.heap ∧ va_OF "java/lang/String" "value" "[B" (.ref t) a (vB s) s s.heap ∧ va_T .byte t (lzL.getD i 0) (fun j => .int ((lzB.getD i []).getD j 0)) (vB s) s s.heap
theorem st_fv {o n d : String} {v v' : Value} {t : Nat} {A : Nat → Prop} {U : State} {H : Heap} (h1 : va_OF o n d v t A U H) (h2 : va_OF o n d v' t A U H) : v = v' := by
  obtain ⟨a1, a2, a3, a4, a5, b1, -, b2, -, b3, -⟩ := h1
  obtain ⟨c1, c2, c3, c4, c5, d1, -, d2, -, d3, -⟩ := h2
  cases Option.some.inj (b1.symm.trans d1)
  cases Option.some.inj (b2.symm.trans d2)
  exact Option.some.inj (b3.symm.trans d3)
theorem st_lit {args : Array Value} {s : State} {tm : Term} (i : Nat) (hN : lzL.getD i 0 < 2 ^ 31) (hex : (Cond.exactly tm "java/lang/String").before args s = true) (hco : (Cond.eq (.field tm "java/lang/String" "coder" "B") (.int 0)).before args s = true) (har : (Cond.arrayOf (.field tm "java/lang/String" "value" "[B") .byte).before args s = true) (hle : (Cond.eq (.length (.field tm "java/lang/String" "value" "[B")) (.int (Int32.ofNat (lzL.getD i 0)))).before args s = true) (hel : ∀ j : Nat, j < lzL.getD i 0 → (Cond.eq (.elem (.field tm "java/lang/String" "value" "[B") (.int (Int32.ofNat j))) (.int ((lzB.getD i []).getD j 0))).before args s = true) : ∃ a t, tm.eval args s none [] s = some (.ref a) ∧ stL s i a t := by
  have hA : ∀ a : Nat, a < s.heap.size → ¬ vB s a := fun a h => Nat.not_le.mpr h
  obtain ⟨a, c, cA, kA, q1, q2, q3, q4, q5, q6, -⟩ := Cond.exactly_spec (args := args) (first := s) (o := none) (s := s) (idx := []) (t := tm) (cls := "java/lang/String") hex
  obtain ⟨t, ht, hT⟩ := va_Tof (f := fun j => .int ((lzB.getD i []).getD j 0)) (A := vB s) hN har (va_eqt hle) (fun j hj => va_eqt (hel j hj)) hA
  exact ⟨a, t, q1, ⟨cA, q3, q5, by rw [q6]; exact q2, hA a (Array.getElem?_eq_some_iff.mp q3).1⟩, vk_OFof q1 (va_eqt hco) hA, vk_OFof q1 ht hA, hT⟩
theorem st_view {D : va_G} {dT : Nat → ClassId} {args : Array Value} {s : State} {b n dE : Nat} {xs : Nat → Int32} {fE : Nat → Value} {tm : Nat → Term} {adK adV : Nat → Nat} (hK : va_K D vcl (vty dT) s) (hts : ∀ w ∈ GT, w.before args s = true) (hX : va_X b n xs s s.heap) (hbl : b < s.heap.size) (hn : n < 2 ^ 31) (hEa : va_T (.object "java/lang/Object") dE 0 fE (vB s) s s.heap) (hex : ∀ i, i < 14 → (Cond.exactly (tm i) "java/lang/String").before args s = true) (hS : ∀ i, i < 14 → stL s i (adK i) (adV i)) (hev : ∀ i, i < 14 → (tm i).eval args s none [] s = some (.ref (adK i))) : ∃ (hcv : vH) (z2 z3 : Nat → Value), (∀ a e, hcv a = some e → a < s.heap.size ∧ vrd D vcl s (a, e) s.heap) ∧ hcv b = some (.inl (dT 0, n, .inl xs)) ∧ hcv dE = some (aR dT 0 (fun _ => none)) ∧ (∀ i, i < 14 → hcv (adK i) = some (.inr (0, [.ref (adV i), .int 0, z2 i, z3 i]))) ∧ ∀ i, i < 14 → hcv (adV i) = some (.inl (dT 2, lzN i, .inl (lzF i))) := by
  have hTX : va_T .int b n (fun j => .int (xs j)) (vB s) s s.heap := by
    obtain ⟨scr, q1, q2, q3, q4, q5⟩ := hX
    exact ⟨scr, q1, q2, q3, by omega, by rw [q4], q5, Nat.not_le.mpr hbl⟩
  have a0 : ArrOfT s (dT 0) .int := (hK.2 0 (dT 0, .int) rfl).1
  have a2 : ArrOfT s (dT 2) .byte := (hK.2 2 (dT 2, .byte) rfl).1
  have a4 : ArrOfT s (dT 4) (.object "java/lang/Object") := (hK.2 4 (dT 4, .object "java/lang/Object") rfl).1
  have hT : ∀ i, i < 14 → va_T .byte (adV i) (lzL.getD i 0) (fun j => .int ((lzB.getD i []).getD j 0)) (vB s) s s.heap := fun i hi => (hS i hi).2.2.2
  have hz : ∀ i, ∃ q : Value × Value, i < 14 → adK i < s.heap.size ∧ vrd D vcl s (adK i, .inr (0, [.ref (adV i), .int 0, q.1, q.2])) s.heap := fun i => by
    by_cases hi : i < 14
    · obtain ⟨z2, z3, w⟩ := st_str hK hts (hex i hi) (hev i hi) (hS i hi).2.1 (hS i hi).2.2.1
      exact ⟨(z2, z3), fun _ => w⟩
    · exact ⟨(.null, .null), fun w => absurd w hi⟩
  obtain ⟨zz, hzz⟩ := Classical.axiomOfChoice hz
  have injV : ∀ i j, i < 14 → j < 14 → adV i = adV j → i = j := fun i j hi hj e => by
    have w := hT j hj
    rw [← e] at w
    have o1 := lz_ok i hi
    have o2 := lz_ok j hj
    obtain ⟨w1, w2⟩ := st_eq (by omega) (by omega) (hT i hi) w
    rw [o1.1, o2.1] at w1
    rw [o1.1] at w2
    rcases lz_ne i hi j hj with u | u | ⟨k, k1, k2, k3⟩
    · exact u
    · exact absurd w1 u
    · have w3 := w2 k k2
      rw [o1.2.2 k k2, o2.2.2 k (by omega)] at w3
      injection w3 with w3
      exact absurd w3 k3
  have injK : ∀ i j, i < 14 → j < 14 → adK i = adK j → i = j := fun i j hi hj e => injV i j hi hj (by
    have w := (hS j hj).2.2.1
    rw [← e] at w
    have u := st_fv (hS i hi).2.2.1 w
    injection u)
  have nKV : ∀ i j, i < 14 → j < 14 → adK i ≠ adV j := fun i j hi hj => st_na hK (hT j hj) (hS i hi).1
  have nKb : ∀ i, i < 14 → adK i ≠ b := fun i hi => st_na hK hTX (hS i hi).1
  have nKE : ∀ i, i < 14 → adK i ≠ dE := fun i hi => st_na hK hEa (hS i hi).1
  have nVb : ∀ i, i < 14 → adV i ≠ b := fun i hi => st_nt (hT i hi) hTX (by simp)
  have nVE : ∀ i, i < 14 → adV i ≠ dE := fun i hi => st_nt (hT i hi) hEa (by simp)
  have nbE : b ≠ dE := st_nt hTX hEa (by simp)
  obtain ⟨h0, eh0⟩ : ∃ z : vH, z = fun a => if a = b then some (.inl (dT 0, n, .inl xs)) else if a = dE then some (aR dT 0 (fun _ => none)) else none := ⟨_, rfl⟩
  obtain ⟨gK, egK⟩ : ∃ z : Nat → va_E, z = fun i => .inr (0, [.ref (adV i), .int 0, (zz i).1, (zz i).2]) := ⟨_, rfl⟩
  obtain ⟨gV, egV⟩ : ∃ z : Nat → va_E, z = fun i => .inl (dT 2, lzN i, .inl (lzF i)) := ⟨_, rfl⟩
  refine ⟨hcl adK gK 14 (hcl adV gV 14 h0), fun i => (zz i).1, fun i => (zz i).2, ?_, ?_, ?_, fun i hi => ?_, fun i hi => ?_⟩
  · refine hcl_all (P := fun a e => a < s.heap.size ∧ vrd D vcl s (a, e) s.heap) (hcl_all (P := fun a e => a < s.heap.size ∧ vrd D vcl s (a, e) s.heap) (fun a e q => ?_) 14 (fun i hi => ?_)) 14 (fun i hi => ?_)
    · rw [eh0] at q
      by_cases w : a = b
      · have q : (if a = b then some (.inl (dT 0, n, .inl xs)) else if a = dE then some (aR dT 0 (fun _ => none)) else none) = some e := q
        rw [if_pos w] at q
        injection q with q
        rw [w, ← q]
        exact st_arr hTX a0 rfl (fun j hj => arrV_read _ _ hj)
      · have q : (if a = b then some (.inl (dT 0, n, .inl xs)) else if a = dE then some (aR dT 0 (fun _ => none)) else none) = some e := q
        rw [if_neg w] at q
        by_cases u : a = dE
        · rw [if_pos u] at q
          injection q with q
          rw [u, ← q]
          exact st_arr hEa a4 rfl (fun j hj => absurd hj (Nat.not_lt_zero _))
        · rw [if_neg u] at q
          exact absurd q (by simp)
    · rw [egV]
      have o1 := lz_ok i hi
      have w := hT i hi
      rw [o1.1] at w
      exact st_arr w a2 rfl (fun j hj => by rw [o1.2.2 j hj]; exact arrV_read _ _ hj)
    · rw [egK]; exact hzz i hi
  · rw [hcl_out 14 (fun i hi => (nKb i hi).symm), hcl_out 14 (fun i hi => (nVb i hi).symm), eh0]
    exact if_pos rfl
  · rw [hcl_out 14 (fun i hi => (nKE i hi).symm), hcl_out 14 (fun i hi => (nVE i hi).symm), eh0]
    exact (if_neg nbE.symm).trans (if_pos rfl)
  · rw [hcl_get 14 injK i hi, egK]
  · rw [hcl_out 14 (fun j hj => (nKV j i hj hi).symm), hcl_get 14 injV i hi, egV]
/-- the first view is true of the law's first state -/
theorem st_vO {D : va_G} {s : State} {hcv : vH} (h : ∀ a e, hcv a = some e → a < s.heap.size ∧ vrd D vcl s (a, e) s.heap) : vO s D vcl hcv s s.heap [] := ⟨⟨State.WarmedH.refl s, Nat.le_refl _, fun _ _ => rfl⟩, va_S.rf, [], fun _ => .inr (0, []), fun k q w => by simp [va_pl] at w, ⟨fun i j p q w => by simp [va_pl] at w, fun k q w => by simp [va_pl] at w⟩, fun a e q => Or.inr (h a e q)⟩
