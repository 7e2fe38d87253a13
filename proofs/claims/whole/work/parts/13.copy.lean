/-! System.arraycopy over the view -/
theorem vO.set2 {S0 : State} {D : va_G} {cl : List vw_C} {h : vH} {s : State} {H : Heap} {locs : List Loc} (x : vO S0 D cl h s H locs) {a a0 : Nat} {e0 e1 : va_E} (ha0 : h a0 = some e0) (hw0 : S0.heap.size ≤ a0) (ha : h a = some e1) (hw : S0.heap.size ≤ a) :
    ∃ (ws : va_W) (k0 k : Nat), va_P D cl ws H ∧ va_D (vB S0) ws ∧ ws[k0]? = some (a0, e0) ∧ ws[k]? = some (a, e1) ∧ ∀ (e : va_E) (H1 : Heap) (locs1 : List Loc), va_P D cl (ws.set k (a, e)) H1 → va_D (vB S0) (ws.set k (a, e)) → va_S (vB S0) s.heap H1 locs1 → vO S0 D cl (vup h a e) s H1 locs1 := by
  obtain ⟨L, f, hP, hD, hh⟩ := x.2.2
  rcases hh a0 e0 ha0 with ⟨g1, g2⟩ | ⟨g1, -⟩
  · rcases hh a e1 ha with ⟨h1, h2⟩ | ⟨h1, -⟩
    · obtain ⟨k0, hk0⟩ := va_pl_get (X := []) (f := f) g1
      obtain ⟨k, hk⟩ := va_pl_get (X := []) (f := f) h1
      rw [List.nil_append] at hk hk0
      refine ⟨va_pl L f, k0, k, hP, hD, by rw [← g2]; exact hk0, by rw [← h2]; exact hk, fun e H1 locs1 hP1 hD1 hS1 => ⟨x.1, hS1, L, va_up f a e, ?_, ?_, fun b y hb => ?_⟩⟩
      · have e1 := va_pl_set (X := []) (e := e) (by rw [List.nil_append]; exact hD) h1 (by rw [List.nil_append]; exact hk)
        rw [List.nil_append, List.nil_append] at e1
        rw [← e1]; exact hP1
      · have e1 := va_pl_set (X := []) (e := e) (by rw [List.nil_append]; exact hD) h1 (by rw [List.nil_append]; exact hk)
        rw [List.nil_append, List.nil_append] at e1
        rw [← e1]; exact hD1
      · by_cases hba : b = a
        · subst hba
          rw [vup_s] at hb
          exact Or.inl ⟨h1, by rw [va_up_self]; exact Option.some.inj hb⟩
        · rw [vup_n h e hba] at hb
          rcases hh b y hb with ⟨g1, g2⟩ | g
          · exact Or.inl ⟨g1, by rw [va_up_ne _ _ hba]; exact g2⟩
          · exact Or.inr g
    · exact absurd hw (Nat.not_le.mpr h1)
  · exact absurd hw0 (Nat.not_le.mpr g1)
/-- what System.arraycopy asks of the tables -/
def vKC (Ts : List Cond) (own : String) (index : Nat) : Prop := Cond.methodLink own index arraycopyName ∈ Ts ∧ Cond.native arraycopyName ∈ Ts ∧ Cond.static arraycopyName ∈ Ts ∧ Cond.initialized "java/lang/System" ∈ Ts
section VCOPY
variable {p : Program} {l : Launch} {e : Env} {R : Room} {s : State} {m : MethodId} {args : Array Value} {below : List Frame} {meth : Method} {c : Code} {H : Heap} {locs : List Loc} {cells slots : Nat} {Q : State → Prop}
variable {cc : ByteArray} {pc nL : Nat} {ls : Array Slot} {rest : List Value} {D : va_G} {cl : List vw_C} {tys : List (ClassId × FieldType)} {own : String} {Ts : List Cond} {S0 : State} {h : vH} {a : Nat}
theorem mv_copyi (C : vC p s m args c cc nL own Ts D cl tys) (X : vO S0 D cl h s H locs) (hls : ls.size = nL) {index : Nat} (K : vKC Ts own index) {a0 : Nat} {cA : ClassId} {n0 n1 : Nat} {f g : Nat → Int32} {ty : FieldType} (ha0 : h a0 = some (.inl (cA, n0, .inl f))) (hw0 : S0.heap.size ≤ a0) (ha : h a = some (.inl (cA, n1, .inl g))) (hw : S0.heap.size ≤ a) (t0 : Nat) (ht : tys[t0]? = some (cA, ty)) (hprim : refKind ty = false)
    {sp dp n : Int32} (SP DP N' : Nat) (e1 : sp = nI SP) (e2 : dp = nI DP) (e3 : n = nI N') (l0 : n0 < 2 ^ 31) (l1 : n1 < 2 ^ 31) (h4 : SP + N' ≤ n0) (h5 : DP + N' ≤ n1) (hfit : ∀ i, i < N' → fits ty (.int (f (SP + i))) = true)
    (hframes : 1 ≤ R.frames) (hlocals : (rest.map fun v => v.category).sum + (nativeFrameWords "java/lang/System" "arraycopy" 5 + 11) ≤ R.locals) (hdg : decode cc pc = .ok (.invokestatic index, 3))
    (kk : ∀ (H1 : Heap) (locs1 : List Loc), vO S0 D cl (vup h a (.inl (cA, n1, .inl (va_cpy f g SP DP N')))) s H1 locs1 → W p l e R s m args below meth c H1 locs1 cells slots Q (F0 m (pc + 3) ls rest)) : W p l e R s m args below meth c H locs cells slots Q (F0 m pc ls (.int n :: .int dp :: .ref a :: .int sp :: .ref a0 :: rest)) := by
  obtain ⟨⟨hx, hb, hml, hown, hts⟩, hK⟩ := C
  obtain ⟨k1, k2, k3, k4⟩ := K
  obtain ⟨ws, q0, q1, hP, hD, he0, he, hset⟩ := X.set2 ha0 hw0 ha hw
  subst e1 e2 e3
  have c1 : (nI SP).toNatClampNeg = SP := nI_clamp (by omega)
  have c2 : (nI DP).toNatClampNeg = DP := nI_clamp (by omega)
  have c3 : (nI N').toNatClampNeg = N' := nI_clamp (by omega)
  refine va_copyi hx hb (by rw [hml, hls]) hown (hts _ k1) (hts _ k2) (hts _ k3) (hts _ k4) hK hP hD X.2.1 q0 q1 t0 t0 he0 he ht ht hprim (nI_pos (by omega)) (nI_pos (by omega)) (nI_pos (by omega)) (by rw [c1, c3]; exact h4) (by rw [c2, c3]; exact h5) (by rw [c1, c3]; exact hfit) hframes hlocals hdg (fun H1 l1 a1 a2 a3 => kk H1 l1 ?_)
  rw [c1, c2, c3] at a1 a2
  exact hset _ H1 l1 a1 a2 a3
theorem mv_copyq (C : vC p s m args c cc nL own Ts D cl tys) (X : vO S0 D cl h s H locs) (hls : ls.size = nL) {index : Nat} (K : vKC Ts own index) {a0 : Nat} {cA : ClassId} {n0 n1 : Nat} {f g : Nat → Option Nat} {E : String} (ha0 : h a0 = some (.inl (cA, n0, .inr (.inr (.inr (.inr f)))))) (hw0 : S0.heap.size ≤ a0) (ha : h a = some (.inl (cA, n1, .inr (.inr (.inr (.inr g)))))) (hw : S0.heap.size ≤ a) (t0 : Nat) (ht : tys[t0]? = some (cA, .object E))
    {sp dp n : Int32} (SP DP N' : Nat) (e1 : sp = nI SP) (e2 : dp = nI DP) (e3 : n = nI N') (l0 : n0 < 2 ^ 31) (l1 : n1 < 2 ^ 31) (h4 : SP + N' ≤ n0) (h5 : DP + N' ≤ n1) (hel : ∀ i : Nat, i < N' → ∀ y : Nat, f (SP + i) = some y → va_Any E s H y)
    (hframes : 1 ≤ R.frames) (hlocals : (rest.map fun v => v.category).sum + (nativeFrameWords "java/lang/System" "arraycopy" 5 + 11) ≤ R.locals) (hdg : decode cc pc = .ok (.invokestatic index, 3))
    (kk : ∀ (H1 : Heap) (locs1 : List Loc), vO S0 D cl (vup h a (.inl (cA, n1, .inr (.inr (.inr (.inr (va_cpy f g SP DP N'))))))) s H1 locs1 → W p l e R s m args below meth c H1 locs1 cells slots Q (F0 m (pc + 3) ls rest)) : W p l e R s m args below meth c H locs cells slots Q (F0 m pc ls (.int n :: .int dp :: .ref a :: .int sp :: .ref a0 :: rest)) := by
  obtain ⟨⟨hx, hb, hml, hown, hts⟩, hK⟩ := C
  obtain ⟨k1, k2, k3, k4⟩ := K
  obtain ⟨ws, q0, q1, hP, hD, he0, he, hset⟩ := X.set2 ha0 hw0 ha hw
  subst e1 e2 e3
  have c1 : (nI SP).toNatClampNeg = SP := nI_clamp (by omega)
  have c2 : (nI DP).toNatClampNeg = DP := nI_clamp (by omega)
  have c3 : (nI N').toNatClampNeg = N' := nI_clamp (by omega)
  refine va_copyM hx hb (by rw [hml, hls]) hown (hts _ k1) (hts _ k2) (hts _ k3) (hts _ k4) hK hP hD X.2.1 q0 q1 t0 t0 he0 he ht ht (nI_pos (by omega)) (nI_pos (by omega)) (nI_pos (by omega)) (by rw [c1, c3]; exact h4) (by rw [c2, c3]; exact h5) (by rw [c1, c3]; exact hel) hframes hlocals hdg (fun H1 l1 a1 a2 a3 => kk H1 l1 ?_)
  rw [c1, c2, c3] at a1 a2
  exact hset _ H1 l1 a1 a2 a3
end VCOPY
