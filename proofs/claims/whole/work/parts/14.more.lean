section VMORE
variable {p : Program} {l : Launch} {e : Env} {R : Room} {s : State} {m : MethodId} {args : Array Value} {below : List Frame} {meth : Method} {c : Code} {H : Heap} {locs : List Loc} {cells slots : Nat} {Q : State → Prop}
variable {cc : ByteArray} {pc nL : Nat} {ls : Array Slot} {rest : List Value} {D : va_G} {cl : List vw_C} {tys : List (ClassId × FieldType)} {own : String} {Ts : List Cond} {S0 : State} {h : vH} {a : Nat}
theorem mv_zast (C : vC p s m args c cc nL own Ts D cl tys) (X : vO S0 D cl h s H locs) {n : Nat} {cA : ClassId} {f : Nat → Int32} (ha : h a = some (.inl (cA, n, .inl f))) (hw : S0.heap.size ≤ a) (t0 : Nat) (ht : tys[t0]? = some (cA, .boolean)) {i x : Int32} (hv : vp_nar .boolean x = x) (j : Nat) (hi : i = nI j) (hj : j < n) (hn : n < 2 ^ 31) (hdg : decode cc pc = .ok (.bastore, 1))
    (kk : ∀ (H1 : Heap) (locs1 : List Loc), vO S0 D cl (vup h a (.inl (cA, n, .inl (upd f j x)))) s H1 locs1 → W p l e R s m args below meth c H1 locs1 cells slots Q (F0 m (pc + 1) ls rest)) : W p l e R s m args below meth c H locs cells slots Q (F0 m pc ls (.int x :: .int i :: .ref a :: rest)) := by
  obtain ⟨⟨hx, hb, -, hown, hts⟩, hK⟩ := C
  obtain ⟨ws, q0, hP, hD, he, hset⟩ := X.set ha hw
  have ec : i.toNatClampNeg = j := by rw [hi]; exact nI_clamp (by omega)
  refine va_zast hx hb hK hP hD X.2.1 q0 t0 he ht (mv_in hi hj hn) hdg (fun H1 l1 a1 a2 a3 => kk H1 l1 ?_)
  rw [ec, hv] at a1 a2
  exact hset _ H1 l1 a1 a2 a3
end VMORE
