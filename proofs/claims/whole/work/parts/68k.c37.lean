theorem st_K {args : Array Value} {s : State} (hts : ∀ w ∈ GT, w.before args s = true) (hAO : va_AO "java/lang/Object" s) : ∃ (D : va_G) (dT : Nat → ClassId), va_K D vcl (vty dT) s := by
  obtain ⟨c0, i0, h0⟩ := u_known (C := R0) (T := T0) (N := 4) (n := 4) hts in0 (hts _ (gt_2 99 (by decide +kernel) rfl))
  obtain ⟨c1, i1, h1⟩ := u_known (C := R1) (T := T1) (N := 4) (n := 4) hts in1 (hts _ (gt_1 37 (by decide +kernel) rfl))
  obtain ⟨c2, i2, h2⟩ := u_known (C := R2) (T := T2) (N := 3) (n := 3) hts in2 (hts _ (gt_1 82 (by decide +kernel) rfl))
  obtain ⟨c3, i3, h3⟩ := u_known (C := R3) (T := T3) (N := 13) (n := 13) hts in3 (hts _ (gt_1 29 (by decide +kernel) rfl))
  obtain ⟨c4, i4, h4⟩ := u_known (C := R4) (T := T4) (N := 4) (n := 4) hts in4 (hts _ (gt_1 76 (by decide +kernel) rfl))
  obtain ⟨c5, i5, h5⟩ := u_known (C := R5) (T := T5) (N := 4) (n := 4) hts in5 (hts _ (gt_1 70 (by decide +kernel) rfl))
  obtain ⟨c6, i6, h6⟩ := u_known (C := R6) (T := T6) (N := 4) (n := 4) hts in6 (hts _ (gt_1 125 (by decide +kernel) rfl))
  obtain ⟨c7, i7, h7⟩ := u_known (C := R7) (T := T7) (N := 6) (n := 6) hts in7 (hts _ (gt_1 159 (by decide +kernel) rfl))
  obtain ⟨c8, i8, h8⟩ := u_known (C := R8) (T := T8) (N := 6) (n := 6) hts in8 (hts _ (gt_3 63 (by decide +kernel) rfl))
  obtain ⟨c9, i9, h9⟩ := u_known (C := R9) (T := T9) (N := 7) (n := 7) hts in9 (hts _ (gt_3 170 (by decide +kernel) rfl))
  obtain ⟨c10, i10, h10⟩ := u_known (C := R10) (T := T10) (N := 5) (n := 5) hts in10 (hts _ (gt_3 216 (by decide +kernel) rfl))
  obtain ⟨c11, i11, h11⟩ := u_known (C := R11) (T := T11) (N := 5) (n := 5) hts in11 (hts _ (gt_4 20 (by decide +kernel) rfl))
  obtain ⟨c12, i12, h12⟩ := u_known (C := R12) (T := T12) (N := 4) (n := 4) hts in12 (hts _ (gt_4 44 (by decide +kernel) rfl))
  obtain ⟨c13, i13, h13⟩ := u_known (C := R13) (T := T13) (N := 59) (n := 59) hts in13 (hts _ (gt_5 24 (by decide +kernel) rfl))
  obtain ⟨t0, k0, p0, a0, b0, d0⟩ := Cond.arrayClass_spec (type := .int) (hts _ (gt_1 123 (by decide +kernel) rfl))
  obtain ⟨t1, k1, p1, a1, b1, d1⟩ := Cond.arrayClass_spec (type := .long) (hts _ (gt_1 183 (by decide +kernel) rfl))
  obtain ⟨t2, k2, p2, a2, b2, d2⟩ := Cond.arrayClass_spec (type := .byte) (hts _ (gt_1 68 (by decide +kernel) rfl))
  obtain ⟨t3, k3, p3, a3, b3, d3⟩ := Cond.arrayClass_spec (type := .boolean) (hts _ (gt_5 207 (by decide +kernel) rfl))
  obtain ⟨p4, t4, k4, a4, -, b4, d4, f4⟩ := Cond.arrayOver_spec hAO
  have ar : ∀ {t : ClassId} {k : Class} {p : ClassId} {ty : FieldType}, s.vm.classes[t]? = some k → k.kind = .array p ty → ArrOfT s t ty := fun h1 h2 m z => ⟨fun q w => absurd w (by simp [arrV]), _, h1, _, h2⟩
  refine ⟨(fun k => [c0, c1, c2, c3, c4, c5, c6, c7, c8, c9, c10, c11, c12, c13].getD k c0, fun k => [i0, i1, i2, i3, i4, i5, i6, i7, i8, i9, i10, i11, i12, i13].getD k i0), fun k => [t0, t1, t2, t3, t4].getD k t0, fun k q hq => ?_, fun k q hq => ?_⟩
  · match k, hq with
    | 0, hq => cases hq; exact h0
    | 1, hq => cases hq; exact h1
    | 2, hq => cases hq; exact h2
    | 3, hq => cases hq; exact h3
    | 4, hq => cases hq; exact h4
    | 5, hq => cases hq; exact h5
    | 6, hq => cases hq; exact h6
    | 7, hq => cases hq; exact h7
    | 8, hq => cases hq; exact h8
    | 9, hq => cases hq; exact h9
    | 10, hq => cases hq; exact h10
    | 11, hq => cases hq; exact h11
    | 12, hq => cases hq; exact h12
    | 13, hq => cases hq; exact h13
    | n + 14, hq => exact absurd hq (by simp [vcl])
  · match k, hq with
    | 0, hq => cases hq; exact ⟨ar b0 d0, a0⟩
    | 1, hq => cases hq; exact ⟨ar b1 d1, a1⟩
    | 2, hq => cases hq; exact ⟨ar b2 d2, a2⟩
    | 3, hq => cases hq; exact ⟨ar b3 d3, a3⟩
    | 4, hq => cases hq; exact ⟨ar b4 d4, k4, p4, b4, d4, a4, f4⟩
    | n + 5, hq => exact absurd hq (by simp [vty])
