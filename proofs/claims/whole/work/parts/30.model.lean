/-! THE REFERENCE: its fields by their numbers: x the ints, y the longs, ar the arrays' addresses; A, B what the arrays hold -/
def mf (ar : Nat → Nat) (x : Nat → Int32) (y : Nat → Int64) : List Value := [.int (x 0), .int (x 1), .int (x 2), .int (x 3), .ref (ar 4), .int (x 5), .ref (ar 6), .int (x 7), .int (x 8), .int (x 9), .int (x 10), .long (y 11), .int (x 12), .ref (ar 13), .ref (ar 14), .ref (ar 15), .ref (ar 16), .ref (ar 17), .ref (ar 18), .ref (ar 19), .int (x 20), .ref (ar 21), .ref (ar 22), .ref (ar 23), .ref (ar 24), .ref (ar 25), .ref (ar 26), .ref (ar 27), .int (x 28), .ref (ar 29), .ref (ar 30), .ref (ar 31), .ref (ar 32), .ref (ar 33), .ref (ar 34), .ref (ar 35), .ref (ar 36), .ref (ar 37), .ref (ar 38), .int (x 39), .ref (ar 40), .ref (ar 41), .ref (ar 42), .ref (ar 43), .ref (ar 44), .int (x 45), .int (x 46), .long (y 47), .int (x 48), .ref (ar 49), .int (x 50), .ref (ar 51), .ref (ar 52), .ref (ar 53), .long (y 54), .int (x 55), .long (y 56), .long (y 57), .ref (ar 58)]
def mAr : Nat → Bool
  | 4 => true
  | 6 => true
  | 13 => true
  | 14 => true
  | 15 => true
  | 16 => true
  | 17 => true
  | 18 => true
  | 19 => true
  | 21 => true
  | 22 => true
  | 23 => true
  | 24 => true
  | 25 => true
  | 26 => true
  | 27 => true
  | 29 => true
  | 30 => true
  | 31 => true
  | 32 => true
  | 33 => true
  | 34 => true
  | 35 => true
  | 36 => true
  | 37 => true
  | 38 => true
  | 40 => true
  | 41 => true
  | 42 => true
  | 43 => true
  | 44 => true
  | 49 => true
  | 51 => true
  | 52 => true
  | 53 => true
  | 58 => true
  | _ => false
def mTy : Nat → Nat
  | 15 => 3
  | 16 => 1
  | 17 => 1
  | 18 => 1
  | 19 => 3
  | 24 => 1
  | 25 => 3
  | 44 => 1
  | 52 => 1
  | 53 => 3
  | 58 => 3
  | _ => 0
def mLen : Nat → Nat
  | 4 => 4000
  | 6 => 4000
  | 13 => 41
  | 14 => 41
  | 15 => 41
  | 16 => 41
  | 17 => 41
  | 18 => 41
  | 19 => 41
  | 21 => 31
  | 22 => 31
  | 23 => 31
  | 24 => 31
  | 25 => 31
  | 26 => 310
  | 27 => 310
  | 29 => 512
  | 30 => 512
  | 31 => 512
  | 32 => 512
  | 33 => 512
  | 34 => 512
  | 35 => 512
  | 36 => 512
  | 37 => 512
  | 38 => 512
  | 40 => 512
  | 41 => 512
  | 42 => 512
  | 43 => 512
  | 44 => 512
  | 49 => 30
  | 51 => 201
  | 52 => 201
  | 53 => 201
  | 58 => 16
  | _ => 0
def mcell (dT : Nat → ClassId) (k : Nat) (f : Nat → Int32) (g : Nat → Int64) : va_E := match mTy k with
  | 1 => .inl (dT 1, mLen k, .inr (.inl g))
  | t => .inl (dT t, mLen k, .inl f)
theorem mcell_inl (dT : Nat → ClassId) (k : Nat) (f : Nat → Int32) (g : Nat → Int64) : ∃ z, mcell dT k f g = .inl z := by
  unfold mcell
  split <;> exact ⟨_, rfl⟩
theorem mf_len (ar : Nat → Nat) (x : Nat → Int32) (y : Nat → Int64) : (mf ar x y).length = 59 := rfl
def MV (S0 : State) (dT : Nat → ClassId) (h : vH) (a : Nat) (ar : Nat → Nat) (x : Nat → Int32) (y : Nat → Int64) (A : Nat → Nat → Int32) (B : Nat → Nat → Int64) : Prop :=
  h a = some (.inr (13, mf ar x y)) ∧ (∀ k, mAr k = true → h (ar k) = some (mcell dT k (A k) (B k))) ∧ (∀ j k, mAr j = true → mAr k = true → ar j = ar k → j = k) ∧ S0.heap.size ≤ a ∧ ∀ k, mAr k = true → S0.heap.size ≤ ar k
/-- outside the reference nothing has changed -/
def vfr (a : Nat) (ar : Nat → Nat) (h h' : vH) : Prop := ∀ b, b ≠ a → (∀ k, mAr k = true → b ≠ ar k) → h' b = h b
/-- since h0 -/
def MR (S0 : State) (dT : Nat → ClassId) (h0 h : vH) (a : Nat) (ar : Nat → Nat) (x : Nat → Int32) (y : Nat → Int64) (A : Nat → Nat → Int32) (B : Nat → Nat → Int64) : Prop := MV S0 dT h a ar x y A B ∧ vfr a ar h0 h
theorem MR.of {S0 : State} {dT : Nat → ClassId} {h : vH} {a : Nat} {ar : Nat → Nat} {x : Nat → Int32} {y : Nat → Int64} {A : Nat → Nat → Int32} {B : Nat → Nat → Int64} (M : MV S0 dT h a ar x y A B) : MR S0 dT h h a ar x y A B := ⟨M, fun _ _ _ => rfl⟩
theorem MR.trans {S0 : State} {dT : Nat → ClassId} {h0 h h' : vH} {a : Nat} {ar : Nat → Nat} {x x' : Nat → Int32} {y y' : Nat → Int64} {A A' : Nat → Nat → Int32} {B B' : Nat → Nat → Int64} (M : MR S0 dT h0 h a ar x y A B) (M' : MR S0 dT h h' a ar x' y' A' B') : MR S0 dT h0 h' a ar x' y' A' B' := ⟨M'.1, fun b h1 h2 => (M'.2 b h1 h2).trans (M.2 b h1 h2)⟩
theorem MV.na {S0 : State} {dT : Nat → ClassId} {h : vH} {a : Nat} {ar : Nat → Nat} {x : Nat → Int32} {y : Nat → Int64} {A : Nat → Nat → Int32} {B : Nat → Nat → Int64} (M : MV S0 dT h a ar x y A B) {k : Nat} (hk : mAr k = true) : ar k ≠ a := by
  intro q
  have h1 := M.2.1 k hk
  obtain ⟨z, hz⟩ := mcell_inl dT k (A k) (B k)
  rw [q, M.1, hz] at h1
  cases h1
theorem MR.put {S0 : State} {dT : Nat → ClassId} {h0 h : vH} {a : Nat} {ar : Nat → Nat} {x x' : Nat → Int32} {y y' : Nat → Int64} {A : Nat → Nat → Int32} {B : Nat → Nat → Int64} (M : MR S0 dT h0 h a ar x y A B) {k : Nat} {v : Value} (e : (mf ar x y).set k v = mf ar x' y') : MR S0 dT h0 (vup h a (.inr (13, (mf ar x y).set k v))) a ar x' y' A B := by
  refine ⟨⟨by rw [vup_s, e], fun j hj => ?_, M.1.2.2⟩, fun b h1 h2 => ?_⟩
  · rw [vup_n h _ (M.1.na hj)]; exact M.1.2.1 j hj
  · rw [vup_n h _ h1]; exact M.2 b h1 h2
theorem MR.ari {S0 : State} {dT : Nat → ClassId} {h0 h : vH} {a : Nat} {ar : Nat → Nat} {x : Nat → Int32} {y : Nat → Int64} {A : Nat → Nat → Int32} {B : Nat → Nat → Int64} (M : MR S0 dT h0 h a ar x y A B) {k : Nat} (hk : mAr k = true) {f : Nat → Int32} {z : va_E} (e : mcell dT k f (B k) = z) : MR S0 dT h0 (vup h (ar k) z) a ar x y (va_up A k f) B := by
  refine ⟨⟨?_, fun j hj => ?_, M.1.2.2⟩, fun b h1 h2 => ?_⟩
  · rw [vup_n h _ (Ne.symm (M.1.na hk))]; exact M.1.1
  · by_cases hjk : j = k
    · subst hjk
      rw [vup_s, va_up_self, e]
    · rw [vup_n h _ (fun q => hjk (M.1.2.2.1 j k hj hk q)), va_up_ne _ _ hjk]; exact M.1.2.1 j hj
  · rw [vup_n h _ (h2 k hk)]; exact M.2 b h1 h2
theorem MR.arl {S0 : State} {dT : Nat → ClassId} {h0 h : vH} {a : Nat} {ar : Nat → Nat} {x : Nat → Int32} {y : Nat → Int64} {A : Nat → Nat → Int32} {B : Nat → Nat → Int64} (M : MR S0 dT h0 h a ar x y A B) {k : Nat} (hk : mAr k = true) {g : Nat → Int64} {z : va_E} (e : mcell dT k (A k) g = z) : MR S0 dT h0 (vup h (ar k) z) a ar x y A (va_up B k g) := by
  refine ⟨⟨?_, fun j hj => ?_, M.1.2.2⟩, fun b h1 h2 => ?_⟩
  · rw [vup_n h _ (Ne.symm (M.1.na hk))]; exact M.1.1
  · by_cases hjk : j = k
    · subst hjk
      rw [vup_s, va_up_self, e]
    · rw [vup_n h _ (fun q => hjk (M.1.2.2.1 j k hj hk q)), va_up_ne _ _ hjk]; exact M.1.2.1 j hj
  · rw [vup_n h _ (h2 k hk)]; exact M.2 b h1 h2
section MROWS
variable {p : Program} {l : Launch} {e : Env} {R : Room} {s : State} {m : MethodId} {args : Array Value} {below : List Frame} {meth : Method} {c : Code} {H : Heap} {locs : List Loc} {cells slots : Nat} {Q : State → Prop}
variable {cc : ByteArray} {pc nL : Nat} {ls : Array Slot} {rest : List Value} {D : va_G} {dT : Nat → ClassId} {S0 : State} {h h0 : vH} {a : Nat} {ar : Nat → Nat} {x x' : Nat → Int32} {y y' : Nat → Int64} {A : Nat → Nat → Int32} {B : Nat → Nat → Int64}
theorem mm_get (C : vC p s m args c cc nL "MenuScreensModel" GT D vcl (vty dT)) (X : vO S0 D vcl h s H locs) (M : MR S0 dT h0 h a ar x y A B) (k : Nat) {index : Nat} (hf : vFl GT vcl "MenuScreensModel" index 13 k) (v : Value) (hv : (mf ar x y)[k]? = some v) (hdg : decode cc pc = .ok (.getfield index, 3))
    (kk : W p l e R s m args below meth c H locs cells slots Q (F0 m (pc + 3) ls (v :: rest))) : W p l e R s m args below meth c H locs cells slots Q (F0 m pc ls (.ref a :: rest)) := mv_get C X M.1.1 k hf hv hdg kk
theorem mm_put (C : vC p s m args c cc nL "MenuScreensModel" GT D vcl (vty dT)) (X : vO S0 D vcl h s H locs) (M : MR S0 dT h0 h a ar x y A B) (k : Nat) {index : Nat} {ty : FieldType} {v : Value} (hf : vFp GT vcl "MenuScreensModel" index 13 k ty false) (x' : Nat → Int32) (y' : Nat → Int64) (hs : (mf ar x y).set k v = mf ar x' y') (hn : narrow ty v = v) (hfit : fits ty v = true) (hk : k < 59) (hdg : decode cc pc = .ok (.putfield index, 3))
    (kk : ∀ (h1 : vH) (H1 : Heap) (locs1 : List Loc), vO S0 D vcl h1 s H1 locs1 → MR S0 dT h0 h1 a ar x' y' A B → W p l e R s m args below meth c H1 locs1 cells slots Q (F0 m (pc + 3) ls rest)) : W p l e R s m args below meth c H locs cells slots Q (F0 m pc ls (v :: .ref a :: rest)) :=
  mv_put C X M.1.1 M.1.2.2.2.1 k hf hn hfit hk hdg (fun H1 l1 X1 => kk _ H1 l1 X1 (M.put hs))
theorem mm_iald (C : vC p s m args c cc nL "MenuScreensModel" GT D vcl (vty dT)) (X : vO S0 D vcl h s H locs) (M : MR S0 dT h0 h a ar x y A B) (k N : Nat) (hk : mAr k = true) (f : Nat → Int32) (hc : mcell dT k (A k) (B k) = .inl (dT 0, N, .inl f)) (hN : N < 2 ^ 31) {i : Int32} (j : Nat) (hi : i = nI j) (hj : j < N) (hdg : decode cc pc = .ok (.iaload, 1))
    (kk : W p l e R s m args below meth c H locs cells slots Q (F0 m (pc + 1) ls (.int (f j) :: rest))) : W p l e R s m args below meth c H locs cells slots Q (F0 m pc ls (.int i :: .ref (ar k) :: rest)) := mv_iald C X ((M.1.2.1 k hk).trans (congrArg some hc)) 0 rfl j hi hj hN hdg kk
theorem mm_zald (C : vC p s m args c cc nL "MenuScreensModel" GT D vcl (vty dT)) (X : vO S0 D vcl h s H locs) (M : MR S0 dT h0 h a ar x y A B) (k N : Nat) (hk : mAr k = true) (f : Nat → Int32) (hc : mcell dT k (A k) (B k) = .inl (dT 3, N, .inl f)) (hN : N < 2 ^ 31) {i : Int32} (j : Nat) (hi : i = nI j) (hj : j < N) (hdg : decode cc pc = .ok (.baload, 1))
    (kk : W p l e R s m args below meth c H locs cells slots Q (F0 m (pc + 1) ls (.int (f j) :: rest))) : W p l e R s m args below meth c H locs cells slots Q (F0 m pc ls (.int i :: .ref (ar k) :: rest)) := mv_zald C X ((M.1.2.1 k hk).trans (congrArg some hc)) 3 rfl j hi hj hN hdg kk
theorem mm_lald (C : vC p s m args c cc nL "MenuScreensModel" GT D vcl (vty dT)) (X : vO S0 D vcl h s H locs) (M : MR S0 dT h0 h a ar x y A B) (k N : Nat) (hk : mAr k = true) (f : Nat → Int64) (hc : mcell dT k (A k) (B k) = .inl (dT 1, N, .inr (.inl f))) (hN : N < 2 ^ 31) {i : Int32} (j : Nat) (hi : i = nI j) (hj : j < N) (hdg : decode cc pc = .ok (.laload, 1))
    (kk : W p l e R s m args below meth c H locs cells slots Q (F0 m (pc + 1) ls (.long (f j) :: rest))) : W p l e R s m args below meth c H locs cells slots Q (F0 m pc ls (.int i :: .ref (ar k) :: rest)) := mv_lald C X ((M.1.2.1 k hk).trans (congrArg some hc)) 1 rfl j hi hj hN hdg kk
theorem mm_iast (C : vC p s m args c cc nL "MenuScreensModel" GT D vcl (vty dT)) (X : vO S0 D vcl h s H locs) (M : MR S0 dT h0 h a ar x y A B) (k N : Nat) (hk : mAr k = true) (f : Nat → Int32) (hc : mcell dT k (A k) (B k) = .inl (dT 0, N, .inl f)) (hc2 : ∀ f', mcell dT k f' (B k) = .inl (dT 0, N, .inl f')) (hN : N < 2 ^ 31) {i v : Int32} (j : Nat) (hi : i = nI j) (hj : j < N) (hdg : decode cc pc = .ok (.iastore, 1))
    (kk : ∀ (h1 : vH) (H1 : Heap) (locs1 : List Loc), vO S0 D vcl h1 s H1 locs1 → MR S0 dT h0 h1 a ar x y (va_up A k (upd f j v)) B → W p l e R s m args below meth c H1 locs1 cells slots Q (F0 m (pc + 1) ls rest)) : W p l e R s m args below meth c H locs cells slots Q (F0 m pc ls (.int v :: .int i :: .ref (ar k) :: rest)) :=
  mv_iast C X ((M.1.2.1 k hk).trans (congrArg some hc)) (M.1.2.2.2.2 k hk) 0 rfl j hi hj hN hdg (fun H1 l1 X1 => kk _ H1 l1 X1 (M.ari hk (hc2 _)))
theorem mm_zast (C : vC p s m args c cc nL "MenuScreensModel" GT D vcl (vty dT)) (X : vO S0 D vcl h s H locs) (M : MR S0 dT h0 h a ar x y A B) (k N : Nat) (hk : mAr k = true) (f : Nat → Int32) (hc : mcell dT k (A k) (B k) = .inl (dT 3, N, .inl f)) (hc2 : ∀ f', mcell dT k f' (B k) = .inl (dT 3, N, .inl f')) (hN : N < 2 ^ 31) {i v : Int32} (hv : vp_nar .boolean v = v) (j : Nat) (hi : i = nI j) (hj : j < N) (hdg : decode cc pc = .ok (.bastore, 1))
    (kk : ∀ (h1 : vH) (H1 : Heap) (locs1 : List Loc), vO S0 D vcl h1 s H1 locs1 → MR S0 dT h0 h1 a ar x y (va_up A k (upd f j v)) B → W p l e R s m args below meth c H1 locs1 cells slots Q (F0 m (pc + 1) ls rest)) : W p l e R s m args below meth c H locs cells slots Q (F0 m pc ls (.int v :: .int i :: .ref (ar k) :: rest)) :=
  mv_zast C X ((M.1.2.1 k hk).trans (congrArg some hc)) (M.1.2.2.2.2 k hk) 3 rfl hv j hi hj hN hdg (fun H1 l1 X1 => kk _ H1 l1 X1 (M.ari hk (hc2 _)))
theorem mm_last (C : vC p s m args c cc nL "MenuScreensModel" GT D vcl (vty dT)) (X : vO S0 D vcl h s H locs) (M : MR S0 dT h0 h a ar x y A B) (k N : Nat) (hk : mAr k = true) (f : Nat → Int64) (hc : mcell dT k (A k) (B k) = .inl (dT 1, N, .inr (.inl f))) (hc2 : ∀ f', mcell dT k (A k) f' = .inl (dT 1, N, .inr (.inl f'))) (hN : N < 2 ^ 31) {i : Int32} {v : Int64} (j : Nat) (hi : i = nI j) (hj : j < N) (hdg : decode cc pc = .ok (.lastore, 1))
    (kk : ∀ (h1 : vH) (H1 : Heap) (locs1 : List Loc), vO S0 D vcl h1 s H1 locs1 → MR S0 dT h0 h1 a ar x y A (va_up B k (vp_updL f j v)) → W p l e R s m args below meth c H1 locs1 cells slots Q (F0 m (pc + 1) ls rest)) : W p l e R s m args below meth c H locs cells slots Q (F0 m pc ls (.long v :: .int i :: .ref (ar k) :: rest)) :=
  mv_last C X ((M.1.2.1 k hk).trans (congrArg some hc)) (M.1.2.2.2.2 k hk) 1 rfl j hi hj hN hdg (fun H1 l1 X1 => kk _ H1 l1 X1 (M.arl hk (hc2 _)))
end MROWS
