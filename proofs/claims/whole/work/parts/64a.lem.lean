section TKL
variable {dT : Nat → ClassId} {dE z : Nat} {hcv h0 k h' : vH} {ad : Nat → Nat → Nat} {L : vL} {rc : Int32} {A A' : Nat → Nat → Int32} {B B' : Nat → Nat → Int64} {nv ns np nc nv' ns' np' nc' : Nat} {pf cb ce cs : Nat → Nat} {c0 : Nat} {ok : Bool} {r : Int32}
theorem tkP_1 (q : tkP dT dE z hcv h0 ad L rc A B nv ns np nc pf cb ce cs c0 ok A' B' nv' ns' np' nc' r h') (n : ¬ r = 0) : tkP dT dE z hcv h0 ad L rc A B nv ns np nc pf cb ce cs c0 ok A' B' nv' ns' np' nc' 1 h' := by
  obtain ⟨ad', L', q1, q2, q3⟩ := q
  rcases q3 with ⟨q3, q4, q5⟩ | ⟨q3, q4, q5⟩
  · exact ⟨ad', L', q1, q2, Or.inl ⟨q3, rfl, q5⟩⟩
  · exact absurd q4 n
theorem tkP.pre (p : LR z hcv h0 ad L k ad L) (q : tkP dT dE z hcv k ad L rc A B nv ns np nc pf cb ce cs c0 ok A' B' nv' ns' np' nc' r h') : tkP dT dE z hcv h0 ad L rc A B nv ns np nc pf cb ce cs c0 ok A' B' nv' ns' np' nc' r h' := by
  obtain ⟨ad', L', q1, q2⟩ := q
  exact ⟨ad', L', p.trans q1, q2⟩
theorem PT.fx {f : Nat → Int32} {N en bg cw : Nat} (t : PT dT z h0 ad L f N en bg cw) (p : vfx (fun _ => False) h0 k) : PT dT z k ad L f N en bg cw := by
  obtain ⟨t, tv, z2, z3, f8, fs, fe, ⟨k1, o1⟩, ⟨k2, o2⟩, r⟩ := t
  exact ⟨t, tv, z2, z3, f8, fs, fe, ⟨p _ _ k1 (fun q => q), o1⟩, ⟨p _ _ k2 (fun q => q), o2⟩, r⟩
theorem okLn_3 {e i j : Nat} (h : 3 ≤ j) (h0 : ns = 0) : okLn A e i nv ns j = false := by
  have : decide (ns ≠ 0) = false := decide_eq_false (fun q => q h0)
  match j, h with
  | 3, _ => show (decide (ns ≠ 0) && _) = _; rw [this]; rfl
  | 4, _ => show (decide (ns ≠ 0) && _) = _; rw [this]; rfl
  | 5, _ => show (decide (ns ≠ 0) && _) = _; rw [this]; rfl
  | 6, _ => show (decide (ns ≠ 0) && _) = _; rw [this]; rfl
  | 7, _ => show (decide (ns ≠ 0) && _) = _; rw [this]; rfl
  | 8, _ => show (decide (ns ≠ 0) && _) = _; rw [this]; rfl
  | j + 9, _ => rfl
theorem okLn_s {e i : Nat} (h0 : 0 < ns) : okLn A e i nv ns 3 = okPa A e i nv 0 ∧ okLn A e i nv ns 4 = okPa A e i nv 1 ∧ okLn A e i nv ns 5 = okPa A e i nv 2 ∧ okLn A e i nv ns 6 = okIf A e i nv ∧ okLn A e i nv ns 7 = okKe A e i ns ∧ okLn A e i nv ns 8 = (cNu (A 6) e i 0 999 && cEnd (A 6) e (nT (A 6) e i)) := by
  have : decide (ns ≠ 0) = true := decide_eq_true (by omega)
  refine ⟨?_, ?_, ?_, ?_, ?_, ?_⟩ <;> (show (decide (ns ≠ 0) && _) = _) <;> rw [this] <;> rfl
theorem tkP_nar (q : tkP dT dE z hcv h0 ad L rc A B nv ns np nc pf cb ce cs c0 ok A' B' nv' ns' np' nc' r h') : narrow .boolean (.int r) = .int r := by
  obtain ⟨ad', L', q1, q2, q3⟩ := q
  rcases q3 with ⟨q3, q4, q5⟩ | ⟨q3, q4, q5⟩ <;> rw [q4] <;> rfl
end TKL
