theorem bt_n : ∀ c, c < 128 → (nI c).toInt8.toInt32 = nI c := by decide +kernel
theorem bt_v {c : Nat} (h : c < 128) : vp_nar .byte (nI c).toInt8.toInt32 = nI c := by rw [vp_nar_byte, bt_n c h, bt_n c h]
theorem bt_f {c : Nat} (h : c < 128) : fits .byte (.int (nI c)) = true := by rw [← bt_n c h]; exact pk_fb _
theorem fitB_up {f : Nat → Int32} {n k : Nat} {x : Int32} (h : fitB f n) (hx : fits .byte (.int x) = true) : fitB (upd f k x) n := by
  intro i hi
  by_cases q : i = k
  · rw [q, pk_us]; exact hx
  · rw [pk_un q]; exact h i hi
/-- what append does to the builder at a with the bytes at av -/
def sbA (S0 : State) (dT : Nat → ClassId) (h h' : vH) (a av n cap : Nat) (f : Nat → Int32) (x ml : Int32) : Prop := ∃ av' cap' f', h' a = some (.inr (1, [.ref av', .int 0, .int ml, .int (nI (n + 1))])) ∧ h' av' = some (.inl (dT 2, cap', .inl f')) ∧ S0.heap.size ≤ av' ∧ cap' = (if n < cap then cap else 2 * cap + 2) ∧ f' n = x ∧ (∀ k, k < n → f' k = f k) ∧ fitB f' cap' ∧ vfx (fun b => b = a ∨ b = av) h h' ∧ (av' = av ∨ h av' = none)
theorem nI_dle {a b : Nat} (h : a ≤ b) (hb : b < 2 ^ 30) : nI a - nI b ≤ 0 := by
  apply Int32.le_iff_toInt_le.mpr
  rw [pk_sub_toInt (by omega) hb, Int32.toInt_zero]; omega
theorem nI_dgt {a b : Nat} (h : b < a) (ha : a < 2 ^ 30) : ¬ nI a - nI b ≤ 0 := by
  intro z
  have := Int32.le_iff_toInt_le.mp z
  rw [pk_sub_toInt ha (by omega), Int32.toInt_zero] at this; omega
theorem vup_sw (h : vH) {a b : Nat} (e e' : va_E) (x : va_E) (n : a ≠ b) : vup (vup (vup h b x) a e) b e' = vup (vup (vup h a e) b x) b e' := funext (fun c => by
  by_cases q : c = b
  · rw [q, vup_s, vup_s]
  · rw [vup_n _ _ q, vup_n _ _ q]
    by_cases r : c = a
    · rw [r, vup_s, vup_n _ _ n, vup_s]
    · rw [vup_n _ _ r, vup_n _ _ q, vup_n _ _ q, vup_n _ _ r])
