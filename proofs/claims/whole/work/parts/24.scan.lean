/-! THE TEXT: letters f, places; the first place from k on that is no space, the first that is one, before the end e (n = e - k) -/
def skp (f : Nat → Int32) : Nat → Nat → Nat
  | 0, k => k
  | n + 1, k => if f k = 32 then skp f n (k + 1) else k
def wnd (f : Nat → Int32) : Nat → Nat → Nat
  | 0, k => k
  | n + 1, k => if f k = 32 then k else wnd f n (k + 1)
theorem skp_s {f : Nat → Int32} {e k : Nat} (h : k < e) (hf : f k = 32) : skp f (e - k) k = skp f (e - (k + 1)) (k + 1) := by
  rw [show e - k = (e - (k + 1)) + 1 by omega, skp, if_pos hf]
theorem skp_n {f : Nat → Int32} {e k : Nat} (hf : ¬ f k = 32) : skp f (e - k) k = k := by
  rcases Nat.lt_or_ge k e with h | h
  · rw [show e - k = (e - (k + 1)) + 1 by omega, skp, if_neg hf]
  · rw [show e - k = 0 by omega, skp]
theorem skp_e {f : Nat → Int32} {e k : Nat} (h : e ≤ k) : skp f (e - k) k = k := by
  rw [show e - k = 0 by omega, skp]
theorem wnd_s {f : Nat → Int32} {e k : Nat} (h : k < e) (hf : ¬ f k = 32) : wnd f (e - k) k = wnd f (e - (k + 1)) (k + 1) := by
  rw [show e - k = (e - (k + 1)) + 1 by omega, wnd, if_neg hf]
theorem wnd_n {f : Nat → Int32} {e k : Nat} (hf : f k = 32) : wnd f (e - k) k = k := by
  rcases Nat.lt_or_ge k e with h | h
  · rw [show e - k = (e - (k + 1)) + 1 by omega, wnd, if_pos hf]
  · rw [show e - k = 0 by omega, wnd]
theorem wnd_e {f : Nat → Int32} {e k : Nat} (h : e ≤ k) : wnd f (e - k) k = k := by
  rw [show e - k = 0 by omega, wnd]
theorem skp_in (f : Nat → Int32) (e : Nat) : ∀ n k, n = e - k → k ≤ e → k ≤ skp f n k ∧ skp f n k ≤ e ∧ (skp f n k < e → ¬ f (skp f n k) = 32) ∧ ∀ j, k ≤ j → j < skp f n k → f j = 32 := by
  intro n
  induction n with
  | zero =>
    intro k h1 h2
    refine ⟨Nat.le_refl _, h2, fun h => ?_, fun j h3 h4 => ?_⟩
    · exfalso; simp only [skp] at h; omega
    · exfalso; simp only [skp] at h4; omega
  | succ n ih =>
    intro k h1 h2
    rw [skp]
    split
    · next hf =>
      obtain ⟨a1, a2, a3, a4⟩ := ih (k + 1) (by omega) (by omega)
      refine ⟨by omega, a2, a3, fun j h3 h4 => ?_⟩
      rcases Nat.eq_or_lt_of_le h3 with q | q
      · rw [← q]; exact hf
      · exact a4 j q h4
    · next hf => exact ⟨Nat.le_refl _, h2, fun _ => hf, fun j h3 h4 => by omega⟩
theorem wnd_in (f : Nat → Int32) (e : Nat) : ∀ n k, n = e - k → k ≤ e → k ≤ wnd f n k ∧ wnd f n k ≤ e ∧ (wnd f n k < e → f (wnd f n k) = 32) ∧ ∀ j, k ≤ j → j < wnd f n k → ¬ f j = 32 := by
  intro n
  induction n with
  | zero =>
    intro k h1 h2
    refine ⟨Nat.le_refl _, h2, fun h => ?_, fun j h3 h4 => ?_⟩
    · exfalso; simp only [wnd] at h; omega
    · exfalso; simp only [wnd] at h4; omega
  | succ n ih =>
    intro k h1 h2
    rw [wnd]
    split
    · next hf => exact ⟨Nat.le_refl _, h2, fun _ => hf, fun j h3 h4 => by omega⟩
    · next hf =>
      obtain ⟨a1, a2, a3, a4⟩ := ih (k + 1) (by omega) (by omega)
      refine ⟨by omega, a2, a3, fun j h3 h4 => ?_⟩
      rcases Nat.eq_or_lt_of_le h3 with q | q
      · rw [← q]; exact hf
      · exact a4 j q h4
