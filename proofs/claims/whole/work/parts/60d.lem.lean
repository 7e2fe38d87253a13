theorem nI_m1 {a : Nat} (h : 1 ≤ a) : nI a + (-1) = nI (a - 1) := by
  rw [← Int32.sub_eq_add_neg]; exact nI_sub (b := 1) h
theorem vne_t {h : vH} {a b n n' : Nat} {c c' : ClassId} {f : Nat → Int32} {g : (Nat → Int64) ⊕ (Nat → UInt32) ⊕ (Nat → UInt64) ⊕ (Nat → Option Nat)} (ha : h a = some (.inl (c, n, .inl f))) (hb : h b = some (.inl (c', n', .inr g))) : a ≠ b := vne ha hb (fun z => by
  injection z with z
  injection z with _ z
  injection z with _ z
  cases z)
