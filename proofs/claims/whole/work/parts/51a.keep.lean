theorem paA_k {A : Nat → Nat → Int32} {e i nv np nc k : Nat} {p1 sc pv : Int32} (h : k = 4 ∨ k = 51 ∨ k = 53 ∨ k = 58) : paA A e i nv np nc p1 sc pv k = A k := by
  unfold paA
  split <;> rcases h with rfl | rfl | rfl | rfl <;> rfl
theorem lnA_k {A : Nat → Nat → Int32} {e i nv ns np nc k : Nat} {ln : Int32} (kd : Nat) (h : k = 4 ∨ k = 51 ∨ k = 53 ∨ k = 58) : lnA A e i nv ns np nc ln kd k = A k := by
  match kd with
  | 0 => rcases h with rfl | rfl | rfl | rfl <;> rfl
  | 1 => rcases h with rfl | rfl | rfl | rfl <;> rfl
  | 2 => rcases h with rfl | rfl | rfl | rfl <;> rfl
  | 3 => exact paA_k h
  | 4 => exact paA_k h
  | 5 => exact paA_k h
  | 6 => rcases h with rfl | rfl | rfl | rfl <;> rfl
  | 7 => rcases h with rfl | rfl | rfl | rfl <;> rfl
  | n + 8 => rfl
theorem lnB_52 {A : Nat → Nat → Int32} {B : Nat → Nat → Int64} {e i nv ns nc : Nat} (kd : Nat) : lnB A B e i nv ns nc kd 52 = B 52 := by
  match kd with
  | 0 => rfl
  | 1 => rfl
  | 2 => rfl
  | 3 => rfl
  | 4 => rfl
  | 5 => rfl
  | 6 => rfl
  | 7 => rfl
  | 8 => rfl
  | n + 9 => rfl
