/-! LAMPS -/
def bcN (m : Nat) : Nat :=
  (fun i1 => (fun i2 => (fun i3 => (fun i4 => (i4 + i4 >>> 16) &&& 63) (i3 + i3 >>> 8)) ((i2 + i2 >>> 4) &&& 252645135)) ((i1 &&& 858993459) + ((i1 >>> 2) &&& 858993459))) (m - ((m >>> 1) &&& 1431655765))
def qN (x : Nat) : Nat := x % 2 + x / 2 % 2 + x / 4 % 2 + x / 8
def chk (f : Nat → Bool) : Nat → Bool
  | 0 => true
  | n + 1 => f n && chk f n
theorem chk_at {f : Nat → Bool} : ∀ n, chk f n = true → ∀ i, i < n → f i = true := by
  intro n
  induction n with
  | zero => intro _ i hi; omega
  | succ n ih =>
    intro h i hi
    rw [chk, Bool.and_eq_true] at h
    by_cases w : i = n
    · rw [w]; exact h.1
    · exact ih h.2 i (by omega)
set_option maxRecDepth 100000 in
theorem bc_all : chk (fun d => (fun k m => chk (fun c => (fun k m => chk (fun a => (fun k m => chk (fun b => Nat.beq (bcN (m + b)) (k + qN b)) 16) (k + qN a) (m + 16 * a)) 16) (k + qN c) (m + 256 * c)) 16) (qN d) (4096 * d)) 16 = true := by decide +kernel
theorem bc_q {m : Nat} (h : m < 65536) : bcN m = qN (m / 4096) + qN (m / 256 % 16) + qN (m / 16 % 16) + qN (m % 16) := by
  have h1 := chk_at 16 bc_all (m / 4096) (by omega)
  have h2 := chk_at 16 h1 (m / 256 % 16) (by omega)
  have h3 := chk_at 16 h2 (m / 16 % 16) (by omega)
  have h4 := Nat.eq_of_beq_eq_true (chk_at 16 h3 (m % 16) (by omega))
  rw [show 4096 * (m / 4096) + 256 * (m / 256 % 16) + 16 * (m / 16 % 16) + m % 16 = m by omega] at h4
  exact h4
theorem cnt_bit {m n : Nat} : cnt (fun k => m.testBit k) (n + 1) = cnt (fun k => m.testBit k) n + m / 2 ^ n % 2 := by
  rw [cnt, Nat.testBit_eq_decide_div_mod_eq]
  by_cases w : m / 2 ^ n % 2 = 1
  · rw [if_pos (decide_eq_true w), w]
  · rw [if_neg (by rw [decide_eq_false w]; decide)]
    have := Nat.mod_lt (m / 2 ^ n) (y := 2) (by decide)
    omega
theorem bc_cnt {m : Nat} (h : m < 65536) : bcN m = cnt (fun k => m.testBit k) 16 := by
  rw [bc_q h]
  simp only [cnt_bit, qN]
  have c0 : cnt (fun k => m.testBit k) 0 = 0 := rfl
  rw [c0]
  simp only [Nat.reducePow]
  have e1 : m / 4096 % 2 = m / 4096 % 2 := rfl
  have a1 : m / 4096 / 2 % 2 = m / 8192 % 2 := by omega
  have a2 : m / 4096 / 4 % 2 = m / 16384 % 2 := by omega
  have a3 : m / 4096 / 8 = m / 32768 % 2 := by omega
  have b0 : m / 256 % 16 % 2 = m / 256 % 2 := by omega
  have b1 : m / 256 % 16 / 2 % 2 = m / 512 % 2 := by omega
  have b2 : m / 256 % 16 / 4 % 2 = m / 1024 % 2 := by omega
  have b3 : m / 256 % 16 / 8 = m / 2048 % 2 := by omega
  have d0 : m / 16 % 16 % 2 = m / 16 % 2 := by omega
  have d1 : m / 16 % 16 / 2 % 2 = m / 32 % 2 := by omega
  have d2 : m / 16 % 16 / 4 % 2 = m / 64 % 2 := by omega
  have d3 : m / 16 % 16 / 8 = m / 128 % 2 := by omega
  have f0 : m % 16 % 2 = m / 1 % 2 := by omega
  have f1 : m % 16 / 2 % 2 = m / 2 % 2 := by omega
  have f2 : m % 16 / 4 % 2 = m / 4 % 2 := by omega
  have f3 : m % 16 / 8 = m / 8 % 2 := by omega
  rw [a1, a2, a3, b0, b1, b2, b3, d0, d1, d2, d3, f0, f1, f2, f3]
  omega
/-- the broken lamps as bits -/
def lmp (bl : Int32) (g : Nat → Int32) : Prop := ∃ m, m < 65536 ∧ bl = nI m ∧ ∀ k, k < 16 → m.testBit k = decide (¬ g k = 0)
theorem lmp_cnt {m : Nat} {g : Nat → Int32} (h : m < 65536) (hk : ∀ k, k < 16 → m.testBit k = decide (¬ g k = 0)) : bcN m = cnt (fun k => decide (¬ g k = 0)) 16 := by
  rw [bc_cnt h]; exact cnt_ext 16 hk
theorem nI_bv (a : Nat) : (nI a).toBitVec = BitVec.ofNat 32 a := rfl
theorem nI_or (a b : Nat) : nI a ||| nI b = nI (a ||| b) := Int32.toBitVec_inj.mp (by rw [Int32.toBitVec_or, nI_bv, nI_bv, nI_bv, BitVec.ofNat_or])
theorem nI_and (a b : Nat) : nI a &&& nI b = nI (a &&& b) := Int32.toBitVec_inj.mp (by rw [Int32.toBitVec_and, nI_bv, nI_bv, nI_bv, BitVec.ofNat_and])
theorem nI_xor (a b : Nat) : nI a ^^^ nI b = nI (a ^^^ b) := Int32.toBitVec_inj.mp (by rw [Int32.toBitVec_xor, nI_bv, nI_bv, nI_bv, BitVec.ofNat_xor])
theorem bit_n : ∀ j, j < 16 → (1 : Int32) <<< (nI j &&& 31) = nI (2 ^ j) := by decide +kernel
theorem lmp_set {bl : Int32} {g : Nat → Int32} {j : Nat} (h : lmp bl g) (hj : j < 16) : lmp (bl ||| nI (2 ^ j)) (upd g j 1) := by
  obtain ⟨m, m1, m2, m3⟩ := h
  refine ⟨m ||| 2 ^ j, ?_, by rw [m2, nI_or], fun k hk => ?_⟩
  · exact Nat.or_lt_two_pow (n := 16) m1 (Nat.pow_lt_pow_right (by decide) hj)
  · rw [Nat.testBit_or, m3 k hk, Nat.testBit_two_pow]
    by_cases w : k = j
    · rw [w, pk_us]; simp
    · rw [pk_un w, decide_eq_false (show ¬ j = k from fun q => w q.symm)]; simp
theorem lmp_clr {bl : Int32} {g : Nat → Int32} {j : Nat} (h : lmp bl g) (hj : j < 16) : lmp (bl &&& (nI (2 ^ j) ^^^ -1)) (upd g j 0) := by
  obtain ⟨m, m1, m2, m3⟩ := h
  refine ⟨m &&& (2 ^ j ^^^ (2 ^ 32 - 1)), ?_, ?_, fun k hk => ?_⟩
  · exact Nat.lt_of_le_of_lt Nat.and_le_left m1
  · rw [m2, show (-1 : Int32) = nI (2 ^ 32 - 1) from by decide +kernel, nI_xor, nI_and]
  · rw [Nat.testBit_and, Nat.testBit_xor, m3 k hk, Nat.testBit_two_pow, Nat.testBit_two_pow_sub_one]
    by_cases w : k = j
    · rw [w, pk_us]; simp [show j < 32 by omega]
    · rw [pk_un w, decide_eq_false (show ¬ j = k from fun q => w q.symm)]; simp [show k < 32 by omega]
theorem lmp_0 : lmp 0 (fun _ => 0) := ⟨0, by decide, rfl, fun k _ => by simp⟩
theorem sh_n {a k : Nat} (h : a < 2 ^ 31) (hk : k < 32) : ((nI a).toUInt32 >>> ((nI k).toUInt32 &&& Int32.toUInt32 31)).toInt32 = nI (a >>> k) := by
  have e1 : (nI a).toUInt32 = UInt32.ofNat a := rfl
  have e2 : ∀ k, k < 32 → ((nI k).toUInt32 &&& Int32.toUInt32 31) = UInt32.ofNat k := by decide +kernel
  rw [e1, e2 k hk]
  have e3 : UInt32.ofNat a >>> UInt32.ofNat k = UInt32.ofNat (a >>> k) := by
    apply UInt32.toNat_inj.mp
    rw [UInt32.toNat_shiftRight, UInt32.toNat_ofNat', UInt32.toNat_ofNat', UInt32.toNat_ofNat', Nat.mod_eq_of_lt (show a < 2 ^ 32 by omega), Nat.mod_eq_of_lt (show k < 2 ^ 32 by omega), Nat.mod_eq_of_lt hk]
    have : a >>> k ≤ a := Nat.shiftRight_le a k
    rw [Nat.mod_eq_of_lt (by omega)]
  rw [e3]; rfl
