/-! ROLES: each cell of the class has one: a kind i and a number j; ad says where it lies, L what it holds -/
abbrev vL : Type := Nat → Nat → Option va_E
def lput {α : Type} (L : Nat → Nat → α) (i j : Nat) (x : α) : Nat → Nat → α := fun i' j' => if i' = i then (if j' = j then x else L i' j') else L i' j'
theorem lput_s {α : Type} (L : Nat → Nat → α) (i j : Nat) (x : α) : lput L i j x i j = x := by simp [lput]
theorem lput_i {α : Type} (L : Nat → Nat → α) {i j i' j' : Nat} (x : α) (n : i' ≠ i) : lput L i j x i' j' = L i' j' := by simp [lput, n]
theorem lput_j {α : Type} (L : Nat → Nat → α) {i j i' j' : Nat} (x : α) (n : j' ≠ j) : lput L i j x i' j' = L i' j' := by simp [lput, n]
def vOwn (ad : Nat → Nat → Nat) (L : vL) (b : Nat) : Prop := ∃ i j e, L i j = some e ∧ ad i j = b
/-- z: cells below it are older than the law and stay; hc what is known of them -/
def LH (z : Nat) (hc h : vH) (ad : Nat → Nat → Nat) (L : vL) : Prop := (∀ b e, hc b = some e → b < z ∧ h b = some e) ∧ (∀ i j e, L i j = some e → h (ad i j) = some e ∧ z ≤ ad i j) ∧ ∀ i j e i' j' e', L i j = some e → L i' j' = some e' → ad i j = ad i' j' → i = i' ∧ j = j'
/-- nothing but the class's own cells and new ones has changed -/
def LX (h0 : vH) (ad0 : Nat → Nat → Nat) (L0 : vL) (h : vH) (ad : Nat → Nat → Nat) (L : vL) : Prop := vfx (vOwn ad0 L0) h0 h ∧ ∀ i j e, L i j = some e → vOwn ad0 L0 (ad i j) ∨ h0 (ad i j) = none
theorem LX.rf {h : vH} {ad : Nat → Nat → Nat} {L : vL} : LX h ad L h ad L := ⟨vfx.rf, fun i j e q => Or.inl ⟨i, j, e, q, rfl⟩⟩
theorem LX.trans {h0 h1 h2 : vH} {ad0 ad1 ad2 : Nat → Nat → Nat} {L0 L1 L2 : vL} (p : LX h0 ad0 L0 h1 ad1 L1) (q : LX h1 ad1 L1 h2 ad2 L2) : LX h0 ad0 L0 h2 ad2 L2 := by
  have key : ∀ b, vOwn ad1 L1 b → vOwn ad0 L0 b ∨ h0 b = none := by
    rintro b ⟨i, j, e, h1, rfl⟩
    exact p.2 i j e h1
  refine ⟨fun b e x k => q.1 b e (p.1 b e x k) (fun o => ?_), fun i j e x => ?_⟩
  · rcases key b o with o | o
    · exact k o
    · rw [o] at x; cases x
  · rcases q.2 i j e x with o | o
    · exact key _ o
    · by_cases w : vOwn ad0 L0 (ad2 i j)
      · exact Or.inl w
      · cases y : h0 (ad2 i j) with
        | none => exact Or.inr rfl
        | some e0 => rw [p.1 _ _ y w] at o; cases o
section LHS
variable {z : Nat} {hc h h' : vH} {ad : Nat → Nat → Nat} {L : vL}
theorem LH.get (x : LH z hc h ad L) {i j : Nat} {e : va_E} (q : L i j = some e) : h (ad i j) = some e := (x.2.1 i j e q).1
theorem LH.wr (x : LH z hc h ad L) {i j : Nat} {e : va_E} (q : L i j = some e) : z ≤ ad i j := (x.2.1 i j e q).2
theorem LH.old (x : LH z hc h ad L) {b : Nat} {e : va_E} (q : hc b = some e) : h b = some e := (x.1 b e q).2
theorem LH.ni (x : LH z hc h ad L) {i j i' j' : Nat} {e e' : va_E} (q : L i j = some e) (q' : L i' j' = some e') (n : i ≠ i') : ad i j ≠ ad i' j' := fun w => n (x.2.2 i j e i' j' e' q q' w).1
theorem LH.nj (x : LH z hc h ad L) {i j i' j' : Nat} {e e' : va_E} (q : L i j = some e) (q' : L i' j' = some e') (n : j ≠ j') : ad i j ≠ ad i' j' := fun w => n (x.2.2 i j e i' j' e' q q' w).2
theorem LH.put (x : LH z hc h ad L) {i j : Nat} {e e' : va_E} (q : L i j = some e) : LH z hc (vup h (ad i j) e') ad (lput L i j (some e')) := by
  refine ⟨fun b y w => ⟨(x.1 b y w).1, ?_⟩, fun i1 j1 e1 w => ?_, fun i1 j1 e1 i2 j2 e2 w1 w2 w => ?_⟩
  · rw [vup_n _ _ (fun k => by have := (x.1 b y w).1; have := x.wr q; omega)]; exact (x.1 b y w).2
  · by_cases k : i1 = i ∧ j1 = j
    · obtain ⟨rfl, rfl⟩ := k
      rw [lput_s] at w
      injection w with w
      rw [w, vup_s]; exact ⟨rfl, x.wr q⟩
    · have w' : L i1 j1 = some e1 := by
        by_cases k1 : i1 = i
        · rw [lput_j _ _ (fun g => k ⟨k1, g⟩)] at w; exact w
        · rw [lput_i _ _ k1] at w; exact w
      rw [vup_n _ _ (fun g => k (x.2.2 _ _ _ _ _ _ w' q g))]
      exact x.2.1 _ _ _ w'
  · have f : ∀ a b y, lput L i j (some e') a b = some y → ∃ y0, L a b = some y0 := by
      intro a b y g
      by_cases k1 : a = i
      · by_cases k2 : b = j
        · rw [k1, k2]; exact ⟨_, q⟩
        · rw [lput_j _ _ k2] at g; exact ⟨_, g⟩
      · rw [lput_i _ _ k1] at g; exact ⟨_, g⟩
    obtain ⟨y1, g1⟩ := f _ _ _ w1
    obtain ⟨y2, g2⟩ := f _ _ _ w2
    exact x.2.2 _ _ _ _ _ _ g1 g2 w
theorem LH.new (x : LH z hc h ad L) (i j : Nat) {a : Nat} {e' : va_E} (q : h a = none) (hz : z ≤ a) : LH z hc (vup h a e') (lput ad i j a) (lput L i j (some e')) := by
  have f : ∀ a1 b y, ¬ (a1 = i ∧ b = j) → lput L i j (some e') a1 b = some y → L a1 b = some y ∧ lput ad i j a a1 b = ad a1 b := by
    intro a1 b y k g
    by_cases k1 : a1 = i
    · have k2 : b ≠ j := fun w => k ⟨k1, w⟩
      rw [lput_j _ _ k2] at g; exact ⟨g, lput_j _ _ k2⟩
    · rw [lput_i _ _ k1] at g; exact ⟨g, lput_i _ _ k1⟩
  refine ⟨fun b y w => ⟨(x.1 b y w).1, ?_⟩, fun i1 j1 e1 w => ?_, fun i1 j1 e1 i2 j2 e2 w1 w2 w => ?_⟩
  · rw [vup_n _ _ (vnf (x.1 b y w).2 q)]; exact (x.1 b y w).2
  · by_cases k : i1 = i ∧ j1 = j
    · obtain ⟨rfl, rfl⟩ := k
      rw [lput_s] at w
      injection w with w
      rw [w, lput_s, vup_s]; exact ⟨rfl, hz⟩
    · obtain ⟨g1, g2⟩ := f _ _ _ k w
      rw [g2, vup_n _ _ (vnf (x.get g1) q)]; exact x.2.1 _ _ _ g1
  · by_cases k : i1 = i ∧ j1 = j
    · by_cases k' : i2 = i ∧ j2 = j
      · exact ⟨k.1.trans k'.1.symm, k.2.trans k'.2.symm⟩
      · obtain ⟨g1, g2⟩ := f _ _ _ k' w2
        rw [g2, k.1, k.2, lput_s] at w
        exact absurd w.symm (vnf (x.get g1) q)
    · obtain ⟨g1, g2⟩ := f _ _ _ k w1
      by_cases k' : i2 = i ∧ j2 = j
      · rw [g2, k'.1, k'.2, lput_s] at w
        exact absurd w (vnf (x.get g1) q)
      · obtain ⟨g3, g4⟩ := f _ _ _ k' w2
        rw [g2, g4] at w
        exact x.2.2 _ _ _ _ _ _ g1 g3 w
/-- cells that stay -/
theorem LH.fx (x : LH z hc h ad L) (p : vfx (fun _ => False) h h') : LH z hc h' ad L := ⟨fun b y w => ⟨(x.1 b y w).1, p _ _ (x.1 b y w).2 (fun q => q)⟩, fun i j e w => ⟨p _ _ (x.get w) (fun q => q), x.wr w⟩, x.2.2⟩
/-- a role forgotten -/
theorem LH.less (x : LH z hc h ad L) {L' : vL} (p : ∀ i j e, L' i j = some e → L i j = some e) : LH z hc h ad L' := ⟨x.1, fun i j e w => x.2.1 i j e (p _ _ _ w), fun i j e i' j' e' w w' => x.2.2 i j e i' j' e' (p _ _ _ w) (p _ _ _ w')⟩
/-- two cells of the class, the second perhaps a new one, and what else is new: as a list grows -/
theorem LH.two (x : LH z hc h ad L) {i j i1 j1 b : Nat} {e e' e1 : va_E} {K : Nat → Prop} (q : L i j = some e) (n : ¬ (i1 = i ∧ j1 = j)) (p : vfx K h h') (hK : ∀ c, K c → c = ad i j ∨ (c = ad i1 j1 ∧ ∃ y, L i1 j1 = some y)) (k : h' (ad i j) = some e') (k1 : h' b = some e1) (hb : (b = ad i1 j1 ∧ ∃ y, L i1 j1 = some y) ∨ (h b = none ∧ z ≤ b)) : LH z hc h' (lput ad i1 j1 b) (lput (lput L i j (some e')) i1 j1 (some e1)) := by
  have hO : ∀ i2 j2 y, L i2 j2 = some y → ¬ (i2 = i ∧ j2 = j) → ¬ (i2 = i1 ∧ j2 = j1) → h' (ad i2 j2) = some y := by
    intro i2 j2 y w n1 n2
    refine p _ _ (x.get w) (fun g => ?_)
    rcases hK _ g with g | ⟨g, y1, g1⟩
    · exact n1 (x.2.2 _ _ _ _ _ _ w q g)
    · exact n2 (x.2.2 _ _ _ _ _ _ w g1 g)
  have f : ∀ a1 c y, ¬ (a1 = i1 ∧ c = j1) → lput (lput L i j (some e')) i1 j1 (some e1) a1 c = some y → lput L i j (some e') a1 c = some y ∧ lput ad i1 j1 b a1 c = ad a1 c := by
    intro a1 c y k g
    by_cases k1 : a1 = i1
    · have k2 : c ≠ j1 := fun w => k ⟨k1, w⟩
      rw [lput_j _ _ k2] at g; exact ⟨g, lput_j _ _ k2⟩
    · rw [lput_i _ _ k1] at g; exact ⟨g, lput_i _ _ k1⟩
  have f2 : ∀ a1 c y, ¬ (a1 = i ∧ c = j) → lput L i j (some e') a1 c = some y → L a1 c = some y := by
    intro a1 c y k g
    by_cases k1 : a1 = i
    · rw [lput_j _ _ (fun w => k ⟨k1, w⟩)] at g; exact g
    · rw [lput_i _ _ k1] at g; exact g
  have f3 : ∀ a1 c y, lput L i j (some e') a1 c = some y → ∃ y0, L a1 c = some y0 := by
    intro a1 c y g
    by_cases k : a1 = i ∧ c = j
    · rw [k.1, k.2]; exact ⟨_, q⟩
    · exact ⟨_, f2 _ _ _ k g⟩
  have hzb : z ≤ b := by
    rcases hb with ⟨r, y, g⟩ | ⟨-, g⟩
    · rw [r]; exact x.wr g
    · exact g
  have hnb : ∀ i2 j2 y, L i2 j2 = some y → ¬ (i2 = i1 ∧ j2 = j1) → ad i2 j2 ≠ b := by
    intro i2 j2 y w n1 r
    rcases hb with ⟨r1, y1, g⟩ | ⟨g, -⟩
    · exact n1 (x.2.2 _ _ _ _ _ _ w g (r.trans r1))
    · exact vnf (x.get w) g r
  refine ⟨fun c y w => ⟨(x.1 c y w).1, p _ _ (x.1 c y w).2 (fun g => ?_)⟩, fun i2 j2 e2 w => ?_, fun i2 j2 e2 i3 j3 e3 w2 w3 w => ?_⟩
  · have h1 := (x.1 c y w).1
    rcases hK _ g with r | ⟨r, y1, g1⟩
    · have := x.wr q; omega
    · have := x.wr g1; omega
  · by_cases r : i2 = i1 ∧ j2 = j1
    · obtain ⟨rfl, rfl⟩ := r
      rw [lput_s] at w
      injection w with w
      rw [lput_s, ← w]; exact ⟨k1, hzb⟩
    · obtain ⟨g1, g2⟩ := f _ _ _ r w
      rw [g2]
      by_cases r' : i2 = i ∧ j2 = j
      · rw [r'.1, r'.2, lput_s] at g1
        injection g1 with g1
        rw [r'.1, r'.2, ← g1]; exact ⟨k, x.wr q⟩
      · have g3 := f2 _ _ _ r' g1
        exact ⟨hO _ _ _ g3 r' r, x.wr g3⟩
  · by_cases r : i2 = i1 ∧ j2 = j1
    · by_cases r' : i3 = i1 ∧ j3 = j1
      · exact ⟨r.1.trans r'.1.symm, r.2.trans r'.2.symm⟩
      · obtain ⟨g1, g2⟩ := f _ _ _ r' w3
        obtain ⟨y0, g3⟩ := f3 _ _ _ g1
        rw [g2, r.1, r.2, lput_s] at w
        exact absurd w.symm (hnb _ _ _ g3 r')
    · obtain ⟨g1, g2⟩ := f _ _ _ r w2
      obtain ⟨y0, g3⟩ := f3 _ _ _ g1
      by_cases r' : i3 = i1 ∧ j3 = j1
      · rw [g2, r'.1, r'.2, lput_s] at w
        exact absurd w (hnb _ _ _ g3 r)
      · obtain ⟨g4, g5⟩ := f _ _ _ r' w3
        obtain ⟨y1, g6⟩ := f3 _ _ _ g4
        rw [g2, g5] at w
        exact x.2.2 _ _ _ _ _ _ g3 g6 w
end LHS
/-- since h0 -/
def LR (z : Nat) (hc h0 : vH) (ad0 : Nat → Nat → Nat) (L0 : vL) (h : vH) (ad : Nat → Nat → Nat) (L : vL) : Prop := LH z hc h ad L ∧ LX h0 ad0 L0 h ad L
section LRS
variable {z : Nat} {hc h0 h h' : vH} {ad0 ad : Nat → Nat → Nat} {L0 L : vL}
theorem LR.of (x : LH z hc h ad L) : LR z hc h ad L h ad L := ⟨x, LX.rf⟩
theorem LR.trans {h2 : vH} {ad2 : Nat → Nat → Nat} {L2 : vL} (p : LR z hc h0 ad0 L0 h ad L) (q : LR z hc h ad L h2 ad2 L2) : LR z hc h0 ad0 L0 h2 ad2 L2 := ⟨q.1, p.2.trans q.2⟩
theorem LR.put (x : LR z hc h0 ad0 L0 h ad L) {i j : Nat} {e e' : va_E} (q : L i j = some e) : LR z hc h0 ad0 L0 (vup h (ad i j) e') ad (lput L i j (some e')) := by
  refine x.trans ⟨x.1.put q, fun b y w k => ?_, fun i1 j1 e1 w => Or.inl ?_⟩
  · rw [vup_n _ _ (fun g => k ⟨i, j, e, q, g.symm⟩)]; exact w
  · by_cases k : i1 = i ∧ j1 = j
    · rw [k.1, k.2]; exact ⟨i, j, e, q, rfl⟩
    · refine ⟨i1, j1, e1, ?_, rfl⟩
      by_cases k1 : i1 = i
      · rw [lput_j _ _ (fun g => k ⟨k1, g⟩)] at w; exact w
      · rw [lput_i _ _ k1] at w; exact w
theorem LR.new (x : LR z hc h0 ad0 L0 h ad L) (i j : Nat) {a : Nat} {e' : va_E} (q : h a = none) (hz : z ≤ a) : LR z hc h0 ad0 L0 (vup h a e') (lput ad i j a) (lput L i j (some e')) := by
  refine x.trans ⟨x.1.new i j q hz, fun b y w k => ?_, fun i1 j1 e1 w => ?_⟩
  · rw [vup_n _ _ (vnf w q)]; exact w
  · by_cases k : i1 = i ∧ j1 = j
    · right; rw [k.1, k.2, lput_s]; exact q
    · left
      by_cases k1 : i1 = i
      · have k2 : j1 ≠ j := fun g => k ⟨k1, g⟩
        rw [lput_j _ _ k2] at w ⊢; exact ⟨i1, j1, e1, w, rfl⟩
      · rw [lput_i _ _ k1] at w ⊢; exact ⟨i1, j1, e1, w, rfl⟩
theorem LR.fx (x : LR z hc h0 ad0 L0 h ad L) (p : vfx (fun _ => False) h h') : LR z hc h0 ad0 L0 h' ad L := x.trans ⟨x.1.fx p, fun b y w _ => p b y w (fun q => q), fun i j e w => Or.inl ⟨i, j, e, w, rfl⟩⟩
theorem LR.less (x : LR z hc h0 ad0 L0 h ad L) {L' : vL} (p : ∀ i j e, L' i j = some e → L i j = some e) : LR z hc h0 ad0 L0 h ad L' := x.trans ⟨x.1.less p, vfx.rf, fun i j e w => Or.inl ⟨i, j, e, p _ _ _ w, rfl⟩⟩
theorem LR.two (x : LR z hc h0 ad0 L0 h ad L) {i j i1 j1 b : Nat} {e e' e1 : va_E} {K : Nat → Prop} (q : L i j = some e) (n : ¬ (i1 = i ∧ j1 = j)) (p : vfx K h h') (hK : ∀ c, K c → c = ad i j ∨ (c = ad i1 j1 ∧ ∃ y, L i1 j1 = some y)) (k : h' (ad i j) = some e') (k1 : h' b = some e1) (hb : (b = ad i1 j1 ∧ ∃ y, L i1 j1 = some y) ∨ (h b = none ∧ z ≤ b)) : LR z hc h0 ad0 L0 h' (lput ad i1 j1 b) (lput (lput L i j (some e')) i1 j1 (some e1)) := by
  refine x.trans ⟨x.1.two q n p hK k k1 hb, fun c y w g => p c y w (fun r => ?_), fun i2 j2 e2 w => ?_⟩
  · rcases hK c r with r | ⟨r, y1, r1⟩
    · exact g ⟨i, j, e, q, r.symm⟩
    · exact g ⟨i1, j1, y1, r1, r.symm⟩
  · by_cases r : i2 = i1 ∧ j2 = j1
    · rw [r.1, r.2, lput_s]
      rcases hb with ⟨r1, y1, g⟩ | ⟨g, -⟩
      · left; exact ⟨i1, j1, y1, g, r1.symm⟩
      · right; exact g
    · left
      have f : lput (lput L i j (some e')) i1 j1 (some e1) i2 j2 = lput L i j (some e') i2 j2 ∧ lput ad i1 j1 b i2 j2 = ad i2 j2 := by
        by_cases k1 : i2 = i1
        · have k2 : j2 ≠ j1 := fun g => r ⟨k1, g⟩
          exact ⟨lput_j _ _ k2, lput_j _ _ k2⟩
        · exact ⟨lput_i _ _ k1, lput_i _ _ k1⟩
      rw [f.1] at w
      rw [f.2]
      by_cases r' : i2 = i ∧ j2 = j
      · rw [r'.1, r'.2]; exact ⟨i, j, e, q, rfl⟩
      · refine ⟨i2, j2, e2, ?_, rfl⟩
        by_cases k1 : i2 = i
        · rw [lput_j _ _ (fun g => r' ⟨k1, g⟩)] at w; exact w
        · rw [lput_i _ _ k1] at w; exact w
end LRS
