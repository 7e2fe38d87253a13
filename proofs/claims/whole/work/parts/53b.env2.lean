/-- the JDK's constants at the law's start: dE the lists' empty array, mO the class of Object[] -/
def vJ (S0 : State) (dE mO : Nat) : Prop := va_Z "java/lang/String" "COMPACT_STRINGS" "Z" (.int 1) (vB S0) S0 S0.heap ∧ va_Z "java/util/ArrayList" "DEFAULTCAPACITY_EMPTY_ELEMENTDATA" "[Ljava/lang/Object;" (.ref dE) (vB S0) S0 S0.heap ∧ (∃ fo : Option Nat, va_Z "jdk/internal/util/Preconditions" "SIOOBE_FORMATTER" "Ljava/util/function/BiFunction;" (va_rf fo) (vB S0) S0 S0.heap) ∧ va_Nw (.castable "[B" "java/lang/Cloneable") S0 ∧ va_Mi "[Ljava/lang/Object;" mO S0 ∧ va_Dc S0 ∧ va_AO "java/lang/Object" S0 ∧ va_Nw (.castable "MenuScreens$WordPiece" "MenuScreens$Piece") S0 ∧ va_Nw (.castable "MenuScreens$ValuePiece" "MenuScreens$Piece") S0 ∧ ∀ i, i = 8 ∨ i = 9 ∨ i = 10 ∨ i = 11 → ∀ r, vcl[i]? = some r → va_Nw (.castable r.1 "java/lang/Object") S0
theorem vne_c {h : vH} {a b i j : Nat} {x y : List Value} (ha : h a = some (.inr (i, x))) (hb : h b = some (.inr (j, y))) (n : i ≠ j) : a ≠ b := vne ha hb (fun z => n (by injection z with z; exact congrArg Prod.fst z))
theorem vne_oa {h : vH} {a b i : Nat} {x : List Value} {y : ClassId × vp_A} (ha : h a = some (.inr (i, x))) (hb : h b = some (.inl y)) : a ≠ b := vne ha hb (fun z => by cases z)
theorem va_Nw_AO {S0 s : State} {D : va_G} {h : vH} {H : Heap} {locs : List Loc} {dE mO : Nat} (X : vO S0 D vcl h s H locs) (hJ : vJ S0 dE mO) : va_AO "java/lang/Object" s := va_AO.moved X.1.1.alike hJ.2.2.2.2.2.2.1
/-- a string of n letters f -/
def vStr (dT : Nat → ClassId) (h : vH) (a n : Nat) (f : Nat → Int32) : Prop := ∃ (av : Nat) (v2 v3 : Value), h a = some (.inr (0, [.ref av, .int 0, v2, v3])) ∧ h av = some (.inl (dT 2, n, .inl f))
theorem vStr.kept {dT : Nat → ClassId} {h h' : vH} {K : Nat → Prop} {a n : Nat} {f : Nat → Int32} (x : vStr dT h a n f) (p : vfx K h h') (hK : ∀ b e, h b = some e → K b → (∃ i fs, e = .inr (i, fs) ∧ i ≠ 0) ∨ ∃ c y, e = .inl (c, y) ∧ ¬ ∃ n f, (c, y) = (dT 2, n, .inl f)) : vStr dT h' a n f := by
  obtain ⟨av, v2, v3, h1, h2⟩ := x
  refine ⟨av, v2, v3, p _ _ h1 (fun k => ?_), p _ _ h2 (fun k => ?_)⟩
  · rcases hK _ _ h1 k with ⟨i, fs, e, n⟩ | ⟨c, y, e, n⟩
    · injection e with e; injection e with e1 e2; exact n e1.symm
    · cases e
  · rcases hK _ _ h2 k with ⟨i, fs, e, n⟩ | ⟨c, y, e, n⟩
    · cases e
    · exact n ⟨_, _, by injection e with e; exact e.symm⟩
theorem ch_n {c : Nat} (h : c < 128) : ((nI c &&& 255).toUInt32 % 65536).toInt32 = nI c := by
  have h1 : nI c &&& 255 = nI c := by
    have := pk_andN (n := c) (by omega) (m := 255) 8 (by decide)
    rw [this, Nat.mod_eq_of_lt (by omega)]
  rw [h1, pk_char, pk_tn (by omega), Nat.mod_eq_of_lt (by omega)]
