/-- all of it; pf, cb, ce, cs, c0: where parts and conditions begin and end; lh which screens lead home, ks the keys' screens -/
def RP (dT : Nat → ClassId) (dE : Nat) (h : vH) (ad : Nat → Nat → Nat) (L : vL) (A : Nat → Nat → Int32) (B : Nat → Nat → Int64) (nv ns np nc : Nat) (pf cb ce cs : Nat → Nat) (c0 : Nat) (lh : Nat → Bool) (ks : Nat → Nat → Int32) : Prop := rVal dT dE ad L A B nv ∧ rScr dT dE ad L A B ns pf lh ks ∧ rPar dT h ad L A np cb ce ∧ rCon ad L A B nc cs ∧ gI A nv ns np nc pf cb ce cs c0 ∧ gN A nv ns
section RPS
variable {dT : Nat → ClassId} {dE z : Nat} {hc h0 h h' : vH} {ad0 ad : Nat → Nat → Nat} {L0 L : vL} {A : Nat → Nat → Int32} {B : Nat → Nat → Int64} {nv ns np nc : Nat} {pf cb ce cs : Nat → Nat} {c0 : Nat} {lh : Nat → Bool} {ks : Nat → Nat → Int32}
/-- a name or setting line -/
theorem RP_va {e T q b : Nat} {p1 : Int32} {e1 e2 : va_E} (r : RP dT dE h ad L A B nv ns np nc pf cb ce cs c0 lh ks) (hnv : nv ≤ 40) (hw : isNm (A 6) (nF (A 6) e T) (nT (A 6) e T) = true) (hT4 : nT (A 6) e T ≤ 4000) (hF4 : nF (A 6) e T ≤ 4000) (x : LX h ad L h' (lput (lput ad 10 nv q) 30 0 b) (lput (lput (lput L 10 nv (some (eVal (nmL (A 6) (nF (A 6) e T) (nT (A 6) e T)) p1 (if p1 = 0 then -999999 else vNu (A 6) e (nT (A 6) e T)) (if p1 = 0 then 999999 else vNu (A 6) e (nT2 (A 6) e T)) (if p1 = 0 then 0 else vNu (A 6) e (nT3 (A 6) e T)) p1))) 3 0 (some e1)) 30 0 (some e2)))
    (k : ∃ ea' md' cap' f', e1 = eLst ea' (nv + 1) md' ∧ b = ea' ∧ e2 = aR dT cap' f' ∧ (nv + 1 ≤ cap' ∧ cap' ≤ 2000) ∧ (∀ k, k < nv → f' k = some (ad 10 k)) ∧ f' nv = some q) :
    RP dT dE h' (lput (lput ad 10 nv q) 30 0 b) (lput (lput (lput L 10 nv (some (eVal (nmL (A 6) (nF (A 6) e T) (nT (A 6) e T)) p1 (if p1 = 0 then -999999 else vNu (A 6) e (nT (A 6) e T)) (if p1 = 0 then 999999 else vNu (A 6) e (nT2 (A 6) e T)) (if p1 = 0 then 0 else vNu (A 6) e (nT3 (A 6) e T)) p1))) 3 0 (some e1)) 30 0 (some e2)) (vaA A e T nv p1) (vaB A B e T nv p1) (nv + 1) ns np nc pf cb ce cs c0 lh ks := by
  obtain ⟨r1, r2, r3, r4, r5, r6⟩ := r
  have u13 : ∀ v, v < nv → vaA A e T nv p1 13 (v + 1) = A 13 (v + 1) := fun v hv => pk_un (f := A 13) (k := nv + 1) (by omega)
  have u14 : ∀ v, v < nv → vaA A e T nv p1 14 (v + 1) = A 14 (v + 1) := fun v hv => pk_un (f := A 14) (k := nv + 1) (by omega)
  have u15 : ∀ v, v < nv → vaA A e T nv p1 15 (v + 1) = A 15 (v + 1) := fun v hv => pk_un (f := A 15) (k := nv + 1) (by omega)
  have u19 : ∀ v, v < nv → vaA A e T nv p1 19 (v + 1) = A 19 (v + 1) := fun v hv => pk_un (f := A 19) (k := nv + 1) (by omega)
  have s13 : vaA A e T nv p1 13 (nv + 1) = nI (nF (A 6) e T) := pk_us (f := A 13)
  have s14 : vaA A e T nv p1 14 (nv + 1) = nI (nT (A 6) e T) := pk_us (f := A 14)
  have s15 : vaA A e T nv p1 15 (nv + 1) = p1 := pk_us (f := A 15)
  have s19 : vaA A e T nv p1 19 (nv + 1) = p1 := pk_us (f := A 19)
  have n13 : ∀ v, v < nv → nmV (vaA A e T nv p1) 13 14 (v + 1) = nmV A 13 14 (v + 1) := fun v hv => by
    rw [nmV, u13 v hv, u14 v hv]; rfl
  have sn : nmV (vaA A e T nv p1) 13 14 (nv + 1) = nmL (A 6) (nF (A 6) e T) (nT (A 6) e T) := by
    rw [nmV, s13, s14, nI_clamp (by omega), nI_clamp (by omega)]; rfl
  have a10 : ∀ v, v < nv → lput (lput ad 10 nv q) 30 0 b 10 v = ad 10 v := fun v hv => lput_j (L := ad) (i := 10) (j := nv) (i' := 10) (j' := v) q (by omega)
  refine ⟨⟨?_, fun v hv => ?_⟩, r2, fun p hp => ?_, fun c hc => ?_, ?_, ?_, r6.2.1, r6.2.2⟩
  · refine rLst.grown (L := lput L 10 nv (some _)) (g := ad 10) (by decide) k rfl (fun v hv => a10 v hv) ?_
    exact lput_s ad 10 nv q
  · by_cases w : v = nv
    · subst w
      rw [sn, s15, s19]
      show lput L 10 v _ 10 v = _
      rw [lput_s]
      have b16 : vaB A B e T v p1 16 (v + 1) = (if p1 = 0 then 0 else vNu (A 6) e (nT (A 6) e T)) := by show vp_updL (B 16) (v + 1) _ (v + 1) = _; simp [vp_updL]
      have b17 : vaB A B e T v p1 17 (v + 1) = (if p1 = 0 then 0 else vNu (A 6) e (nT2 (A 6) e T)) := by show vp_updL (B 17) (v + 1) _ (v + 1) = _; simp [vp_updL]
      have b18 : vaB A B e T v p1 18 (v + 1) = (if p1 = 0 then 0 else vNu (A 6) e (nT3 (A 6) e T)) := by show vp_updL (B 18) (v + 1) _ (v + 1) = _; simp [vp_updL]
      rw [b16, b17, b18]
      by_cases y : p1 = 0
      · simp only [if_pos y]
      · simp only [if_neg y]
    · have hv : v < nv := by omega
      rw [n13 v hv, u15 v hv, u19 v hv]
      have b16 : vaB A B e T nv p1 16 (v + 1) = B 16 (v + 1) := by show vp_updL (B 16) (nv + 1) _ (v + 1) = _; simp [vp_updL, w]
      have b17 : vaB A B e T nv p1 17 (v + 1) = B 17 (v + 1) := by show vp_updL (B 17) (nv + 1) _ (v + 1) = _; simp [vp_updL, w]
      have b18 : vaB A B e T nv p1 18 (v + 1) = B 18 (v + 1) := by show vp_updL (B 18) (nv + 1) _ (v + 1) = _; simp [vp_updL, w]
      rw [b16, b17, b18]
      show lput L 10 nv _ 10 v = _
      rw [lput_j _ _ w]
      exact r1.2 v hv
  · obtain ⟨q1, q2⟩ := r3 p hp
    refine ⟨fun w => ?_, fun w => ?_⟩
    · obtain ⟨v, v1, v2, v3⟩ := r5.2.2.2.2.2.1 p hp w
      have := q1 w
      rw [show ad 10 ((A 33 p).toNatClampNeg - 1) = lput (lput ad 10 nv q) 30 0 b 10 ((A 33 p).toNatClampNeg - 1) from (a10 _ (by rw [v1, nI_clamp (by omega)]; omega)).symm] at this
      exact this
    · obtain ⟨w1, w2, g1, g2, g3⟩ := q2 w
      refine ⟨w1, w2, g1, g2.lx x, ?_⟩
      show if ownB A p = true then _ else _
      by_cases y : ownB A p = true
      · rw [if_pos y] at g3 ⊢; exact g3.lx x
      · rw [if_neg y] at g3 ⊢; exact g3
  · obtain ⟨v, v1, v2, v3⟩ := r5.2.2.2.2.1 c hc
    have := (r4 c hc).1
    rw [show ad 10 ((A 42 c).toNatClampNeg - 1) = lput (lput ad 10 nv q) 30 0 b 10 ((A 42 c).toNatClampNeg - 1) from (a10 _ (by rw [v1, nI_clamp (by omega)]; omega)).symm] at this
    exact ⟨this, (r4 c hc).2⟩
  · refine ⟨r5.1, r5.2.1, r5.2.2.1, r5.2.2.2.1, fun c hc => ?_, fun p hp w => ?_, r5.2.2.2.2.2.2⟩
    · obtain ⟨v, v1, v2, v3⟩ := r5.2.2.2.2.1 c hc
      exact ⟨v, v1, v2, by omega⟩
    · obtain ⟨v, v1, v2, v3⟩ := r5.2.2.2.2.2.1 p hp w
      exact ⟨v, v1, v2, by omega⟩
  · intro v h1 h2
    by_cases w : v = nv + 1
    · subst w
      rw [s13, s14, nI_clamp (by omega), nI_clamp (by omega)]; exact hw
    · have e1 := u13 (v - 1) (by omega)
      have e2 := u14 (v - 1) (by omega)
      rw [show v - 1 + 1 = v by omega] at e1 e2
      rw [e1, e2]; exact r6.1 v h1 (by omega)
end RPS
section RPT
variable {dT : Nat → ClassId} {dE z : Nat} {hc h0 h h' : vH} {ad0 ad ad' : Nat → Nat → Nat} {L0 L L' : vL} {A : Nat → Nat → Int32} {B : Nat → Nat → Int64} {nv ns np nc : Nat} {pf cb ce cs : Nat → Nat} {c0 : Nat} {lh : Nat → Bool} {ks : Nat → Nat → Int32}
/-- the text's roles stay -/
theorem RP.to (r : RP dT dE h ad L A B nv ns np nc pf cb ce cs c0 lh ks) (x : LX h ad L h' ad' L') (hk : ∀ i, (9 < i ∨ i = 3 ∨ i = 4) → L' i = L i ∧ ad' i = ad i) : RP dT dE h' ad' L' A B nv ns np nc pf cb ce cs c0 lh ks := by
  obtain ⟨r1, r2, r3, r4, r5⟩ := r
  have c : ∀ {i i1 j n : Nat} {g g' : Nat → Nat}, (9 < i ∨ i = 3 ∨ i = 4) → (9 < i1 ∨ i1 = 3 ∨ i1 = 4) → g' = g → rLst dT dE ad L i i1 j n g → rLst dT dE ad' L' i i1 j n g' := fun k1 k2 k3 r => r.kept (by rw [(hk _ k1).1]) (by rw [(hk _ k2).1]) (by rw [(hk _ k2).2]) (fun k _ => by rw [k3])
  have a10 := (hk 10 (Or.inl (by decide))).2
  have a16 := (hk 16 (Or.inl (by decide))).2
  have a17 := (hk 17 (Or.inl (by decide))).2
  refine ⟨⟨c (Or.inr (Or.inl rfl)) (Or.inl (by decide)) a10 r1.1, fun v hv => ?_⟩, ⟨c (Or.inr (Or.inr rfl)) (Or.inl (by decide)) (hk 11 (Or.inl (by decide))).2 r2.1, fun s hs => ?_⟩, fun p hp => ?_, fun w hw => ?_, r5⟩
  · rw [(hk 10 (Or.inl (by decide))).1]; exact r1.2 v hv
  · obtain ⟨q1, q2, q3, q4⟩ := r2.2 s hs
    rw [(hk 11 (Or.inl (by decide))).1, (hk 12 (Or.inl (by decide))).2, (hk 14 (Or.inl (by decide))).2, (hk 15 (Or.inl (by decide))).2, (hk 14 (Or.inl (by decide))).1, (hk 15 (Or.inl (by decide))).1]
    exact ⟨q1, c (Or.inl (by decide)) (Or.inl (by decide)) (by rw [a16]) q2, q3, q4⟩
  · have e : chn ad' (cb p) (ce p) = chn ad (cb p) (ce p) := by rw [chn, chn, a17]
    obtain ⟨q1, q2⟩ := r3 p hp
    rw [e, a10, (hk 16 (Or.inl (by decide))).1]
    refine ⟨q1, fun w => ?_⟩
    obtain ⟨w1, w2, g1, g2, g3⟩ := q2 w
    refine ⟨w1, w2, g1, g2.lx x, ?_⟩
    by_cases y : ownB A p = true
    · rw [if_pos y] at g3 ⊢; exact g3.lx x
    · rw [if_neg y] at g3 ⊢; exact g3
  · rw [a10, a17, (hk 17 (Or.inl (by decide))).1]; exact r4 w hw
/-- strings of parts that stay -/
theorem rPar.str {p w1 w2 : Nat} {A' : Nat → Nat → Int32} (x : LX h ad L h' ad' L') (e6 : A' 6 = A 6) (e : ∀ k, (k = 30 ∨ k = 35 ∨ k = 36 ∨ k = 37 ∨ k = 38) → A' k p = A k p) (g : wStr dT h ad L (A 6) w1 (A 35 p).toNatClampNeg (A 36 p).toNatClampNeg ∧ if ownB A p = true then wStr dT h ad L (A 6) w2 (A 37 p).toNatClampNeg (A 38 p).toNatClampNeg else w2 = w1) : wStr dT h' ad' L' (A' 6) w1 (A' 35 p).toNatClampNeg (A' 36 p).toNatClampNeg ∧ if ownB A' p = true then wStr dT h' ad' L' (A' 6) w2 (A' 37 p).toNatClampNeg (A' 38 p).toNatClampNeg else w2 = w1 := by
  have eo : ownB A' p = ownB A p := by rw [ownB, ownB, e 30 (by simp), e 37 (by simp), e 38 (by simp), e6]
  rw [eo, e6, e 35 (by simp), e 36 (by simp), e 37 (by simp), e 38 (by simp)]
  refine ⟨g.1.lx x, ?_⟩
  have g3 := g.2
  by_cases y : ownB A p = true
  · rw [if_pos y] at g3 ⊢; exact g3.lx x
  · rw [if_neg y] at g3 ⊢; exact g3
/-- a screen's line -/
theorem RP_sc {e T q q12 q14 q15 b : Nat} {ln : Int32} {e0 e1 e2 : va_E} (r : RP dT dE h ad L A B nv ns np nc pf cb ce cs c0 lh ks) (hns : ns ≤ 30) (hnc : nc ≤ 600) (hln : ∃ l, ln = nI l ∧ 1 ≤ l ∧ l ≤ 5000) (hw : isNm (A 6) (nF (A 6) e T) (nT (A 6) e T) = true) (hT4 : nT (A 6) e T ≤ 4000) (hF4 : nF (A 6) e T ≤ 4000)
    (had : ad' = lput (lput (lput (lput (lput ad 11 ns q) 12 ns q12) 14 ns q14) 15 ns q15) 31 0 b) (hL : L' = lput (lput (lput (lput (lput (lput (lput L 11 ns (some e0)) 12 ns (some (eLst dE 0 0))) 14 ns (some (aL dT 10 (fun _ => 0)))) 15 ns (some (aI dT 10 (fun _ => 0)))) 11 ns (some (eScr (nmL (A 6) (nF (A 6) e T) (nT (A 6) e T)) ln q12 q14 q15 999 0))) 4 0 (some e1)) 31 0 (some e2))
    (x : LX h ad L h' ad' L')
    (k : ∃ ea' md' cap' f', e1 = eLst ea' (ns + 1) md' ∧ b = ea' ∧ e2 = aR dT cap' f' ∧ (ns + 1 ≤ cap' ∧ cap' ≤ 2000) ∧ (∀ k, k < ns → f' k = some (ad 11 k)) ∧ f' ns = some q) :
    RP dT dE h' ad' L' (scA A e T ns ln) (va_up B 24 (vp_updL (B 24) (ns + 1) 1000)) nv (ns + 1) np nc (va_up pf (ns + 1) np) cb ce cs nc (va_up lh (ns + 1) false) (va_up ks (ns + 1) (fun _ => 0)) := by
  obtain ⟨r1, r2, r3, r4, r5, r6⟩ := r
  have u21 : ∀ v, v < ns → scA A e T ns ln 21 (v + 1) = A 21 (v + 1) := fun v hv => pk_un (f := A 21) (k := ns + 1) (by omega)
  have u22 : ∀ v, v < ns → scA A e T ns ln 22 (v + 1) = A 22 (v + 1) := fun v hv => pk_un (f := A 22) (k := ns + 1) (by omega)
  have u23 : ∀ v, v < ns → scA A e T ns ln 23 (v + 1) = A 23 (v + 1) := fun v hv => pk_un (f := A 23) (k := ns + 1) (by omega)
  have s21 : scA A e T ns ln 21 (ns + 1) = nI (nF (A 6) e T) := pk_us (f := A 21)
  have s22 : scA A e T ns ln 22 (ns + 1) = nI (nT (A 6) e T) := pk_us (f := A 22)
  have s23 : scA A e T ns ln 23 (ns + 1) = ln := pk_us (f := A 23)
  have kz_in : ∀ (m : Nat) (f : Nat → Int32) (a j : Nat), a ≤ j → j < a + m → kz f a m j = 0 := by
    intro m
    induction m with
    | zero => intro f a j h1 h2; omega
    | succ m ih =>
      intro f a j h1 h2
      rw [kz]
      by_cases w : j = a + m
      · rw [w]; exact pk_us
      · rw [pk_un w]; exact ih f a j h1 (by omega)
  have kz_out : ∀ (m : Nat) (f : Nat → Int32) (a j : Nat), (j < a ∨ a + m ≤ j) → kz f a m j = f j := by
    intro m
    induction m with
    | zero => intro f a j _; rfl
    | succ m ih =>
      intro f a j h1
      rw [kz, pk_un (by omega)]; exact ih f a j (by omega)
  have k27 : ∀ j, j < 10 * (ns + 1) → scA A e T ns ln 27 j = A 27 j := fun j hj => kz_out 10 (A 27) _ j (Or.inl hj)
  have n21 : ∀ v, v < ns → nmV (scA A e T ns ln) 21 22 (v + 1) = nmV A 21 22 (v + 1) := fun v hv => by
    rw [nmV, u21 v hv, u22 v hv]; rfl
  have sn : nmV (scA A e T ns ln) 21 22 (ns + 1) = nmL (A 6) (nF (A 6) e T) (nT (A 6) e T) := by
    rw [nmV, s21, s22, nI_clamp (by omega), nI_clamp (by omega)]; rfl
  subst had hL
  have l11 : ∀ s, s ≠ ns → lput (lput (lput (lput (lput (lput (lput L 11 ns (some e0)) 12 ns (some (eLst dE 0 0))) 14 ns (some (aL dT 10 (fun _ => 0)))) 15 ns (some (aI dT 10 (fun _ => 0)))) 11 ns (some (eScr (nmL (A 6) (nF (A 6) e T) (nT (A 6) e T)) ln q12 q14 q15 999 0))) 4 0 (some e1)) 31 0 (some e2) 11 s = L 11 s := fun s w => by simp [lput, w]
  have l12 : ∀ s, s ≠ ns → lput (lput (lput (lput (lput (lput (lput L 11 ns (some e0)) 12 ns (some (eLst dE 0 0))) 14 ns (some (aL dT 10 (fun _ => 0)))) 15 ns (some (aI dT 10 (fun _ => 0)))) 11 ns (some (eScr (nmL (A 6) (nF (A 6) e T) (nT (A 6) e T)) ln q12 q14 q15 999 0))) 4 0 (some e1)) 31 0 (some e2) 12 s = L 12 s := fun s w => by simp [lput, w]
  have l14 : ∀ s, s ≠ ns → lput (lput (lput (lput (lput (lput (lput L 11 ns (some e0)) 12 ns (some (eLst dE 0 0))) 14 ns (some (aL dT 10 (fun _ => 0)))) 15 ns (some (aI dT 10 (fun _ => 0)))) 11 ns (some (eScr (nmL (A 6) (nF (A 6) e T) (nT (A 6) e T)) ln q12 q14 q15 999 0))) 4 0 (some e1)) 31 0 (some e2) 14 s = L 14 s := fun s w => by simp [lput, w]
  have l15 : ∀ s, s ≠ ns → lput (lput (lput (lput (lput (lput (lput L 11 ns (some e0)) 12 ns (some (eLst dE 0 0))) 14 ns (some (aL dT 10 (fun _ => 0)))) 15 ns (some (aI dT 10 (fun _ => 0)))) 11 ns (some (eScr (nmL (A 6) (nF (A 6) e T) (nT (A 6) e T)) ln q12 q14 q15 999 0))) 4 0 (some e1)) 31 0 (some e2) 15 s = L 15 s := fun s w => by simp [lput, w]
  have a11 : ∀ s, s ≠ ns → lput (lput (lput (lput (lput ad 11 ns q) 12 ns q12) 14 ns q14) 15 ns q15) 31 0 b 11 s = ad 11 s := fun s w => by simp [lput, w]
  have a12 : ∀ s, s ≠ ns → lput (lput (lput (lput (lput ad 11 ns q) 12 ns q12) 14 ns q14) 15 ns q15) 31 0 b 12 s = ad 12 s := fun s w => by simp [lput, w]
  have a14 : ∀ s, s ≠ ns → lput (lput (lput (lput (lput ad 11 ns q) 12 ns q12) 14 ns q14) 15 ns q15) 31 0 b 14 s = ad 14 s := fun s w => by simp [lput, w]
  have a15 : ∀ s, s ≠ ns → lput (lput (lput (lput (lput ad 11 ns q) 12 ns q12) 14 ns q14) 15 ns q15) 31 0 b 15 s = ad 15 s := fun s w => by simp [lput, w]
  refine ⟨r1, ⟨?_, fun s hs => ?_⟩, fun p hp => ?_, r4, ?_, r6.1, ?_, ?_⟩
  · refine rLst.grown (L := lput (lput (lput (lput (lput L 11 ns (some e0)) 12 ns (some (eLst dE 0 0))) 14 ns (some (aL dT 10 (fun _ => 0)))) 15 ns (some (aI dT 10 (fun _ => 0)))) 11 ns (some (eScr (nmL (A 6) (nF (A 6) e T) (nT (A 6) e T)) ln q12 q14 q15 999 0))) (g := ad 11) (by decide) k rfl (fun v hv => a11 v (by omega)) ?_
    simp [lput]
  · by_cases w : s = ns
    · subst w
      refine ⟨?_, ⟨dE, 0, ?_, Or.inl ⟨?_, rfl⟩⟩, ⟨fun _ => 0, by simp [lput], fun k k1 k2 => ?_⟩, ⟨fun _ => 0, by simp [lput], fun k k1 k2 => ?_⟩, ?_, by rw [s23]; exact hln⟩
      · have b24 : (va_up B 24 (vp_updL (B 24) (s + 1) 1000)) 24 (s + 1) = 1000 := by show vp_updL (B 24) (s + 1) 1000 (s + 1) = _; simp [vp_updL]
        rw [sn, s23, b24, va_up_self lh]
        simp [lput, brI, bI]
      · rw [va_up_self, va_up_ne _ _ (by omega), r5.1.2.1, Nat.sub_self]
        simp [lput]
      · rw [va_up_self, va_up_ne _ _ (by omega), r5.1.2.1]; omega
      · have : scA A e T s ln 27 (10 * (s + 1) + k) = 0 := kz_in 10 (A 27) (10 * (s + 1)) (10 * (s + 1) + k) (by omega) (by omega)
        rw [kyV, if_pos this]
      · rw [va_up_self]
      · have b24 : (va_up B 24 (vp_updL (B 24) (s + 1) 1000)) 24 (s + 1) = 1000 := by show vp_updL (B 24) (s + 1) 1000 (s + 1) = _; simp [vp_updL]
        rw [b24]; decide
    · have hs : s < ns := by omega
      obtain ⟨q1, q2, ⟨g, q3, q4⟩, ⟨g', q5, q6⟩, q7, q8⟩ := r2.2 s hs
      refine ⟨?_, ?_, ⟨g, (l14 s w).trans q3, fun k k1 k2 => ?_⟩, ⟨g', (l15 s w).trans q5, fun k k1 k2 => ?_⟩, ?_, by rw [u23 s hs]; exact q8⟩
      · have b24 : (va_up B 24 (vp_updL (B 24) (ns + 1) 1000)) 24 (s + 1) = B 24 (s + 1) := by show vp_updL (B 24) (ns + 1) 1000 (s + 1) = _; simp [vp_updL, w]
        rw [n21 s hs, u23 s hs, va_up_ne lh _ (show s + 1 ≠ ns + 1 by omega), b24, a12 s w, a14 s w, a15 s w, l11 s w]
        exact q1
      · rw [va_up_ne pf _ (show s + 1 ≠ ns + 1 by omega), va_up_ne pf _ (show s ≠ ns + 1 by omega)]
        exact q2.kept (l12 s w) rfl rfl (fun k hk => rfl)
      · have k27' := k27 (10 * (s + 1) + k) (by omega)
        rw [q4 k k1 k2, kyV, kyV, k27']; rfl
      · rw [q6 k k1 k2, va_up_ne _ _ (by omega)]
      · have b24 : (va_up B 24 (vp_updL (B 24) (ns + 1) 1000)) 24 (s + 1) = B 24 (s + 1) := by show vp_updL (B 24) (ns + 1) 1000 (s + 1) = _; simp [vp_updL, w]
        rw [b24]; exact q7
  · obtain ⟨q1, q2⟩ := r3 p hp
    refine ⟨q1, fun w => ?_⟩
    obtain ⟨w1, w2, g1, g2⟩ := q2 w
    exact ⟨w1, w2, g1, rPar.str (A' := scA A e T ns ln) x rfl (fun k hk => by rcases hk with hk | hk | hk | hk | hk <;> subst hk <;> rfl) g2⟩
  · obtain ⟨⟨g1, g2, g3⟩, g4, g5, ⟨g6, g7, g8⟩, g9, g10, g11, g12⟩ := r5
    refine ⟨⟨?_, va_up_self _ _ _, fun s hs => ?_⟩, fun s p hs p1 p2 => ?_, fun p hp => ?_, ⟨Nat.le_refl _, fun c c1 c2 => by omega, fun c hc1 hc2 => ?_⟩, g9, g10, fun c hc1 => ?_, g12⟩
    · rw [va_up_ne _ _ (by omega)]; exact g1
    · by_cases w : s = ns
      · rw [w, va_up_self, va_up_ne _ _ (by omega), g2]; exact Nat.le_refl _
      · rw [va_up_ne _ _ (by omega), va_up_ne _ _ (by omega)]; exact g3 s (by omega)
    · by_cases w : s = ns
      · rw [w, va_up_self] at p2
        rw [w, va_up_ne _ _ (by omega), g2] at p1
        omega
      · rw [va_up_ne _ _ (by omega)] at p1 p2
        exact g4 s p (by omega) p1 p2
    · obtain ⟨a1, a2, a3, a4⟩ := g5 p hp
      exact ⟨a1, by omega, a3, a4⟩
    · obtain ⟨s, s1, s2⟩ := g11 c hc1
      have hc2 : A 40 c = nI (ns + 1) := hc2
      rw [s1] at hc2
      have := (nI_eq (by omega) (by omega)).mp hc2
      omega
    · obtain ⟨s, s1, s2⟩ := g11 c hc1
      exact ⟨s, s1, by omega⟩
  · intro v h1 h2
    by_cases w : v = ns + 1
    · subst w
      rw [s21, s22, nI_clamp (by omega), nI_clamp (by omega)]; exact hw
    · have e1 := u21 (v - 1) (by omega)
      have e2 := u22 (v - 1) (by omega)
      rw [show v - 1 + 1 = v by omega] at e1 e2
      rw [e1, e2]; exact r6.2.1 v h1 (by omega)
  · intro j j1 j2 j3
    by_cases w : j < 10 * (ns + 1)
    · rw [k27 j w] at j1 ⊢
      exact r6.2.2 j j1 j2 (by omega)
    · exact absurd (kz_in 10 (A 27) (10 * (ns + 1)) j (by omega) (by omega)) j1
end RPT
section RPU
variable {dT : Nat → ClassId} {dE z : Nat} {hc h0 h h' : vH} {ad0 ad ad' : Nat → Nat → Nat} {L0 L L' : vL} {A : Nat → Nat → Int32} {B : Nat → Nat → Int64} {nv ns np nc : Nat} {pf cb ce cs : Nat → Nat} {c0 : Nat} {lh : Nat → Bool} {ks : Nat → Nat → Int32}
/-- a bar's line -/
theorem RP_ba {v : Int64} (r : RP dT dE h ad L A B nv ns np nc pf cb ce cs c0 lh ks) (hns : 0 < ns) (hv1 : 0 ≤ v.toInt) (hv2 : v.toInt ≤ 999)
    (hL : L' = lput L 11 (ns - 1) (some (eScr (nmV A 21 22 ns) (A 23 ns) (ad 12 (ns - 1)) (ad 14 (ns - 1)) (ad 15 (ns - 1)) v.toInt32 (bI (lh ns))))) (x : LX h ad L h' ad L') :
    RP dT dE h' ad L' A (va_up B 24 (vp_updL (B 24) ns v)) nv ns np nc pf cb ce cs c0 lh ks := by
  obtain ⟨r1, r2, r3, r4, r5, r6⟩ := r
  have hv : v ≠ 1000 := fun q => by rw [q] at hv2; exact absurd hv2 (by decide)
  subst hL
  refine ⟨r1, ⟨r2.1, fun s hs => ?_⟩, fun p hp => ?_, r4, r5, r6⟩
  · obtain ⟨q1, q2, q3, q4, q5, q6⟩ := r2.2 s hs
    by_cases w : s = ns - 1
    · have e1 : s + 1 = ns := by omega
      have b24 : (va_up B 24 (vp_updL (B 24) ns v)) 24 (s + 1) = v := by show vp_updL (B 24) ns v (s + 1) = _; simp [vp_updL, e1]
      rw [b24]
      refine ⟨?_, q2, q3, q4, ⟨hv1, by omega⟩, q6⟩
      rw [e1, w, lput_s, brI, if_neg hv]
    · have b24 : (va_up B 24 (vp_updL (B 24) ns v)) 24 (s + 1) = B 24 (s + 1) := by show vp_updL (B 24) ns v (s + 1) = _; simp [vp_updL, show s + 1 ≠ ns by omega]
      rw [b24]
      refine ⟨?_, q2, q3, q4, q5, q6⟩
      rw [lput_j _ _ w]; exact q1
  · obtain ⟨q1, q2⟩ := r3 p hp
    refine ⟨q1, fun w => ?_⟩
    obtain ⟨w1, w2, g1, g2⟩ := q2 w
    exact ⟨w1, w2, g1, rPar.str (A' := A) x rfl (fun k hk => rfl) g2⟩
/-- a key's line -/
theorem RP_ke {e T K : Nat} {g0 : Nat → Int64} (r : RP dT dE h ad L A B nv ns np nc pf cb ce cs c0 lh ks) (hns : 0 < ns) (hK : (vNu (A 6) e T).toInt32 = nI K) (hK1 : 1 ≤ K) (hK2 : K ≤ 9) (hw : isNm (A 6) (nF (A 6) e (nT (A 6) e T)) (nT (A 6) e (nT (A 6) e T)) = true) (hT4 : nT (A 6) e (nT (A 6) e T) ≤ 4000)
    (hg : L 14 (ns - 1) = some (aL dT 10 g0)) (hL : L' = lput L 14 (ns - 1) (some (aL dT 10 (vp_updL g0 K (nmL (A 6) (nF (A 6) e (nT (A 6) e T)) (nT (A 6) e (nT (A 6) e T))))))) (x : LX h ad L h' ad L') :
    RP dT dE h' ad L' (keA A e T ns) B nv ns np nc pf cb ce cs c0 lh ks := by
  obtain ⟨r1, r2, r3, r4, r5, r6⟩ := r
  subst hL
  have hp : 0 < nT (A 6) e (nT (A 6) e T) - nF (A 6) e (nT (A 6) e T) := (isNm_at hw).1
  have eK : 10 * ns + (vNu (A 6) e T).toInt32.toNatClampNeg = 10 * ns + K := by rw [hK, nI_clamp (by omega)]
  have s26 : keA A e T ns 26 (10 * ns + K) = nI (nF (A 6) e (nT (A 6) e T)) := by show upd (A 26) _ _ _ = _; rw [eK]; exact pk_us
  have s27 : keA A e T ns 27 (10 * ns + K) = nI (nT (A 6) e (nT (A 6) e T)) := by show upd (A 27) _ _ _ = _; rw [eK]; exact pk_us
  have u26 : ∀ j, j ≠ 10 * ns + K → keA A e T ns 26 j = A 26 j := fun j hj => by show upd (A 26) _ _ _ = _; rw [eK]; exact pk_un hj
  have u27 : ∀ j, j ≠ 10 * ns + K → keA A e T ns 27 j = A 27 j := fun j hj => by show upd (A 27) _ _ _ = _; rw [eK]; exact pk_un hj
  have sk : kyV (keA A e T ns) (10 * ns + K) = nmL (A 6) (nF (A 6) e (nT (A 6) e T)) (nT (A 6) e (nT (A 6) e T)) := by
    have n0 : ¬ nI (nT (A 6) e (nT (A 6) e T)) = 0 := fun q => by
      have := (nI_eq (b := 0) (by omega) (by omega)).mp q
      omega
    rw [kyV, s26, s27, if_neg n0, nI_clamp (by omega), nI_clamp (by omega)]; rfl
  have uk : ∀ j, j ≠ 10 * ns + K → kyV (keA A e T ns) j = kyV A j := fun j hj => by rw [kyV, kyV, u26 j hj, u27 j hj]; rfl
  refine ⟨r1, ⟨r2.1, fun s hs => ?_⟩, fun p hp => ?_, r4, r5, r6.1, r6.2.1, fun j j1 j2 j3 => ?_⟩
  · obtain ⟨q1, q2, ⟨g, q3, q4⟩, q5⟩ := r2.2 s hs
    refine ⟨q1, q2, ?_, q5⟩
    by_cases w : s = ns - 1
    · have e1 : s + 1 = ns := by omega
      rw [w, hg] at q3
      injection q3 with q3
      injection q3 with q3
      injection q3 with _ q3
      injection q3 with _ q3
      injection q3 with q3
      injection q3 with q3
      subst q3
      refine ⟨_, by rw [w]; exact lput_s _ _ _ _, fun k k1 k2 => ?_⟩
      rw [e1]
      by_cases y : k = K
      · rw [y, sk]; simp [vp_updL]
      · rw [uk _ (by omega)]
        have := q4 k k1 k2
        rw [e1] at this
        rw [← this]; simp [vp_updL, y]
    · refine ⟨g, (lput_j L _ w).trans q3, fun k k1 k2 => ?_⟩
      rw [q4 k k1 k2, uk _ (by omega)]
  · obtain ⟨q1, q2⟩ := r3 p hp
    refine ⟨q1, fun w => ?_⟩
    obtain ⟨w1, w2, g1, g2⟩ := q2 w
    exact ⟨w1, w2, g1, rPar.str (A' := keA A e T ns) x rfl (fun k hk => by rcases hk with hk | hk | hk | hk | hk <;> subst hk <;> rfl) g2⟩
  · by_cases w : j = 10 * ns + K
    · rw [w, s26, s27, nI_clamp (by omega), nI_clamp (by omega)]; exact hw
    · rw [u27 j w] at j1
      rw [u26 j w, u27 j w]; exact r6.2.2 j j1 j2 j3
/-- an if line -/
theorem RP_co {e T q v : Nat} {op nu : Int32} (r : RP dT dE h ad L A B nv ns np nc pf cb ce cs c0 lh ks) (hns : ns ≤ 30) (hnc : nc ≤ 600) (hnv : nv ≤ 40) (hnp : np ≤ 600) (hv : fV A nv (nF (A 6) e T) (nT (A 6) e T) = v) (hv1 : 1 ≤ v) (hv2 : v ≤ nv) (hop : A 6 (nF (A 6) e (nT (A 6) e T)) = op) (hnu : (vNu (A 6) e (nT (A 6) e (nT (A 6) e T))).toInt32 = nu) (hnu2 : nu.toInt64 = vNu (A 6) e (nT (A 6) e (nT (A 6) e T)))
    (had : ad' = lput ad 17 nc q) (hL : L' = lput L 17 nc (some (eCon (ad 10 (v - 1)) op nu (chn ad c0 nc)))) (x : LX h ad L h' ad' L') :
    RP dT dE h' ad' L' (coA A e T nv nc (nI ns)) (va_up B 44 (vp_updL (B 44) nc (vNu (A 6) e (nT (A 6) e (nT (A 6) e T))))) nv ns np (nc + 1) pf cb ce (va_up cs nc c0) c0 lh ks := by
  obtain ⟨r1, r2, r3, r4, r5, r6⟩ := r
  obtain ⟨⟨g1, g2, g3⟩, g4, g5, ⟨g6, g7, g8⟩, g9, g10, g11, g12⟩ := r5
  subst had hL
  have s40 : coA A e T nv nc (nI ns) 40 nc = nI ns := pk_us (f := A 40)
  have s41 : coA A e T nv nc (nI ns) 41 nc = -1 := pk_us (f := A 41)
  have s42 : coA A e T nv nc (nI ns) 42 nc = nI v := by rw [← hv]; exact pk_us (f := A 42)
  have s43 : coA A e T nv nc (nI ns) 43 nc = op := by rw [← hop]; exact pk_us (f := A 43)
  have u40 : ∀ c, c ≠ nc → coA A e T nv nc (nI ns) 40 c = A 40 c := fun c hc => pk_un (f := A 40) hc
  have u41 : ∀ c, c ≠ nc → coA A e T nv nc (nI ns) 41 c = A 41 c := fun c hc => pk_un (f := A 41) hc
  have u42 : ∀ c, c ≠ nc → coA A e T nv nc (nI ns) 42 c = A 42 c := fun c hc => pk_un (f := A 42) hc
  have u43 : ∀ c, c ≠ nc → coA A e T nv nc (nI ns) 43 c = A 43 c := fun c hc => pk_un (f := A 43) hc
  have a17 : ∀ c, c < nc → lput ad 17 nc q 17 c = ad 17 c := fun c hc => lput_j ad q (by omega)
  have mI : ∀ p : Nat, p ≤ 600 → ¬ (-1 : Int32) = nI p := fun p hp w => by
    have := congrArg Int32.toInt w
    rw [nI_toInt (by omega), show (-1 : Int32).toInt = -1 from rfl] at this
    omega
  refine ⟨r1, r2, fun p hp => ?_, fun c hc => ?_, ⟨⟨g1, g2, g3⟩, g4, fun p hp => ?_, ⟨by omega, fun c c1 c2 => ?_, fun c c1 c2 => ?_⟩, fun c hc => ?_, g10, fun c hc => ?_, fun c hc => ?_⟩, r6⟩
  · obtain ⟨q1, q2⟩ := r3 p hp
    have ec : chn (lput ad 17 nc q) (cb p) (ce p) = chn ad (cb p) (ce p) := by
      rw [chn, chn]
      by_cases y : cb p < ce p
      · rw [if_pos y, if_pos y, a17 _ (by have := g5 p hp; omega)]
      · rw [if_neg y, if_neg y]
    rw [ec]
    refine ⟨q1, fun w => ?_⟩
    obtain ⟨w1, w2, g1, g2⟩ := q2 w
    exact ⟨w1, w2, g1, rPar.str (A' := coA A e T nv nc (nI ns)) x rfl (fun k hk => by rcases hk with hk | hk | hk | hk | hk <;> subst hk <;> rfl) g2⟩
  · by_cases w : c = nc
    · subst w
      have b44 : (va_up B 44 (vp_updL (B 44) c (vNu (A 6) e (nT (A 6) e (nT (A 6) e T))))) 44 c = vNu (A 6) e (nT (A 6) e (nT (A 6) e T)) := by show vp_updL (B 44) c _ c = _; simp [vp_updL]
      rw [b44, hnu]
      refine ⟨?_, hnu2⟩
      rw [s42, s43, va_up_self, lput_s, nI_clamp (by omega)]
      have ec : (if c0 < c then some (lput ad 17 c q 17 (c - 1)) else none) = chn ad c0 c := by
        rw [chn]
        by_cases y : c0 < c
        · rw [if_pos y, if_pos y, a17 _ (by omega)]
        · rw [if_neg y, if_neg y]
      rw [ec]; rfl
    · have b44 : (va_up B 44 (vp_updL (B 44) nc (vNu (A 6) e (nT (A 6) e (nT (A 6) e T))))) 44 c = B 44 c := by show vp_updL (B 44) nc _ c = _; simp [vp_updL, w]
      rw [u42 c w, u43 c w, b44, va_up_ne cs _ w, a17 (c - 1) (by omega), lput_j _ _ w]
      exact r4 c (by omega)
  · obtain ⟨a1, a2, a3, a4⟩ := g5 p hp
    refine ⟨a1, a2, fun c c1 c2 => ?_, fun c hc => ?_⟩
    · rw [va_up_ne _ _ (by omega)]; exact a3 c c1 c2
    · by_cases w : c = nc
      · rw [w, s41]
        exact ⟨fun y => absurd y (mI p (by omega)), fun y => by omega⟩
      · rw [u41 c w]; exact a4 c (by omega)
  · by_cases w : c = nc
    · rw [w, s40, s41, va_up_self]; exact ⟨rfl, rfl, rfl⟩
    · rw [u40 c w, u41 c w, va_up_ne _ _ w]; exact g7 c c1 (by omega)
  · rw [u40 c (by omega)] at c2
    rw [u41 c (by omega)]; exact g8 c c1 c2
  · by_cases w : c = nc
    · rw [w, s42]; exact ⟨v, rfl, hv1, hv2⟩
    · rw [u42 c w]; exact g9 c (by omega)
  · by_cases w : c = nc
    · rw [w, s40]; exact ⟨ns, rfl, Nat.le_refl _⟩
    · rw [u40 c w]; exact g11 c (by omega)
  · by_cases w : c = nc
    · rw [w, s41]; exact Or.inl rfl
    · rw [u41 c w]; exact g12 c (by omega)
theorem pq_at (os f : Nat → Int32) (s v : Int32) : ∀ n c, pq os f s v n c = if c < n ∧ os c = s ∧ f c < 0 then v else f c := by
  intro n
  induction n with
  | zero => intro c; rw [pq, if_neg (fun q => Nat.not_lt_zero _ q.1)]
  | succ n ih =>
    intro c
    have e : pq os f s v n n = f n := by rw [ih n, if_neg (fun q => Nat.lt_irrefl _ q.1)]
    rw [pq, e]
    by_cases w : os n = s ∧ f n < 0
    · rw [if_pos w]
      by_cases y : c = n
      · rw [y, pk_us, if_pos ⟨Nat.lt_succ_self _, w⟩]
      · rw [pk_un y, ih c]
        by_cases u : c < n ∧ os c = s ∧ f c < 0
        · rw [if_pos u, if_pos ⟨by omega, u.2⟩]
        · rw [if_neg u, if_neg (fun q => u ⟨by omega, q.2⟩)]
    · rw [if_neg w, ih c]
      by_cases u : c < n ∧ os c = s ∧ f c < 0
      · rw [if_pos u, if_pos ⟨by omega, u.2⟩]
      · rw [if_neg u, if_neg (fun q => u ⟨by
          by_cases y : c = n
          · rw [y] at q; exact absurd q.2 w
          · omega, q.2⟩)]
/-- a put, say or show line: what is common -/
theorem RP_pa {q b : Nat} {ep e1 e2 : va_E} {A' : Nat → Nat → Int32} (r : RP dT dE h ad L A B nv ns np nc pf cb ce cs c0 lh ks) (hns : 0 < ns) (hns2 : ns ≤ 30) (hnc : nc ≤ 600) (hnp : np ≤ 600) (hnv : nv ≤ 40)
    (had : ad' = lput (lput ad 16 np q) 13 (ns - 1) b) (hL : L' = lput (lput (lput L 16 np (some ep)) 12 (ns - 1) (some e1)) 13 (ns - 1) (some e2)) (x : LX h ad L h' ad' L')
    (k : ∃ ea' md' cap' f', e1 = eLst ea' (np - pf (ns - 1) + 1) md' ∧ b = ea' ∧ e2 = aR dT cap' f' ∧ (np - pf (ns - 1) + 1 ≤ cap' ∧ cap' ≤ 2000) ∧ (∀ k, k < np - pf (ns - 1) → f' k = some (ad 16 (pf (ns - 1) + k))) ∧ f' (np - pf (ns - 1)) = some q)
    (hA : ∀ k, (k < 29 ∨ 41 < k ∨ k = 39 ∨ k = 40) → A' k = A k) (h41 : A' 41 = pq (A 40) (A 41) (nI ns) (nI np) nc) (hu : ∀ k, (k = 30 ∨ k = 31 ∨ k = 32 ∨ k = 33 ∨ k = 34 ∨ k = 35 ∨ k = 36 ∨ k = 37 ∨ k = 38 ∨ k = 29) → ∀ p, p ≠ np → A' k p = A k p) (s29 : A' 29 np = nI ns) (h33 : A' 30 np = 2 → ∃ v, A' 33 np = nI v ∧ 1 ≤ v ∧ v ≤ nv)
    (hp1 : A' 30 np = 2 → ep = eSho (A' 31 np) (A' 32 np) (chn ad c0 nc) (ad 10 ((A' 33 np).toNatClampNeg - 1)) (A' 34 np))
    (hp2 : ¬ A' 30 np = 2 → ∃ w1 w2, ep = ePut (A' 31 np) (A' 32 np) (chn ad c0 nc) w1 w2 ∧ wStr dT h' ad' L' (A' 6) w1 (A' 35 np).toNatClampNeg (A' 36 np).toNatClampNeg ∧ if ownB A' np = true then wStr dT h' ad' L' (A' 6) w2 (A' 37 np).toNatClampNeg (A' 38 np).toNatClampNeg else w2 = w1) :
    RP dT dE h' ad' L' A' B nv ns (np + 1) nc (va_up pf ns (np + 1)) (va_up cb np c0) (va_up ce np nc) cs nc lh ks := by
  obtain ⟨r1, r2, r3, r4, r5, r6⟩ := r
  obtain ⟨⟨g1, g2, g3⟩, g4, g5, ⟨g6, g7, g8⟩, g9, g10, g11, g12⟩ := r5
  have e6 := hA 6 (by omega)
  have e13 := hA 13 (by omega)
  have e14 := hA 14 (by omega)
  have e15 := hA 15 (by omega)
  have e19 := hA 19 (by omega)
  have e21 := hA 21 (by omega)
  have e22 := hA 22 (by omega)
  have e23 := hA 23 (by omega)
  have e26 := hA 26 (by omega)
  have e27 := hA 27 (by omega)
  have e40 := hA 40 (by omega)
  have e42 := hA 42 (by omega)
  have e43 := hA 43 (by omega)
  have nm : ∀ j k v, A' j = A j → A' k = A k → nmV A' j k v = nmV A j k v := fun j k v q1 q2 => by rw [nmV, nmV, q1, q2, e6]
  have ky : ∀ j, kyV A' j = kyV A j := fun j => by rw [kyV, kyV, e26, e27, e6]
  have v41 : ∀ c, c < nc → A' 41 c = if c0 ≤ c then nI np else A 41 c := fun c hc => by
    rw [h41, pq_at]
    by_cases w : c0 ≤ c
    · have := g7 c w hc
      rw [if_pos w, if_pos ⟨hc, this.1, by rw [this.2.1]; decide⟩]
    · rw [if_neg w, if_neg (fun y => g8 c (by omega) y.2.1 y.2.2)]
  have pfs : ∀ s, s < ns → pf s ≤ np := by
    intro s hs
    have : ∀ d s, s + d = ns → pf s ≤ pf ns := by
      intro d
      induction d with
      | zero => intro s e; rw [show s = ns by omega]; exact Nat.le_refl _
      | succ d ih => intro s e; exact Nat.le_trans (g3 s (by omega)) (ih (s + 1) (by omega))
    rw [← g2]; exact this (ns - s) s (by omega)
  subst had hL
  have a16 : ∀ p, p < np → lput (lput ad 16 np q) 13 (ns - 1) b 16 p = ad 16 p := fun p hp => by simp [lput, show p ≠ np by omega]
  refine ⟨⟨r1.1, fun v hv => ?_⟩, ⟨r2.1, fun s hs => ?_⟩, fun p hp => ?_, fun c hc => ?_, ⟨⟨?_, va_up_self _ _ _, fun s hs => ?_⟩, fun s p hs p1 p2 => ?_, fun p hp => ?_, ⟨Nat.le_refl _, fun c c1 c2 => by omega, fun c c1 c2 => ?_⟩, fun c hc => ?_, fun p hp w => ?_, fun c hc => ?_, fun c hc => ?_⟩, fun v h1 h2 => ?_, fun v h1 h2 => ?_, fun j j1 j2 j3 => ?_⟩
  · rw [nm 13 14 _ e13 e14, e15, e19]; exact r1.2 v hv
  · obtain ⟨q1, q2, ⟨g, q3, q4⟩, q5⟩ := r2.2 s hs
    rw [nm 21 22 _ e21 e22, e23]
    by_cases w : s = ns - 1
    · have e1' : s + 1 = ns := by omega
      refine ⟨q1, ?_, ⟨g, q3, fun k k1 k2 => by rw [ky]; exact q4 k k1 k2⟩, q5⟩
      rw [e1', va_up_self pf, va_up_ne pf _ (show s ≠ ns by omega), show np + 1 - pf s = np - pf (ns - 1) + 1 by rw [w]; have := pfs (ns - 1) (by omega); omega]
      rw [w]
      refine rLst.grown (L := lput L 16 np (some ep)) (g := fun k => ad 16 (pf (ns - 1) + k)) (by decide) k rfl (fun k hk => ?_) ?_
      · exact a16 _ (by omega)
      · have := pfs (ns - 1) (by omega)
        show lput (lput ad 16 np q) 13 (ns - 1) b 16 (pf (ns - 1) + (np - pf (ns - 1))) = q
        rw [show pf (ns - 1) + (np - pf (ns - 1)) = np by omega]
        simp [lput]
    · refine ⟨q1, ?_, ⟨g, q3, fun k k1 k2 => by rw [ky]; exact q4 k k1 k2⟩, q5⟩
      rw [va_up_ne pf _ (show s + 1 ≠ ns by omega), va_up_ne pf _ (show s ≠ ns by omega)]
      refine q2.kept (by simp [lput, w]) (by simp [lput, w]) (by simp [lput, w]) (fun k hk => a16 _ ?_)
      have := pfs (s + 1) (by omega)
      omega
  · by_cases w : p = np
    · subst w
      have ec : chn (lput (lput ad 16 p q) 13 (ns - 1) b) (va_up cb p c0 p) (va_up ce p nc p) = chn ad c0 nc := by rw [va_up_self, va_up_self]; rfl
      rw [ec]
      have l16 : lput (lput (lput L 16 p (some ep)) 12 (ns - 1) (some e1)) 13 (ns - 1) (some e2) 16 p = some ep := by simp [lput]
      refine ⟨fun y => ?_, fun y => ?_⟩
      · rw [l16, hp1 y]; rfl
      · obtain ⟨w1, w2, y1, y2⟩ := hp2 y
        exact ⟨w1, w2, by rw [l16, y1], y2⟩
    · have ec : chn (lput (lput ad 16 np q) 13 (ns - 1) b) (va_up cb np c0 p) (va_up ce np nc p) = chn ad (cb p) (ce p) := by rw [va_up_ne _ _ w, va_up_ne _ _ w]; rfl
      have l16 : lput (lput (lput L 16 np (some ep)) 12 (ns - 1) (some e1)) 13 (ns - 1) (some e2) 16 p = L 16 p := by simp [lput, w]
      rw [ec, l16, hu 30 (by simp) p w, hu 31 (by simp) p w, hu 32 (by simp) p w, hu 33 (by simp) p w, hu 34 (by simp) p w]
      obtain ⟨q1, q2⟩ := r3 p (by omega)
      refine ⟨q1, fun y => ?_⟩
      obtain ⟨w1, w2, y1, y2⟩ := q2 y
      refine ⟨w1, w2, y1, rPar.str (A' := A') x e6 (fun k hk => hu k ?_ p w) y2⟩
      rcases hk with hk | hk | hk | hk | hk <;> subst hk <;> simp
  · rw [e42, e43]; exact r4 c hc
  · rw [va_up_ne _ _ (by omega)]; exact g1
  · by_cases w : s + 1 = ns
    · rw [w, va_up_self, va_up_ne _ _ (by omega)]
      have := pfs s hs
      omega
    · rw [va_up_ne _ _ w, va_up_ne _ _ (by omega)]; exact g3 s hs
  · by_cases w : p = np
    · rw [w, s29]
      by_cases y : s + 1 = ns
      · rw [y]
      · rw [va_up_ne _ _ y] at p2
        have := pfs (s + 1) (by omega)
        omega
    · rw [hu 29 (by simp) p w]
      rw [va_up_ne _ _ (by omega)] at p1
      by_cases y : s + 1 = ns
      · rw [y, va_up_self] at p2
        exact g4 s p hs p1 (by rw [y, g2]; omega)
      · rw [va_up_ne _ _ y] at p2
        exact g4 s p hs p1 p2
  · by_cases w : p = np
    · rw [w, va_up_self, va_up_self]
      refine ⟨g6, Nat.le_refl _, fun c c1 c2 => (g7 c c1 c2).2.2, fun c hc => ?_⟩
      rw [v41 c hc]
      by_cases y : c0 ≤ c
      · rw [if_pos y]; exact ⟨fun _ => ⟨y, hc⟩, fun _ => rfl⟩
      · rw [if_neg y]
        refine ⟨fun u => ?_, fun u => by omega⟩
        rcases g12 c hc with v | ⟨p', p1, p2⟩
        · rw [v] at u
          have := congrArg Int32.toInt u
          rw [nI_toInt (by omega), show (-1 : Int32).toInt = -1 from rfl] at this
          omega
        · rw [p2] at u
          have := (nI_eq (by omega) (by omega)).mp u
          omega
    · obtain ⟨a1, a2, a3, a4⟩ := g5 p (by omega)
      rw [va_up_ne _ _ w, va_up_ne _ _ w]
      refine ⟨a1, by omega, a3, fun c hc => ?_⟩
      rw [v41 c hc]
      by_cases y : c0 ≤ c
      · rw [if_pos y]
        refine ⟨fun u => ?_, fun u => by omega⟩
        have := (nI_eq (by omega) (by omega)).mp u
        omega
      · rw [if_neg y]; exact a4 c hc
  · rw [e40] at c2
    rw [v41 c c1]
    by_cases y : c0 ≤ c
    · rw [if_pos y]
      intro u
      have := Int32.lt_iff_toInt_lt.mp u
      rw [nI_toInt (by omega), show (0 : Int32).toInt = 0 from rfl] at this
      omega
    · rw [if_neg y]; exact g8 c (by omega) c2
  · rw [e42]; exact g9 c hc
  · by_cases y : p = np
    · rw [y] at w ⊢; exact h33 w
    · rw [hu 30 (by simp) p y] at w
      rw [hu 33 (by simp) p y]; exact g10 p (by omega) w
  · rw [e40]; exact g11 c hc
  · rw [v41 c hc]
    by_cases y : c0 ≤ c
    · rw [if_pos y]; exact Or.inr ⟨np, by omega, rfl⟩
    · rw [if_neg y]
      rcases g12 c hc with v | ⟨p', p1, p2⟩
      · exact Or.inl v
      · exact Or.inr ⟨p', by omega, p2⟩
  · rw [e6, e13, e14]; exact r6.1 v h1 h2
  · rw [e6, e21, e22]; exact r6.2.1 v h1 h2
  · rw [e27] at j1
    rw [e6, e26, e27]; exact r6.2.2 j j1 j2 j3
end RPU
