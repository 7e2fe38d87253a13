section RPW
variable {dT : Nat → ClassId} {dE : Nat} {h h' : vH} {ad ad' : Nat → Nat → Nat} {L L' : vL} {A : Nat → Nat → Int32} {B : Nat → Nat → Int64} {nv ns np nc : Nat} {pf cb ce cs : Nat → Nat} {c0 : Nat} {lh : Nat → Bool} {ks : Nat → Nat → Int32}
theorem paA_o {e T : Nat} {p1 sc pv : Int32} {k : Nat} (hk : k < 29 ∨ 41 < k ∨ k = 39 ∨ k = 40) : paA A e T nv np nc p1 sc pv k = A k := by
  unfold paA
  split <;> simp only [va_up] <;> repeat rw [if_neg (by omega)]
theorem paA_u {e T : Nat} {p1 sc pv : Int32} {k : Nat} (hk : k = 30 ∨ k = 31 ∨ k = 32 ∨ k = 33 ∨ k = 34 ∨ k = 35 ∨ k = 36 ∨ k = 37 ∨ k = 38 ∨ k = 29) (p : Nat) (hp : p ≠ np) : paA A e T nv np nc p1 sc pv k p = A k p := by
  unfold paA
  split <;> rcases hk with rfl | rfl | rfl | rfl | rfl | rfl | rfl | rfl | rfl | rfl <;> simp [va_up, upd, hp]
theorem paA_41 {e T : Nat} {p1 sc pv : Int32} : paA A e T nv np nc p1 sc pv 41 = pq (A 40) (A 41) sc pv nc := by
  unfold paA
  split <;> rfl
theorem paA_29 {e T : Nat} {p1 sc pv : Int32} : paA A e T nv np nc p1 sc pv 29 np = sc ∧ paA A e T nv np nc p1 sc pv 30 np = p1 ∧ paA A e T nv np nc p1 sc pv 31 np = (vNu (A 6) e T).toInt32 ∧ paA A e T nv np nc p1 sc pv 32 np = (vNu (A 6) e (nT (A 6) e T)).toInt32 := by
  unfold paA
  split <;> simp [va_up, upd]
theorem paA_2 {e T : Nat} {sc pv : Int32} : paA A e T nv np nc 2 sc pv 33 np = nI (fV A nv (nF (A 6) e (nT3 (A 6) e T)) (nT4 (A 6) e T)) ∧ paA A e T nv np nc 2 sc pv 34 np = (vNu (A 6) e (nT2 (A 6) e T)).toInt32 := by
  unfold paA
  simp [va_up, upd]
theorem paA_w {e T : Nat} {p1 sc pv : Int32} (h2 : ¬ p1 = 2) : paA A e T nv np nc p1 sc pv 35 np = nI (nF (A 6) e (nT2 (A 6) e T)) ∧ paA A e T nv np nc p1 sc pv 36 np = nI (nT3 (A 6) e T) ∧ paA A e T nv np nc p1 sc pv 37 np = (if p1 = 1 then nI (nF (A 6) e (nT3 (A 6) e T)) else nI (nF (A 6) e (nT2 (A 6) e T))) ∧ paA A e T nv np nc p1 sc pv 38 np = (if p1 = 1 then nI (nT4 (A 6) e T) else nI (nT3 (A 6) e T)) := by
  unfold paA
  rw [if_neg h2]
  simp [va_up, upd]
/-- a show line -/
theorem RP_pa2 {e T q b v : Nat} {e1 e2 : va_E} (r : RP dT dE h ad L A B nv ns np nc pf cb ce cs c0 lh ks) (hns : 0 < ns) (hns2 : ns ≤ 30) (hnc : nc ≤ 600) (hnp : np ≤ 600) (hnv : nv ≤ 40) (hv : fV A nv (nF (A 6) e (nT3 (A 6) e T)) (nT4 (A 6) e T) = v) (hv1 : 1 ≤ v) (hv2 : v ≤ nv)
    (had : ad' = lput (lput ad 16 np q) 13 (ns - 1) b) (hL : L' = lput (lput (lput L 16 np (some (eSho (vNu (A 6) e T).toInt32 (vNu (A 6) e (nT (A 6) e T)).toInt32 (chn ad c0 nc) (ad 10 (v - 1)) (vNu (A 6) e (nT2 (A 6) e T)).toInt32))) 12 (ns - 1) (some e1)) 13 (ns - 1) (some e2)) (x : LX h ad L h' ad' L')
    (k : ∃ ea' md' cap' f', e1 = eLst ea' (np - pf (ns - 1) + 1) md' ∧ b = ea' ∧ e2 = aR dT cap' f' ∧ (np - pf (ns - 1) + 1 ≤ cap' ∧ cap' ≤ 2000) ∧ (∀ k, k < np - pf (ns - 1) → f' k = some (ad 16 (pf (ns - 1) + k))) ∧ f' (np - pf (ns - 1)) = some q) :
    RP dT dE h' ad' L' (paA A e T nv np nc 2 (nI ns) (nI np)) B nv ns (np + 1) nc (va_up pf ns (np + 1)) (va_up cb np c0) (va_up ce np nc) cs nc lh ks := by
  obtain ⟨a29, a30, a31, a32⟩ := paA_29 (A := A) (nv := nv) (np := np) (nc := nc) (e := e) (T := T) (p1 := 2) (sc := nI ns) (pv := nI np)
  obtain ⟨a33, a34⟩ := paA_2 (A := A) (nv := nv) (np := np) (nc := nc) (e := e) (T := T) (sc := nI ns) (pv := nI np)
  refine RP_pa r hns hns2 hnc hnp hnv had hL x k (fun k hk => paA_o hk) paA_41 (fun k hk p hp => paA_u hk p hp) a29 (fun _ => ⟨v, by rw [a33, hv], hv1, hv2⟩) (fun _ => ?_) (fun w => absurd a30 w)
  rw [a31, a32, a33, a34, hv, nI_clamp (by omega)]
/-- a put line (p1 = 0), a say line (p1 = 1): w1, w2 its words -/
theorem RP_paw {e T q b w1 w2 : Nat} {p1 : Int32} {e1 e2 : va_E} (r : RP dT dE h ad L A B nv ns np nc pf cb ce cs c0 lh ks) (hns : 0 < ns) (hns2 : ns ≤ 30) (hnc : nc ≤ 600) (hnp : np ≤ 600) (hnv : nv ≤ 40) (hp1 : p1 = 0 ∨ p1 = 1) (b1 : nF (A 6) e (nT2 (A 6) e T) ≤ 4000) (b2 : nT3 (A 6) e T ≤ 4000) (b3 : nF (A 6) e (nT3 (A 6) e T) ≤ 4000) (b4 : nT4 (A 6) e T ≤ 4000)
    (had : ad' = lput (lput ad 16 np q) 13 (ns - 1) b) (hL : L' = lput (lput (lput L 16 np (some (ePut (vNu (A 6) e T).toInt32 (vNu (A 6) e (nT (A 6) e T)).toInt32 (chn ad c0 nc) w1 w2))) 12 (ns - 1) (some e1)) 13 (ns - 1) (some e2)) (x : LX h ad L h' ad' L')
    (k : ∃ ea' md' cap' f', e1 = eLst ea' (np - pf (ns - 1) + 1) md' ∧ b = ea' ∧ e2 = aR dT cap' f' ∧ (np - pf (ns - 1) + 1 ≤ cap' ∧ cap' ≤ 2000) ∧ (∀ k, k < np - pf (ns - 1) → f' k = some (ad 16 (pf (ns - 1) + k))) ∧ f' (np - pf (ns - 1)) = some q)
    (s1 : wStr dT h' ad' L' (A 6) w1 (nF (A 6) e (nT2 (A 6) e T)) (nT3 (A 6) e T)) (s2 : if p1 = 1 ∧ ¬ (nT4 (A 6) e T - nF (A 6) e (nT3 (A 6) e T) = 1 ∧ A 6 (nF (A 6) e (nT3 (A 6) e T)) = 45) then wStr dT h' ad' L' (A 6) w2 (nF (A 6) e (nT3 (A 6) e T)) (nT4 (A 6) e T) else w2 = w1) :
    RP dT dE h' ad' L' (paA A e T nv np nc p1 (nI ns) (nI np)) B nv ns (np + 1) nc (va_up pf ns (np + 1)) (va_up cb np c0) (va_up ce np nc) cs nc lh ks := by
  have n2 : ¬ p1 = 2 := by rcases hp1 with rfl | rfl <;> decide
  obtain ⟨a29, a30, a31, a32⟩ := paA_29 (A := A) (nv := nv) (np := np) (nc := nc) (e := e) (T := T) (p1 := p1) (sc := nI ns) (pv := nI np)
  obtain ⟨a35, a36, a37, a38⟩ := paA_w (A := A) (nv := nv) (np := np) (nc := nc) (e := e) (T := T) (sc := nI ns) (pv := nI np) n2
  have a6 : paA A e T nv np nc p1 (nI ns) (nI np) 6 = A 6 := paA_o (by omega)
  refine RP_pa r hns hns2 hnc hnp hnv had hL x k (fun k hk => paA_o hk) paA_41 (fun k hk p hp => paA_u hk p hp) a29 (fun w => absurd (by rw [← a30]; exact w) n2) (fun w => absurd (by rw [← a30]; exact w) n2) (fun _ => ⟨w1, w2, ?_, ?_, ?_⟩)
  · rw [a31, a32]
  · rw [a35, a36, a6, nI_clamp (by omega), nI_clamp (by omega)]; exact s1
  · have eo : ownB (paA A e T nv np nc p1 (nI ns) (nI np)) np = decide (p1 = 1 ∧ ¬ (nT4 (A 6) e T - nF (A 6) e (nT3 (A 6) e T) = 1 ∧ A 6 (nF (A 6) e (nT3 (A 6) e T)) = 45)) := by
      rw [ownB, a30, a37, a38, a6]
      rcases hp1 with rfl | rfl
      · rfl
      · rw [if_pos rfl, if_pos rfl, nI_clamp (by omega), nI_clamp (by omega)]
        by_cases y1 : nT4 (A 6) e T - nF (A 6) e (nT3 (A 6) e T) = 1
        · by_cases y2 : A 6 (nF (A 6) e (nT3 (A 6) e T)) = 45
          · simp [y1, y2]
          · simp [y1, y2]
        · simp [y1]
    rw [eo]
    by_cases y : p1 = 1 ∧ ¬ (nT4 (A 6) e T - nF (A 6) e (nT3 (A 6) e T) = 1 ∧ A 6 (nF (A 6) e (nT3 (A 6) e T)) = 45)
    · rw [if_pos y] at s2
      rw [if_pos (decide_eq_true y), a37, a38, a6, if_pos y.1, if_pos y.1, nI_clamp (by omega), nI_clamp (by omega)]; exact s2
    · rw [if_neg y] at s2
      rw [if_neg (by rw [decide_eq_false y]; decide)]; exact s2
end RPW
