theorem ptOK_eq {A A' : Nat → Nat → Int32} {B B' : Nat → Nat → Int64} {p : Nat} (h : ptOK A B p) (e : ∀ k, (k = 30 ∨ k = 32 ∨ k = 33 ∨ k = 34 ∨ k = 35 ∨ k = 36 ∨ k = 37 ∨ k = 38) → A' k p = A k p) (hs : ∀ v, smL (B' 18 v)) : ptOK A' B' p := by
  obtain ⟨⟨c0, h1, h2⟩, h3, h4⟩ := h
  refine ⟨⟨c0, by rw [e 32 (by simp)]; exact h1, h2⟩, fun q => ?_, fun q => ?_⟩
  · rw [e 30 (by simp)] at q
    obtain ⟨w, v, a1, a2, a3, a4, a5, -⟩ := h3 q
    exact ⟨w, v, by rw [e 34 (by simp)]; exact a1, a2, a3, by rw [e 33 (by simp)]; exact a4, a5, hs v⟩
  · rw [e 30 (by simp)] at q
    obtain ⟨q1, q2, q3, q4, a1, a2, a3, a4, a5, a6, a7⟩ := h4 q
    exact ⟨q1, q2, q3, q4, by rw [e 35 (by simp)]; exact a1, by rw [e 36 (by simp)]; exact a2, a3, a4, by rw [e 37 (by simp)]; exact a5, by rw [e 38 (by simp)]; exact a6, a7⟩
theorem keyP_eq {A A' : Nat → Nat → Int32} (h : keyP A) (e1 : A' 26 = A 26) (e2 : A' 27 = A 27) : keyP A' := by
  intro q hq
  rw [e1, e2]; rw [e2] at hq; exact h q hq
theorem smL_0 : smL 0 := ⟨by decide, by decide⟩
section PIS
variable {f : Nat → Int32} {nv ns np nc b e T : Nat} {A : Nat → Nat → Int32} {B : Nat → Nat → Int64}
theorem PI_mono {P : PS} {b b' : Nat} (h : PI f P b) (hb : b ≤ b') : PI f P b' := by
  obtain ⟨h1, h2, h3, h4⟩ := h
  exact ⟨h1, h2, Nat.le_trans h3 hb, h4⟩
theorem PI_va {p1 : Int32} (hI : PI f (nv, ns, np, nc, A, B) b) (hb : b ≤ e + 1) (he : e ≤ 4000) (hT : T ≤ e) (ok : okVa A e T nv p1 = true) : PI f (nv + 1, ns, np, nc, vaA A e T nv p1, vaB A B e T nv p1) (e + 1) := by
  obtain ⟨h1, h2, h3, h4, h5, h6, h7, h8, h9, h10⟩ := hI
  dsimp only at h1 h2 h3 h4 h5 h6 h7 h8 h9 h10
  unfold okVa at ok
  rw [Bool.and_eq_true, Bool.and_eq_true, Bool.and_eq_true] at ok
  obtain ⟨o1, o2, o3, o4⟩ := ok
  have o3 : nv ≠ 40 := of_decide_eq_true o3
  have hs : ∀ v, smL (vaB A B e T nv p1 18 v) := by
    intro v
    show smL (vp_updL (B 18) (nv + 1) (if p1 = 0 then 0 else vNu (A 6) e (nT3 (A 6) e T)) v)
    by_cases q : v = nv + 1
    · subst q
      rw [pk_uLs]
      by_cases z : p1 = 0
      · rw [if_pos z]; exact smL_0
      · rw [if_neg z] at o4 ⊢
        rw [Bool.and_eq_true, Bool.and_eq_true, Bool.and_eq_true] at o4
        obtain ⟨r1, r2, r3, -⟩ := o4
        exact smL_in (cNu_in r1).1 (cNu_in r3).1 (cNu_in r3).2 (cNu_in r2).2
    · rw [pk_uLn q]; exact h10 v
  exact ⟨by show nv + 1 ≤ 40; omega, h2, by show 8 * (np + nc) ≤ e + 1; omega, h4, rngP_up h5 rfl rfl (nT_in _ hT).1 (Nat.le_trans (nT_in _ hT).2 he), rngP_eq h6 rfl rfl, keyP_eq h7 rfl rfl, fun p hp => ptOK_eq (h8 p hp) (fun k hk => by rcases hk with rfl | rfl | rfl | rfl | rfl | rfl | rfl | rfl <;> rfl) hs, h9, hs⟩
theorem PI_sc {ln : Int32} {B' : Nat → Nat → Int64} (hI : PI f (nv, ns, np, nc, A, B) b) (hb : b ≤ e + 1) (he : e ≤ 4000) (hT : T ≤ e) (ok : okSc A e T ns = true) (hB : B' 18 = B 18) : PI f (nv, ns + 1, np, nc, scA A e T ns ln, B') (e + 1) := by
  obtain ⟨h1, h2, h3, h4, h5, h6, h7, h8, h9, h10⟩ := hI
  dsimp only at h1 h2 h3 h4 h5 h6 h7 h8 h9 h10
  unfold okSc at ok
  rw [Bool.and_eq_true, Bool.and_eq_true, Bool.and_eq_true] at ok
  obtain ⟨o1, o2, o3, o4⟩ := ok
  have o3 : ns ≠ 30 := of_decide_eq_true o3
  have hs : ∀ v, smL (B' 18 v) := fun v => by rw [hB]; exact h10 v
  refine ⟨h1, by show ns + 1 ≤ 30; omega, by show 8 * (np + nc) ≤ e + 1; omega, h4, rngP_eq h5 rfl rfl, rngP_up h6 rfl rfl (nT_in _ hT).1 (Nat.le_trans (nT_in _ hT).2 he), fun q hq => ?_, fun p hp => ptOK_eq (h8 p hp) (fun k hk => by rcases hk with rfl | rfl | rfl | rfl | rfl | rfl | rfl | rfl <;> rfl) hs, h9, hs⟩
  have hq2 : ¬ kz (A 27) (10 * (ns + 1)) 10 q = 0 := hq
  rcases kz_or (A 27) (10 * (ns + 1)) 10 q with z | z
  · exact absurd z hq2
  · rw [z] at hq2
    obtain ⟨p, t, a1, a2, a3⟩ := h7 q hq2
    exact ⟨p, t, a1, by show kz (A 27) (10 * (ns + 1)) 10 q = nI t; rw [z]; exact a2, a3⟩
theorem PI_ke (hI : PI f (nv, ns, np, nc, A, B) b) (hb : b ≤ e + 1) (he : e ≤ 4000) (hT : T ≤ e) : PI f (nv, ns, np, nc, keA A e T ns, B) (e + 1) := by
  obtain ⟨h1, h2, h3, h4, h5, h6, h7, h8, h9, h10⟩ := hI
  dsimp only at h1 h2 h3 h4 h5 h6 h7 h8 h9 h10
  refine ⟨h1, h2, by show 8 * (np + nc) ≤ e + 1; omega, h4, rngP_eq h5 rfl rfl, rngP_eq h6 rfl rfl, fun q hq => ?_, fun p hp => ptOK_eq (h8 p hp) (fun k hk => by rcases hk with rfl | rfl | rfl | rfl | rfl | rfl | rfl | rfl <;> rfl) h10, h9, h10⟩
  obtain ⟨Q0, hQ0⟩ : ∃ z, z = 10 * ns + (vNu (A 6) e T).toInt32.toNatClampNeg := ⟨_, rfl⟩
  have e1 : keA A e T ns 26 = upd (A 26) Q0 (nI (nF (A 6) e (nT (A 6) e T))) := by rw [hQ0]; rfl
  have e2 : keA A e T ns 27 = upd (A 27) Q0 (nI (nT (A 6) e (nT (A 6) e T))) := by rw [hQ0]; rfl
  have t1 := nT_in (A 6) hT
  have t2 := nT_in (A 6) t1.2
  show ∃ p t, keA A e T ns 26 q = nI p ∧ keA A e T ns 27 q = nI t ∧ p ≤ t ∧ t ≤ 4000
  have hq2 : ¬ keA A e T ns 27 q = 0 := hq
  rw [e1, e2]
  rw [e2] at hq2
  by_cases z : q = Q0
  · subst z; exact ⟨_, _, pk_us, pk_us, t2.1, by omega⟩
  · rw [pk_un z] at hq2
    obtain ⟨p, t, a1, a2, a3⟩ := h7 q hq2
    exact ⟨p, t, by rw [pk_un z]; exact a1, by rw [pk_un z]; exact a2, a3⟩
theorem PI_ba {B' : Nat → Nat → Int64} (hI : PI f (nv, ns, np, nc, A, B) b) (hb : b ≤ e + 1) (hB : B' 18 = B 18) : PI f (nv, ns, np, nc, A, B') (e + 1) := by
  obtain ⟨h1, h2, h3, h4, h5, h6, h7, h8, h9, h10⟩ := hI
  dsimp only at h1 h2 h3 h4 h5 h6 h7 h8 h9 h10
  have hs : ∀ v, smL (B' 18 v) := fun v => by rw [hB]; exact h10 v
  exact ⟨h1, h2, by show 8 * (np + nc) ≤ e + 1; omega, h4, h5, h6, h7, fun p hp => ptOK_eq (h8 p hp) (fun _ _ => rfl) hs, h9, hs⟩
theorem PI_co {sc : Int32} {B' : Nat → Nat → Int64} (hI : PI f (nv, ns, np, nc, A, B) b) (hbe : b ≤ e) (he : e ≤ 4000) (hTe : T = nT f e b) (w0 : nF f e b < nT f e b) (ok : okIf A e T nv = true) (hB : B' 18 = B 18) : PI f (nv, ns, np, nc + 1, coA A e T nv nc sc, B') (e + 1) := by
  obtain ⟨h1, h2, h3, h4, h5, h6, h7, h8, h9, h10⟩ := hI
  dsimp only at h1 h2 h3 h4 h5 h6 h7 h8 h9 h10
  have hT : T ≤ e := by rw [hTe]; exact (nT_in f hbe).2
  unfold okIf at ok
  rw [Bool.and_eq_true, Bool.and_eq_true, Bool.and_eq_true, Bool.and_eq_true, Bool.and_eq_true, Bool.and_eq_true] at ok
  obtain ⟨o1, o2, ⟨o3, o4⟩, o5, o6, o7⟩ := ok
  have o2 : fV A nv (nF (A 6) e T) (nT (A 6) e T) ≠ 0 := of_decide_eq_true o2
  have o3 : nF (A 6) e (nT (A 6) e T) < nT (A 6) e (nT (A 6) e T) := of_decide_eq_true o3
  have hs : ∀ v, smL (B' 18 v) := fun v => by rw [hB]; exact h10 v
  have h7w : b + 7 ≤ e := by
    rw [h4] at o1 o3 o6
    rw [hTe] at o1 o3 o6
    exact four_words hbe w0 (cNm_w o1) o3 (cNu_w o6)
  have hfv : fV A nv (nF (A 6) e T) (nT (A 6) e T) ≤ nv := by
    rcases fnd_in (fun v => smW (A 6) (A 13 v).toNatClampNeg (A 14 v).toNatClampNeg (nF (A 6) e T) (nT (A 6) e T)) nv 1 with z | ⟨z1, z2, -⟩
    · exact absurd z o2
    · have : fV A nv (nF (A 6) e T) (nT (A 6) e T) < 1 + nv := z2
      omega
  refine ⟨h1, h2, by show 8 * (np + (nc + 1)) ≤ e + 1; omega, h4, rngP_eq h5 rfl rfl, rngP_eq h6 rfl rfl, keyP_eq h7 rfl rfl, fun p hp => ptOK_eq (h8 p hp) (fun k hk => by rcases hk with rfl | rfl | rfl | rfl | rfl | rfl | rfl | rfl <;> rfl) hs, fun c hc => ?_, hs⟩
  show ∃ v, upd (A 42) nc (nI (fV A nv (nF (A 6) e T) (nT (A 6) e T))) c = nI v ∧ v ≤ 40
  by_cases z : c = nc
  · subst z; exact ⟨_, pk_us, by omega⟩
  · rw [pk_un z]; exact h9 c (by have : c < nc + 1 := hc; omega)
end PIS
