section PIP
variable {f : Nat → Int32} {nv ns np nc b e T : Nat} {A : Nat → Nat → Int32} {B : Nat → Nat → Int64}
theorem l2i_in {z : Int64} {lo hi : Nat} (h1 : lN lo ≤ z) (h2 : z ≤ lN hi) (hl : lo < 2 ^ 62) (hh : hi < 2 ^ 62) : ∃ K : Nat, lo ≤ K ∧ K ≤ hi ∧ z.toInt32 = nI K := by
  obtain ⟨K, a1, a2, a3⟩ := l64_in h1 h2 hl hh
  exact ⟨K, a1, a2, by rw [a3]; exact lN_i K⟩
theorem PI_pa {p1 sc pv : Int32} (hI : PI f (nv, ns, np, nc, A, B) b) (hbe : b ≤ e) (he : e ≤ 4000) (hTe : T = nT f e b) (w0 : nF f e b < nT f e b) (ok : okPa A e T nv p1 = true) : PI f (nv, ns, np + 1, nc, paA A e T nv np nc p1 sc pv, B) (e + 1) := by
  obtain ⟨h1, h2, h3, h4, h5, h6, h7, h8, h9, h10⟩ := hI
  dsimp only at h1 h2 h3 h4 h5 h6 h7 h8 h9 h10
  have hT : T ≤ e := by rw [hTe]; exact (nT_in f hbe).2
  have t1 := nT_in (A 6) hT
  have t2 := nT_in (A 6) t1.2
  have t3 := nT_in (A 6) t2.2
  have t4 := nT_in (A 6) t3.2
  unfold okPa at ok
  rw [Bool.and_eq_true, Bool.and_eq_true] at ok
  obtain ⟨o1, o2, o3⟩ := ok
  have w3 : nF (A 6) e (nT2 (A 6) e T) < nT (A 6) e (nT2 (A 6) e T) := by
    by_cases z : p1 = 2
    · rw [if_pos z, Bool.and_eq_true] at o3; exact cNu_w o3.1
    · rw [if_neg z, Bool.and_eq_true] at o3; exact of_decide_eq_true o3.1
  have h7w : b + 7 ≤ e := by
    have q1 := cNu_w o1
    have q2 := cNu_w o2
    unfold nT2 at w3
    rw [h4] at q1 q2 w3
    rw [hTe] at q1 q2 w3
    exact four_words hbe w0 q1 q2 w3
  obtain ⟨c0, -, hc0, ec0⟩ := l2i_in (lo := 0) (hi := 999999) (cNu_in o2).1 (cNu_in o2).2 (by decide) (by decide)
  by_cases z : p1 = 2
  · rw [if_pos z, Bool.and_eq_true, Bool.and_eq_true, Bool.and_eq_true] at o3
    obtain ⟨r1, r2, r3, -⟩ := o3
    have r3 : fV A nv (nF (A 6) e (nT3 (A 6) e T)) (nT4 (A 6) e T) ≠ 0 := of_decide_eq_true r3
    obtain ⟨w9, hw1, hw2, ew⟩ := l2i_in (lo := 1) (hi := 9) (cNu_in r1).1 (cNu_in r1).2 (by decide) (by decide)
    have hfv : fV A nv (nF (A 6) e (nT3 (A 6) e T)) (nT4 (A 6) e T) ≤ nv := by
      rcases fnd_in (fun v => smW (A 6) (A 13 v).toNatClampNeg (A 14 v).toNatClampNeg (nF (A 6) e (nT3 (A 6) e T)) (nT4 (A 6) e T)) nv 1 with q | ⟨q1, q2, -⟩
      · exact absurd q r3
      · have : fV A nv (nF (A 6) e (nT3 (A 6) e T)) (nT4 (A 6) e T) < 1 + nv := q2
        omega
    unfold paA
    rw [if_pos z]
    refine ⟨h1, h2, by show 8 * (np + 1 + nc) ≤ e + 1; omega, h4, rngP_eq h5 rfl rfl, rngP_eq h6 rfl rfl, keyP_eq h7 rfl rfl, fun p hp => ?_, h9, h10⟩
    by_cases q : p = np
    · subst q
      refine ⟨⟨c0, ?_, hc0⟩, fun _ => ⟨w9, _, ?_, hw1, hw2, pk_us, Nat.le_trans hfv h1, h10 _⟩, fun y => absurd ?_ y⟩
      · show upd (A 32) p (vNu (A 6) e (nT (A 6) e T)).toInt32 p = nI c0
        rw [pk_us]; exact ec0
      · show upd (A 34) p (vNu (A 6) e (nT2 (A 6) e T)).toInt32 p = nI w9
        rw [pk_us]; exact ew
      · show upd (A 30) p p1 p = 2
        rw [pk_us]; exact z
    · exact ptOK_eq (h8 p (by have : p < np + 1 := hp; omega)) (fun k hk => by rcases hk with rfl | rfl | rfl | rfl | rfl | rfl | rfl | rfl <;> first | rfl | exact pk_un q) h10
  · unfold paA
    rw [if_neg z]
    refine ⟨h1, h2, by show 8 * (np + 1 + nc) ≤ e + 1; omega, h4, rngP_eq h5 rfl rfl, rngP_eq h6 rfl rfl, keyP_eq h7 rfl rfl, fun p hp => ?_, h9, h10⟩
    by_cases q : p = np
    · subst q
      refine ⟨⟨c0, ?_, hc0⟩, fun y => absurd ?_ z, fun _ => ?_⟩
      · show upd (A 32) p (vNu (A 6) e (nT (A 6) e T)).toInt32 p = nI c0
        rw [pk_us]; exact ec0
      · have y2 : upd (A 30) p p1 p = 2 := y
        rw [pk_us] at y2; exact y2
      · have t3' : nF (A 6) e (nT2 (A 6) e T) ≤ nT3 (A 6) e T ∧ nT3 (A 6) e T ≤ e := t3
        have t4' : nF (A 6) e (nT3 (A 6) e T) ≤ nT4 (A 6) e T ∧ nT4 (A 6) e T ≤ e := t4
        by_cases y : p1 = 1
        · refine ⟨nF (A 6) e (nT2 (A 6) e T), nT3 (A 6) e T, nF (A 6) e (nT3 (A 6) e T), nT4 (A 6) e T, pk_us, pk_us, t3'.1, by omega, ?_, ?_, t4'.1, by omega⟩
          · show upd (A 37) p (if p1 = 1 then nI (nF (A 6) e (nT3 (A 6) e T)) else nI (nF (A 6) e (nT2 (A 6) e T))) p = _
            rw [pk_us, if_pos y]
          · show upd (A 38) p (if p1 = 1 then nI (nT4 (A 6) e T) else nI (nT3 (A 6) e T)) p = _
            rw [pk_us, if_pos y]
        · refine ⟨nF (A 6) e (nT2 (A 6) e T), nT3 (A 6) e T, nF (A 6) e (nT2 (A 6) e T), nT3 (A 6) e T, pk_us, pk_us, t3'.1, by omega, ?_, ?_, t3'.1, by omega⟩
          · show upd (A 37) p (if p1 = 1 then nI (nF (A 6) e (nT3 (A 6) e T)) else nI (nF (A 6) e (nT2 (A 6) e T))) p = _
            rw [pk_us, if_neg y]
          · show upd (A 38) p (if p1 = 1 then nI (nT4 (A 6) e T) else nI (nT3 (A 6) e T)) p = _
            rw [pk_us, if_neg y]
    · exact ptOK_eq (h8 p (by have : p < np + 1 := hp; omega)) (fun k hk => by rcases hk with rfl | rfl | rfl | rfl | rfl | rfl | rfl | rfl <;> first | rfl | exact pk_un q) h10
theorem PI_kd {ln : Int32} (kd : Nat) (hI : PI f (nv, ns, np, nc, A, B) b) (hbe : b ≤ e) (he : e ≤ 4000) (hTe : T = nT f e b) (w0 : nF f e b < nT f e b) (ok : okLn A e T nv ns kd = true) : PI f (lnV nv kd, lnSc ns kd, lnP np kd, lnC nc kd, lnA A e T nv ns np nc ln kd, lnB A B e T nv ns nc kd) (e + 1) := by
  have hT : T ≤ e := by rw [hTe]; exact (nT_in f hbe).2
  match kd, ok with
  | 0, ok => exact PI_va hI (by omega) he hT ok
  | 1, ok => exact PI_va hI (by omega) he hT ok
  | 2, ok => exact PI_sc hI (by omega) he hT ok rfl
  | 3, ok => exact PI_pa hI hbe he hTe w0 (Bool.and_eq_true_iff.mp ok).2
  | 4, ok => exact PI_pa hI hbe he hTe w0 (Bool.and_eq_true_iff.mp ok).2
  | 5, ok => exact PI_pa hI hbe he hTe w0 (Bool.and_eq_true_iff.mp ok).2
  | 6, ok => exact PI_co hI hbe he hTe w0 (Bool.and_eq_true_iff.mp ok).2 rfl
  | 7, ok => exact PI_ke hI (by omega) he hT
  | 8, ok => exact PI_ba hI (by omega) rfl
  | n + 9, ok => exact absurd (show false = true from ok) (by decide)
end PIP
