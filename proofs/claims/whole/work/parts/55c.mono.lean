/-! A CONTRACT WITH MORE ROOM, and a weaker end -/
theorem Met_mono {l : Launch} {y : MethodName} {ws : List Cond} {F N mc ms F' N' mc' ms' : Nat} {Pc : Array Value → State → Prop} {Qc Qc' : Array Value → State → Outcome → State → Prop} {free : Addr → Prop} (h : Met l y ws (vRm F N mc ms) Pc Qc mc ms free) (hF : F ≤ F') (hN : N ≤ N') (hc : mc ≤ mc') (hs : ms ≤ ms') (hq : ∀ a s o t, Qc a s o t → Qc' a s o t) : Met l y ws (vRm F' N' mc' ms') Pc Qc' mc' ms' free := by
  intro p e ha hcs hk s m args below hfr happ hP hK
  obtain ⟨a1, a2, a3, a4, a5, a6, a7, a8⟩ := (Spec.appliesLoose_iff hfr).mp happ
  obtain ⟨n, o, k1, k2, k3, k4, L, k5, k6⟩ := h p e ha hcs hk s m args below hfr ((Spec.appliesLoose_iff hfr).mpr ⟨a1, a2, a3, a4, a5, a6, hasRoom_mono (r := vRm F N mc ms) (r' := vRm F' N' mc' ms') hF hN hc hs a7, a8⟩) hP hK
  exact ⟨n, o, k1, k2, k3, hq _ _ _ _ k4, L, ⟨k5.1, k5.2.1, k5.2.2.mono hc hs⟩, k6⟩
section VMM
variable {l : Launch} {S0 : State} {D : va_G} {cl : List vw_C} {Ts : List Cond} {y : MethodName} {bytes : ByteArray} {maxL : Nat} {ret : Option FieldType} {F N mc ms F' N' mc' ms' : Nat} {av : List Value} {h : vH}
theorem vMi_mono {post post' : Int32 → vH → Prop} (x : vMi l S0 D cl Ts y bytes maxL ret F N mc ms av h post) (hF : F ≤ F') (hN : N ≤ N') (hc : mc ≤ mc') (hs : ms ≤ ms') (hp : ∀ r u, post r u → post' r u) : vMi l S0 D cl Ts y bytes maxL ret F' N' mc' ms' av h post' := Met_mono x hF hN hc hs (fun _ _ _ _ q => by
  obtain ⟨⟨r, u, q1, q2, q3⟩, q4⟩ := q
  exact ⟨⟨r, u, q1, hp r u q2, q3⟩, q4⟩)
theorem vMl_mono {post post' : Int64 → vH → Prop} (x : vMl l S0 D cl Ts y bytes maxL ret F N mc ms av h post) (hF : F ≤ F') (hN : N ≤ N') (hc : mc ≤ mc') (hs : ms ≤ ms') (hp : ∀ r u, post r u → post' r u) : vMl l S0 D cl Ts y bytes maxL ret F' N' mc' ms' av h post' := Met_mono x hF hN hc hs (fun _ _ _ _ q => by
  obtain ⟨⟨r, u, q1, q2, q3⟩, q4⟩ := q
  exact ⟨⟨r, u, q1, hp r u q2, q3⟩, q4⟩)
theorem vMq_mono {post post' : Option Nat → vH → Prop} (x : vMq l S0 D cl Ts y bytes maxL ret F N mc ms av h post) (hF : F ≤ F') (hN : N ≤ N') (hc : mc ≤ mc') (hs : ms ≤ ms') (hp : ∀ r u, post r u → post' r u) : vMq l S0 D cl Ts y bytes maxL ret F' N' mc' ms' av h post' := Met_mono x hF hN hc hs (fun _ _ _ _ q => by
  obtain ⟨⟨r, u, q1, q2, q3⟩, q4⟩ := q
  exact ⟨⟨r, u, q1, hp r u q2, q3⟩, q4⟩)
theorem vMv_mono {post post' : vH → Prop} (x : vMv l S0 D cl Ts y bytes maxL ret F N mc ms av h post) (hF : F ≤ F') (hN : N ≤ N') (hc : mc ≤ mc') (hs : ms ≤ ms') (hp : ∀ u, post u → post' u) : vMv l S0 D cl Ts y bytes maxL ret F' N' mc' ms' av h post' := Met_mono x hF hN hc hs (fun _ _ _ _ q => by
  obtain ⟨⟨u, q1, q2, q3⟩, q4⟩ := q
  exact ⟨⟨u, q1, hp u q2, q3⟩, q4⟩)
end VMM
