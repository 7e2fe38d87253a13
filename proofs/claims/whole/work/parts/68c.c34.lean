theorem d_law0_128 : decode code 128 = .ok (.aload_n 1, 1) := by decide +kernel
theorem d_law0_129 : decode code 129 = .ok (.aload_n 0, 1) := by decide +kernel
theorem d_law0_130 : decode code 130 = .ok (.iload_n 3, 1) := by decide +kernel
theorem d_law0_131 : decode code 131 = .ok (.iconst 1, 1) := by decide +kernel
theorem d_law0_132 : decode code 132 = .ok (.iadd, 1) := by decide +kernel
theorem d_law0_133 : decode code 133 = .ok (.iaload, 1) := by decide +kernel
theorem d_law0_134 : decode code 134 = .ok (.invokevirtual 21, 3) := by decide +kernel
theorem d_law0_137 : decode code 137 = .ok (.aload_n 2, 1) := by decide +kernel
theorem d_law0_138 : decode code 138 = .ok (.aload_n 0, 1) := by decide +kernel
theorem d_law0_139 : decode code 139 = .ok (.iload_n 3, 1) := by decide +kernel
theorem d_law0_140 : decode code 140 = .ok (.iconst 1, 1) := by decide +kernel
theorem d_law0_141 : decode code 141 = .ok (.iadd, 1) := by decide +kernel
theorem d_law0_142 : decode code 142 = .ok (.iaload, 1) := by decide +kernel
theorem d_law0_143 : decode code 143 = .ok (.invokevirtual 25, 3) := by decide +kernel
theorem d_law0_146 : decode code 146 = .ok (.goto 608, 3) := by decide +kernel
set_option maxRecDepth 100000 in
set_option maxHeartbeats 4000000 in
theorem lw_sign {p : Program} {l : Launch} {e : Env} {S0 s : State} {m : MethodId} {args : Array Value} {below : List Frame} {meth : Method} {c : Code} {H : Heap} {locs : List Loc} {Q : State → Prop} {ls : Array Slot} {b n : Nat} {D : va_G} {dT : Nat → ClassId} {dE mO : Nat} {hcv h : vH} {xs : Nat → Int32} {ad : Nat → Nat → Nat} {L : vL} {cap : Nat} {x : Nat → Int32} {y : Nat → Int64} {A : Nat → Nat → Int32} {B : Nat → Nat → Int64} {k i0 cu su : Nat} (hE : vEnv S0 b D dT) (hJ : vJ S0 dE mO) (hcE : ∃ fE, hcv dE = some (aR dT 0 fE)) (C : vC p s m args c code 4 "MenuScreensLaw" GT D vcl (vty dT)) (hsc : hcv b = some (.inl (dT 0, n, .inl xs))) (hn9 : n ≤ 2562) (hk9 : k ≤ 511) (hi9 : i0 + 5 ≤ n) (I : lwI S0.heap.size dT dE hcv h ad L cap x y A B k cu su) (X : vO S0 D vcl h s H locs) (hl : lv_has ls 4 [(0, .ref b), (1, .ref (ad 0 0)), (2, .ref (ad 50 0)), (3, .int (nI i0))]) (K : ∀ (h' : vH) (ad' : Nat → Nat → Nat) (L' : vL) (cap' : Nat) (x' : Nat → Int32) (y' : Nat → Int64) (A' : Nat → Nat → Int32) (B' : Nat → Nat → Int64) (cu' su' : Nat) (H' : Heap) (locs' : List Loc) (ls' : Array Slot), ad' 0 0 = ad 0 0 → ad' 50 0 = ad 50 0 → lwI S0.heap.size dT dE hcv h' ad' L' cap' x' y' A' B' (k + 1) cu' su' → vO S0 D vcl h' s H' locs' → lv_has ls' 4 [(0, .ref b), (1, .ref (ad 0 0)), (2, .ref (ad 50 0)), (3, .int (nI i0))] → W p l e room_1 s m args below meth c H' locs' cu' su' Q (F0 m 754 ls' [])) : W p l e room_1 s m args below meth c H locs cu su Q (F0 m 128 ls []) := by
  have hx := C.1.1
  have hb := C.1.2.1
  obtain ⟨xl, hC, hM, ⟨n0, e30, hn4, hnc, hcap, hcu, hsu⟩, me, ce0, hme, hce, hme2, hce2⟩ := id I
  obtain ⟨⟨sp, bl, hTop, -⟩, -⟩ := id hC
  have hTop2 : L 0 0 = some (.inr (3, [.int (x 1), .int (x 2), .ref (ad 1 0), .ref (ad 6 0), .ref (ad 2 0), .ref (ad 8 0), .int (x 45), .int sp, .int (x 46), .int bl, .int (x 55), .long (y 56), .long (y 57)])) := hTop
  have hu1 : cu ≤ 18500 := by omega
  have hu2 : su ≤ 2600000 := by omega
  have hsg := cpS_le (c := xs (i0 + 1)) (t0 := A 4) hn4 hnc hcap 4
  refine lv_aload_n hx hb d_law0_128 rfl (lv_at hl 1 rfl) ?_
  refine lv_aload_n hx hb d_law0_129 rfl (lv_at hl 0 rfl) ?_
  refine lv_iload_n hx hb d_law0_130 rfl (lv_at hl 3 rfl) ?_
  refine lv_iconst (v := 1) hx hb d_law0_131 (by decide) ?_
  refine lv_iadd hx hb d_law0_132 ?_
  refine mv_iald C X (xl.old hsc) 0 rfl (i0 + 1) (nI_add i0 1) (by omega) (by omega) d_law0_133 ?_
  refine mv_bv X (mv_rV (rest := []) (As := [.int (xs (i0 + 1))]) gt_good C X k_11_21 (cm_MenuScreens_sign hE hJ xl hC e30 hn4) (xl.get (i := 0) (j := 0) hTop2) rfl rfl ⟨Nat.le_of_ble_eq_true rfl, Nat.le_of_ble_eq_true rfl⟩ rfl hl.1 rfl (Nat.le_of_ble_eq_true rfl) d_law0_134 ⟨by show cu + 4 ≤ 600000; omega, by show su + (2 * ((cpS (xs (i0 + 1)) n0 (A 4) cap 4) - cap)) ≤ 7302250; omega⟩) (fun hN H locs hp X => ?_)
  obtain ⟨ad1, L1, q1, kp1, hst⟩ := hp
  have M1 := lw_mid hM q1 kp1
  refine lv_aload_n hx hb d_law0_137 rfl (lv_at hl 2 rfl) ?_
  refine lv_aload_n hx hb d_law0_138 rfl (lv_at hl 0 rfl) ?_
  refine lv_iload_n hx hb d_law0_139 rfl (lv_at hl 3 rfl) ?_
  refine lv_iconst (v := 1) hx hb d_law0_140 (by decide) ?_
  refine lv_iadd hx hb d_law0_141 ?_
  refine mv_iald C X (q1.1.old hsc) 0 rfl (i0 + 1) (nI_add i0 1) (by omega) (by omega) d_law0_142 ?_
  refine mv_bv X (mv_rV (rest := []) (As := [.int (xs (i0 + 1))]) gt_good C X k_11_25 (cm_MenuScreensModel_sign hE M1 _ e30 hn4) M1.1 rfl rfl ⟨Nat.le_of_ble_eq_true rfl, Nat.le_of_ble_eq_true rfl⟩ rfl hl.1 rfl (Nat.le_of_ble_eq_true rfl) d_law0_143 ⟨by show (cu + 4) + 0 ≤ 600000; omega, by show (su + (2 * ((cpS (xs (i0 + 1)) n0 (A 4) cap 4) - cap))) + 0 ≤ 7302250; omega⟩) (fun hN H locs hp X => ?_)
  obtain ⟨x', A', M2, hs1, hs2⟩ := hp
  have hC2 := hst x' y A' B ⟨rfl, rfl, n0, e30, hn4, hs1, hs2⟩
  obtain ⟨L2, hz⟩ := lw_end hM q1 kp1 M2 hC2
  refine lv_goto (tgt := 754) hx hb d_law0_146 (by decide) ?_
  exact K _ _ _ _ _ _ _ _ _ _ _ _ _ kp1.2 (congrFun (kp1.1 50 (by decide)).2 0) (I.sg e30 hn4 hz hs1) X (lv_sub hl [0, 1, 2, 3] rfl)
theorem d_law1_149 : decode code 149 = .ok (.aload_n 1, 1) := by decide +kernel
theorem d_law1_150 : decode code 150 = .ok (.invokevirtual 26, 3) := by decide +kernel
theorem d_law1_153 : decode code 153 = .ok (.aload_n 2, 1) := by decide +kernel
theorem d_law1_154 : decode code 154 = .ok (.invokevirtual 30, 3) := by decide +kernel
theorem d_law1_157 : decode code 157 = .ok (.if_icmp .eq 597, 3) := by decide +kernel
set_option maxRecDepth 100000 in
set_option maxHeartbeats 4000000 in
theorem lw_read {p : Program} {l : Launch} {e : Env} {S0 s : State} {m : MethodId} {args : Array Value} {below : List Frame} {meth : Method} {c : Code} {H : Heap} {locs : List Loc} {Q : State → Prop} {ls : Array Slot} {b n : Nat} {D : va_G} {dT : Nat → ClassId} {dE mO : Nat} {hcv h : vH} {xs : Nat → Int32} {ad : Nat → Nat → Nat} {L : vL} {cap : Nat} {x : Nat → Int32} {y : Nat → Int64} {A : Nat → Nat → Int32} {B : Nat → Nat → Int64} {k i0 cu su : Nat} (hE : vEnv S0 b D dT) (hJ : vJ S0 dE mO) (hcE : ∃ fE, hcv dE = some (aR dT 0 fE)) (C : vC p s m args c code 4 "MenuScreensLaw" GT D vcl (vty dT)) (hsc : hcv b = some (.inl (dT 0, n, .inl xs))) (hn9 : n ≤ 2562) (hk9 : k ≤ 511) (hi9 : i0 + 5 ≤ n) (I : lwI S0.heap.size dT dE hcv h ad L cap x y A B k cu su) {lt ltv : Nat} {txl : String} {lz2 lz3 : Value} {fl0 : Nat → Int32} (hlt : vk_R "MenuScreens$Line" 18 txl lt S0) (hlt1 : hcv lt = some (.inr (0, [.ref ltv, .int 0, lz2, lz3]))) (hlt2 : hcv ltv = some (.inl (dT 2, 0, .inl fl0))) {dl dlv : Nat} {txdl : String} {dl2 dl3 : Value} {fdl : Nat → Int32} (hdl : vk_R "MenuScreens$Reader" 170 txdl dl S0) (hdl1 : hcv dl = some (.inr (0, [.ref dlv, .int 0, dl2, dl3]))) (hdl2 : hcv dlv = some (.inl (dT 2, 1, .inl fdl))) (hdl3 : fdl 0 = 45) {le lev : Nat} {txle : String} {le2 le3 : Value} {fle : Nat → Int32} (hle : vk_R "MenuScreens$Reader" 189 txle le S0) (hle1 : hcv le = some (.inr (0, [.ref lev, .int 0, le2, le3]))) (hle2 : hcv lev = some (.inl (dT 2, 1, .inl fle))) (hle3 : fle 0 = 61) {ll llv : Nat} {txll : String} {ll2 ll3 : Value} {fll : Nat → Int32} (hll : vk_R "MenuScreens$Reader" 191 txll ll S0) (hll1 : hcv ll = some (.inr (0, [.ref llv, .int 0, ll2, ll3]))) (hll2 : hcv llv = some (.inl (dT 2, 1, .inl fll))) (hll3 : fll 0 = 60) {lg lgv : Nat} {txlg : String} {lg2 lg3 : Value} {flg : Nat → Int32} (hlg : vk_R "MenuScreens$Reader" 193 txlg lg S0) (hlg1 : hcv lg = some (.inr (0, [.ref lgv, .int 0, lg2, lg3]))) (hlg2 : hcv lgv = some (.inl (dT 2, 1, .inl flg))) (hlg3 : flg 0 = 62) {lw0 lw0v : Nat} {txlw0 : String} {lw02 lw03 : Value} (hlw0 : vk_R "MenuScreens$Reader" 58 txlw0 lw0 S0) (hlw01 : hcv lw0 = some (.inr (0, [.ref lw0v, .int 0, lw02, lw03]))) (hlw02 : hcv lw0v = some (.inl (dT 2, (ltW 0).1, .inl (ltW 0).2))) {lw1 lw1v : Nat} {txlw1 : String} {lw12 lw13 : Value} (hlw1 : vk_R "MenuScreens$Reader" 68 txlw1 lw1 S0) (hlw11 : hcv lw1 = some (.inr (0, [.ref lw1v, .int 0, lw12, lw13]))) (hlw12 : hcv lw1v = some (.inl (dT 2, (ltW 1).1, .inl (ltW 1).2))) {lw2 lw2v : Nat} {txlw2 : String} {lw22 lw23 : Value} (hlw2 : vk_R "MenuScreens$Reader" 73 txlw2 lw2 S0) (hlw21 : hcv lw2 = some (.inr (0, [.ref lw2v, .int 0, lw22, lw23]))) (hlw22 : hcv lw2v = some (.inl (dT 2, (ltW 2).1, .inl (ltW 2).2))) {lw3 lw3v : Nat} {txlw3 : String} {lw32 lw33 : Value} (hlw3 : vk_R "MenuScreens$Reader" 81 txlw3 lw3 S0) (hlw31 : hcv lw3 = some (.inr (0, [.ref lw3v, .int 0, lw32, lw33]))) (hlw32 : hcv lw3v = some (.inl (dT 2, (ltW 3).1, .inl (ltW 3).2))) {lw4 lw4v : Nat} {txlw4 : String} {lw42 lw43 : Value} (hlw4 : vk_R "MenuScreens$Reader" 87 txlw4 lw4 S0) (hlw41 : hcv lw4 = some (.inr (0, [.ref lw4v, .int 0, lw42, lw43]))) (hlw42 : hcv lw4v = some (.inl (dT 2, (ltW 4).1, .inl (ltW 4).2))) {lw5 lw5v : Nat} {txlw5 : String} {lw52 lw53 : Value} (hlw5 : vk_R "MenuScreens$Reader" 92 txlw5 lw5 S0) (hlw51 : hcv lw5 = some (.inr (0, [.ref lw5v, .int 0, lw52, lw53]))) (hlw52 : hcv lw5v = some (.inl (dT 2, (ltW 5).1, .inl (ltW 5).2))) {lw6 lw6v : Nat} {txlw6 : String} {lw62 lw63 : Value} (hlw6 : vk_R "MenuScreens$Reader" 97 txlw6 lw6 S0) (hlw61 : hcv lw6 = some (.inr (0, [.ref lw6v, .int 0, lw62, lw63]))) (hlw62 : hcv lw6v = some (.inl (dT 2, (ltW 6).1, .inl (ltW 6).2))) {lw7 lw7v : Nat} {txlw7 : String} {lw72 lw73 : Value} (hlw7 : vk_R "MenuScreens$Reader" 102 txlw7 lw7 S0) (hlw71 : hcv lw7 = some (.inr (0, [.ref lw7v, .int 0, lw72, lw73]))) (hlw72 : hcv lw7v = some (.inl (dT 2, (ltW 7).1, .inl (ltW 7).2))) {lw8 lw8v : Nat} {txlw8 : String} {lw82 lw83 : Value} (hlw8 : vk_R "MenuScreens$Reader" 107 txlw8 lw8 S0) (hlw81 : hcv lw8 = some (.inr (0, [.ref lw8v, .int 0, lw82, lw83]))) (hlw82 : hcv lw8v = some (.inl (dT 2, (ltW 8).1, .inl (ltW 8).2))) (X : vO S0 D vcl h s H locs) (hl : lv_has ls 4 [(0, .ref b), (1, .ref (ad 0 0)), (2, .ref (ad 50 0)), (3, .int (nI i0))]) (K : ∀ (h' : vH) (ad' : Nat → Nat → Nat) (L' : vL) (cap' : Nat) (x' : Nat → Int32) (y' : Nat → Int64) (A' : Nat → Nat → Int32) (B' : Nat → Nat → Int64) (cu' su' : Nat) (H' : Heap) (locs' : List Loc) (ls' : Array Slot), ad' 0 0 = ad 0 0 → ad' 50 0 = ad 50 0 → lwI S0.heap.size dT dE hcv h' ad' L' cap' x' y' A' B' (k + 1) cu' su' → vO S0 D vcl h' s H' locs' → lv_has ls' 4 [(0, .ref b), (1, .ref (ad 0 0)), (2, .ref (ad 50 0)), (3, .int (nI i0))] → W p l e room_1 s m args below meth c H' locs' cu' su' Q (F0 m 754 ls' [])) : W p l e room_1 s m args below meth c H locs cu su Q (F0 m 149 ls []) := by
  have hx := C.1.1
  have hb := C.1.2.1
  obtain ⟨xl, hC, hM, ⟨n0, e30, hn4, hnc, hcap, hcu, hsu⟩, me, ce0, hme, hce, hme2, hce2⟩ := id I
  obtain ⟨⟨sp, bl, hTop, -⟩, -⟩ := id hC
  have hTop2 : L 0 0 = some (.inr (3, [.int (x 1), .int (x 2), .ref (ad 1 0), .ref (ad 6 0), .ref (ad 2 0), .ref (ad 8 0), .int (x 45), .int sp, .int (x 46), .int bl, .int (x 55), .long (y 56), .long (y 57)])) := hTop
  have hu1 : cu ≤ 18500 := by omega
  have hu2 : su ≤ 2600000 := by omega
  obtain ⟨-, -, -, ⟨n50, e50, hWr⟩, ⟨nr, e48, hPl⟩, -, -, ⟨nv, ns, np, nc, pf, cb, ce, cs, c0, lh, hnum, ⟨pr, e45, hpr1, hpr2⟩, hRP, hTx, hrn⟩, hkey, hsm⟩ := id hC
  refine lv_aload_n hx hb d_law1_149 rfl (lv_at hl 1 rfl) ?_
  refine mv_bi X (mv_rV (rest := []) (As := []) gt_good C X k_11_26 (cm_MenuScreens_read hE hJ xl hC hcE hlt hlt1 hlt2 hdl hdl1 hdl2 hdl3 hle hle1 hle2 hle3 hll hll1 hll2 hll3 hlg hlg1 hlg2 hlg3 hlw0 hlw01 hlw02 hlw1 hlw11 hlw12 hlw2 hlw21 hlw22 hlw3 hlw31 hlw32 hlw4 hlw41 hlw42 hlw5 hlw51 hlw52 hlw6 hlw61 hlw62 hlw7 hlw71 hlw72 hlw8 hlw81 hlw82 e30 hn4) (xl.get (i := 0) (j := 0) hTop2) rfl rfl ⟨Nat.le_of_ble_eq_true rfl, Nat.le_of_ble_eq_true rfl⟩ rfl hl.1 rfl (Nat.le_of_ble_eq_true rfl) d_law1_150 ⟨by show cu + (2 + 8 * (n0 + 1)) ≤ 600000; omega, by show su + (4 + n0 + 1200 * (n0 + 1)) ≤ 7302250; omega⟩) (fun r1 hN H locs hp X => ?_)
  obtain ⟨ad1, L1, q1, kp1, hst⟩ := hp
  have M1 := lw_mid hM q1 kp1
  refine lv_aload_n hx hb d_law1_153 rfl (lv_at hl 2 rfl) ?_
  refine mv_bi X (mv_rV (rest := [.int r1]) (As := []) gt_good C X k_11_30 (cm_MenuScreensModel_read hE M1 e30 hn4 hkey hsm) M1.1 rfl rfl ⟨Nat.le_of_ble_eq_true rfl, Nat.le_of_ble_eq_true rfl⟩ rfl hl.1 rfl (Nat.le_of_ble_eq_true rfl) d_law1_154 ⟨by show (cu + (2 + 8 * (n0 + 1))) + 0 ≤ 600000; omega, by show (su + (4 + n0 + 1200 * (n0 + 1))) + 0 ≤ 7302250; omega⟩) (fun r2 hN H locs hp X => ?_)
  obtain ⟨x', y', A', B', M2, hs⟩ := hp
  obtain ⟨er, hC2⟩ := hst _ x' y' A' B' ⟨n0, e30, hn4, hs⟩
  obtain ⟨L2, hz⟩ := lw_end hM q1 kp1 M2 hC2
  refine lv_icmp_eq (tgt := 754) hx hb d_law1_157 (by decide) (fun c3 => ?_) (fun z => absurd er z)
  exact K _ _ _ _ _ _ _ _ _ _ _ _ _ kp1.2 (congrFun (kp1.1 50 (by decide)).2 0) (I.rd e30 hn4 hz hs.2.2.2.2.1 hs.2.1) X (lv_sub hl [0, 1, 2, 3] rfl)
theorem d_law3_251 : decode code 251 = .ok (.aload_n 1, 1) := by decide +kernel
theorem d_law3_252 : decode code 252 = .ok (.aload_n 0, 1) := by decide +kernel
theorem d_law3_253 : decode code 253 = .ok (.iload_n 3, 1) := by decide +kernel
theorem d_law3_254 : decode code 254 = .ok (.iconst 1, 1) := by decide +kernel
theorem d_law3_255 : decode code 255 = .ok (.iadd, 1) := by decide +kernel
theorem d_law3_256 : decode code 256 = .ok (.iaload, 1) := by decide +kernel
theorem d_law3_257 : decode code 257 = .ok (.invokevirtual 38, 3) := by decide +kernel
theorem d_law3_260 : decode code 260 = .ok (.aload_n 2, 1) := by decide +kernel
theorem d_law3_261 : decode code 261 = .ok (.aload_n 0, 1) := by decide +kernel
theorem d_law3_262 : decode code 262 = .ok (.iload_n 3, 1) := by decide +kernel
theorem d_law3_263 : decode code 263 = .ok (.iconst 1, 1) := by decide +kernel
theorem d_law3_264 : decode code 264 = .ok (.iadd, 1) := by decide +kernel
theorem d_law3_265 : decode code 265 = .ok (.iaload, 1) := by decide +kernel
theorem d_law3_266 : decode code 266 = .ok (.invokevirtual 42, 3) := by decide +kernel
theorem d_law3_269 : decode code 269 = .ok (.if_icmp .eq 485, 3) := by decide +kernel
set_option maxRecDepth 100000 in
set_option maxHeartbeats 4000000 in
theorem lw_press {p : Program} {l : Launch} {e : Env} {S0 s : State} {m : MethodId} {args : Array Value} {below : List Frame} {meth : Method} {c : Code} {H : Heap} {locs : List Loc} {Q : State → Prop} {ls : Array Slot} {b n : Nat} {D : va_G} {dT : Nat → ClassId} {dE mO : Nat} {hcv h : vH} {xs : Nat → Int32} {ad : Nat → Nat → Nat} {L : vL} {cap : Nat} {x : Nat → Int32} {y : Nat → Int64} {A : Nat → Nat → Int32} {B : Nat → Nat → Int64} {k i0 cu su : Nat} (hE : vEnv S0 b D dT) (hJ : vJ S0 dE mO) (hcE : ∃ fE, hcv dE = some (aR dT 0 fE)) (C : vC p s m args c code 4 "MenuScreensLaw" GT D vcl (vty dT)) (hsc : hcv b = some (.inl (dT 0, n, .inl xs))) (hn9 : n ≤ 2562) (hk9 : k ≤ 511) (hi9 : i0 + 5 ≤ n) (I : lwI S0.heap.size dT dE hcv h ad L cap x y A B k cu su) (X : vO S0 D vcl h s H locs) (hl : lv_has ls 4 [(0, .ref b), (1, .ref (ad 0 0)), (2, .ref (ad 50 0)), (3, .int (nI i0))]) (K : ∀ (h' : vH) (ad' : Nat → Nat → Nat) (L' : vL) (cap' : Nat) (x' : Nat → Int32) (y' : Nat → Int64) (A' : Nat → Nat → Int32) (B' : Nat → Nat → Int64) (cu' su' : Nat) (H' : Heap) (locs' : List Loc) (ls' : Array Slot), ad' 0 0 = ad 0 0 → ad' 50 0 = ad 50 0 → lwI S0.heap.size dT dE hcv h' ad' L' cap' x' y' A' B' (k + 1) cu' su' → vO S0 D vcl h' s H' locs' → lv_has ls' 4 [(0, .ref b), (1, .ref (ad 0 0)), (2, .ref (ad 50 0)), (3, .int (nI i0))] → W p l e room_1 s m args below meth c H' locs' cu' su' Q (F0 m 754 ls' [])) : W p l e room_1 s m args below meth c H locs cu su Q (F0 m 251 ls []) := by
  have hx := C.1.1
  have hb := C.1.2.1
  obtain ⟨xl, hC, hM, ⟨n0, e30, hn4, hnc, hcap, hcu, hsu⟩, me, ce0, hme, hce, hme2, hce2⟩ := id I
  obtain ⟨⟨sp, bl, hTop, -⟩, -⟩ := id hC
  have hTop2 : L 0 0 = some (.inr (3, [.int (x 1), .int (x 2), .ref (ad 1 0), .ref (ad 6 0), .ref (ad 2 0), .ref (ad 8 0), .int (x 45), .int sp, .int (x 46), .int bl, .int (x 55), .long (y 56), .long (y 57)])) := hTop
  have hu1 : cu ≤ 18500 := by omega
  have hu2 : su ≤ 2600000 := by omega
  obtain ⟨-, -, -, ⟨n50, e50, hWr⟩, ⟨nr, e48, hPl⟩, -, -, ⟨nv, ns, np, nc, pf, cb, ce, cs, c0, lh, hnum, ⟨pr, e45, hpr1, hpr2⟩, hRP, hTx, hrn⟩, hkey, hsm⟩ := id hC
  refine lv_aload_n hx hb d_law3_251 rfl (lv_at hl 1 rfl) ?_
  refine lv_aload_n hx hb d_law3_252 rfl (lv_at hl 0 rfl) ?_
  refine lv_iload_n hx hb d_law3_253 rfl (lv_at hl 3 rfl) ?_
  refine lv_iconst (v := 1) hx hb d_law3_254 (by decide) ?_
  refine lv_iadd hx hb d_law3_255 ?_
  refine mv_iald C X (xl.old hsc) 0 rfl (i0 + 1) (nI_add i0 1) (by omega) (by omega) d_law3_256 ?_
  refine mv_bi X (mv_rV (rest := []) (As := [.int (xs (i0 + 1))]) gt_good C X k_11_38 (cm_MenuScreens_press hE hJ xl hC hcE) (xl.get (i := 0) (j := 0) hTop2) rfl rfl ⟨Nat.le_of_ble_eq_true rfl, Nat.le_of_ble_eq_true rfl⟩ rfl hl.1 rfl (Nat.le_of_ble_eq_true rfl) d_law3_257 ⟨by show cu + 0 ≤ 600000; omega, by show su + 0 ≤ 7302250; omega⟩) (fun r1 hN H locs hp X => ?_)
  obtain ⟨ad1, L1, q1, kp1, hst⟩ := hp
  have M1 := lw_mid hM q1 kp1
  refine lv_aload_n hx hb d_law3_260 rfl (lv_at hl 2 rfl) ?_
  refine lv_aload_n hx hb d_law3_261 rfl (lv_at hl 0 rfl) ?_
  refine lv_iload_n hx hb d_law3_262 rfl (lv_at hl 3 rfl) ?_
  refine lv_iconst (v := 1) hx hb d_law3_263 (by decide) ?_
  refine lv_iadd hx hb d_law3_264 ?_
  refine mv_iald C X (q1.1.old hsc) 0 rfl (i0 + 1) (nI_add i0 1) (by omega) (by omega) d_law3_265 ?_
  refine mv_bi X (mv_rV (rest := [.int r1]) (As := [.int (xs (i0 + 1))]) gt_good C X k_11_42 (cm_MenuScreensModel_press hE M1 _ e45 hpr1 hnum.2.2.1 hnum.2.2.2 hrn.1 hkey) M1.1 rfl rfl ⟨Nat.le_of_ble_eq_true rfl, Nat.le_of_ble_eq_true rfl⟩ rfl hl.1 rfl (Nat.le_of_ble_eq_true rfl) d_law3_266 ⟨by show (cu + 0) + 0 ≤ 600000; omega, by show (su + 0) + 0 ≤ 7302250; omega⟩) (fun r2 hN H locs hp X => ?_)
  obtain ⟨x', y', A', B', M2, hs1, hs2, hs3, hs⟩ := hp
  obtain ⟨er, hC2⟩ := hst _ x' y' A' B' ⟨hs1, hs2, hs3, pr, ns, e45, hpr1, hnum.2.2.1, hnum.2.2.2, hs⟩
  have ex3 : x' 3 = x 3 := by
    rcases hs with ⟨_, _, w⟩ | ⟨_, _, _, _, w⟩ | ⟨_, _, _, _, _, ⟨_, _, w⟩ | ⟨_, _, w⟩⟩ <;> rw [w] <;> rfl
  obtain ⟨L2, hz⟩ := lw_end hM q1 kp1 M2 hC2
  refine lv_icmp_eq (tgt := 754) hx hb d_law3_269 (by decide) (fun c3 => ?_) (fun z => absurd er z)
  exact K _ _ _ _ _ _ _ _ _ _ _ _ _ kp1.2 (congrFun (kp1.1 50 (by decide)).2 0) (I.nx hz ex3 (by rw [hs1]) (by rw [hs1])) X (lv_sub hl [0, 1, 2, 3] rfl)
