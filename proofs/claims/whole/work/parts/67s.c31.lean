theorem d_MenuScreens_read_0 : decode prog_1_method_3_code 0 = .ok (.aload_n 0, 1) := by decide +kernel
theorem d_MenuScreens_read_1 : decode prog_1_method_3_code 1 = .ok (.getfield 19, 3) := by decide +kernel
theorem d_MenuScreens_read_4 : decode prog_1_method_3_code 4 = .ok (.invokevirtual 50, 3) := by decide +kernel
theorem d_MenuScreens_read_7 : decode prog_1_method_3_code 7 = .ok (.astore_n 1, 1) := by decide +kernel
theorem d_MenuScreens_read_8 : decode prog_1_method_3_code 8 = .ok (.aload_n 0, 1) := by decide +kernel
theorem d_MenuScreens_read_9 : decode prog_1_method_3_code 9 = .ok (.getfield 19, 3) := by decide +kernel
theorem d_MenuScreens_read_12 : decode prog_1_method_3_code 12 = .ok (.iconst 0, 1) := by decide +kernel
theorem d_MenuScreens_read_13 : decode prog_1_method_3_code 13 = .ok (.invokevirtual 54, 3) := by decide +kernel
theorem d_MenuScreens_read_16 : decode prog_1_method_3_code 16 = .ok (.aload_n 0, 1) := by decide +kernel
theorem d_MenuScreens_read_17 : decode prog_1_method_3_code 17 = .ok (.getfield 34, 3) := by decide +kernel
theorem d_MenuScreens_read_20 : decode prog_1_method_3_code 20 = .ok (.invokevirtual 58, 3) := by decide +kernel
theorem d_MenuScreens_read_23 : decode prog_1_method_3_code 23 = .ok (.aload_n 0, 1) := by decide +kernel
theorem d_MenuScreens_read_24 : decode prog_1_method_3_code 24 = .ok (.getfield 26, 3) := by decide +kernel
theorem d_MenuScreens_read_27 : decode prog_1_method_3_code 27 = .ok (.aload_n 1, 1) := by decide +kernel
theorem d_MenuScreens_read_28 : decode prog_1_method_3_code 28 = .ok (.invokevirtual 63, 3) := by decide +kernel
theorem d_MenuScreens_read_31 : decode prog_1_method_3_code 31 = .ok (.istore_n 2, 1) := by decide +kernel
theorem d_MenuScreens_read_32 : decode prog_1_method_3_code 32 = .ok (.iload_n 2, 1) := by decide +kernel
theorem d_MenuScreens_read_33 : decode prog_1_method_3_code 33 = .ok (.ifCond .ne 25, 3) := by decide +kernel
theorem d_MenuScreens_read_36 : decode prog_1_method_3_code 36 = .ok (.aload_n 0, 1) := by decide +kernel
theorem d_MenuScreens_read_37 : decode prog_1_method_3_code 37 = .ok (.getfield 34, 3) := by decide +kernel
theorem d_MenuScreens_read_40 : decode prog_1_method_3_code 40 = .ok (.invokevirtual 67, 3) := by decide +kernel
theorem d_MenuScreens_read_43 : decode prog_1_method_3_code 43 = .ok (.aload_n 0, 1) := by decide +kernel
theorem d_MenuScreens_read_44 : decode prog_1_method_3_code 44 = .ok (.getfield 34, 3) := by decide +kernel
theorem d_MenuScreens_read_47 : decode prog_1_method_3_code 47 = .ok (.invokevirtual 70, 3) := by decide +kernel
theorem d_MenuScreens_read_50 : decode prog_1_method_3_code 50 = .ok (.aload_n 0, 1) := by decide +kernel
theorem d_MenuScreens_read_51 : decode prog_1_method_3_code 51 = .ok (.getfield 34, 3) := by decide +kernel
theorem d_MenuScreens_read_54 : decode prog_1_method_3_code 54 = .ok (.invokevirtual 73, 3) := by decide +kernel
theorem d_MenuScreens_read_57 : decode prog_1_method_3_code 57 = .ok (.istore_n 2, 1) := by decide +kernel
theorem d_MenuScreens_read_58 : decode prog_1_method_3_code 58 = .ok (.iload_n 2, 1) := by decide +kernel
theorem d_MenuScreens_read_59 : decode prog_1_method_3_code 59 = .ok (.ifCond .eq 10, 3) := by decide +kernel
theorem d_MenuScreens_read_62 : decode prog_1_method_3_code 62 = .ok (.aload_n 0, 1) := by decide +kernel
theorem d_MenuScreens_read_63 : decode prog_1_method_3_code 63 = .ok (.getfield 34, 3) := by decide +kernel
theorem d_MenuScreens_read_66 : decode prog_1_method_3_code 66 = .ok (.invokevirtual 76, 3) := by decide +kernel
theorem d_MenuScreens_read_69 : decode prog_1_method_3_code 69 = .ok (.aload_n 0, 1) := by decide +kernel
theorem d_MenuScreens_read_70 : decode prog_1_method_3_code 70 = .ok (.getfield 34, 3) := by decide +kernel
theorem d_MenuScreens_read_73 : decode prog_1_method_3_code 73 = .ok (.getfield 79, 3) := by decide +kernel
theorem d_MenuScreens_read_76 : decode prog_1_method_3_code 76 = .ok (.invokevirtual 83, 3) := by decide +kernel
theorem d_MenuScreens_read_79 : decode prog_1_method_3_code 79 = .ok (.istore_n 3, 1) := by decide +kernel
theorem d_MenuScreens_read_80 : decode prog_1_method_3_code 80 = .ok (.aload_n 0, 1) := by decide +kernel
theorem d_MenuScreens_read_81 : decode prog_1_method_3_code 81 = .ok (.iload_n 3, 1) := by decide +kernel
theorem d_MenuScreens_read_82 : decode prog_1_method_3_code 82 = .ok (.ifCond .le 7, 3) := by decide +kernel
theorem d_MenuScreens_read_85 : decode prog_1_method_3_code 85 = .ok (.iconst 1, 1) := by decide +kernel
theorem d_MenuScreens_read_86 : decode prog_1_method_3_code 86 = .ok (.goto 4, 3) := by decide +kernel
theorem d_MenuScreens_read_89 : decode prog_1_method_3_code 89 = .ok (.iconst 0, 1) := by decide +kernel
theorem d_MenuScreens_read_90 : decode prog_1_method_3_code 90 = .ok (.putfield 88, 3) := by decide +kernel
theorem d_MenuScreens_read_93 : decode prog_1_method_3_code 93 = .ok (.iload_n 2, 1) := by decide +kernel
theorem d_MenuScreens_read_94 : decode prog_1_method_3_code 94 = .ok (.ifCond .eq 9, 3) := by decide +kernel
theorem d_MenuScreens_read_97 : decode prog_1_method_3_code 97 = .ok (.iconst (-1), 1) := by decide +kernel
theorem d_MenuScreens_read_98 : decode prog_1_method_3_code 98 = .ok (.iload_n 2, 1) := by decide +kernel
theorem d_MenuScreens_read_99 : decode prog_1_method_3_code 99 = .ok (.isub, 1) := by decide +kernel
theorem d_MenuScreens_read_100 : decode prog_1_method_3_code 100 = .ok (.goto 4, 3) := by decide +kernel
theorem d_MenuScreens_read_103 : decode prog_1_method_3_code 103 = .ok (.iload_n 3, 1) := by decide +kernel
theorem d_MenuScreens_read_104 : decode prog_1_method_3_code 104 = .ok (.ireturn, 1) := by decide +kernel
set_option maxRecDepth 100000 in
set_option maxHeartbeats 4000000 in
theorem cm_MenuScreens_read {l : Launch} {S0 : State} {b : Nat} {D : va_G} {dT : Nat → ClassId} (hE : vEnv S0 b D dT) {dE mO : Nat} (hJ : vJ S0 dE mO) {h0 : vH} {hcv : vH} {ad : Nat → Nat → Nat} {L : vL} {cap : Nat} {x : Nat → Int32} {y : Nat → Int64} {A : Nat → Nat → Int32} {B : Nat → Nat → Int64} (xl : LH S0.heap.size hcv h0 ad L) (hC : CR dT dE h0 ad L cap x y A B) (hcE : ∃ fE, hcv dE = some (aR dT 0 fE)) {lt ltv : Nat} {txl : String} {lz2 lz3 : Value} {fl0 : Nat → Int32} (hlt : vk_R "MenuScreens$Line" 18 txl lt S0) (hlt1 : hcv lt = some (.inr (0, [.ref ltv, .int 0, lz2, lz3]))) (hlt2 : hcv ltv = some (.inl (dT 2, 0, .inl fl0))) {dl dlv : Nat} {txdl : String} {dl2 dl3 : Value} {fdl : Nat → Int32} (hdl : vk_R "MenuScreens$Reader" 170 txdl dl S0) (hdl1 : hcv dl = some (.inr (0, [.ref dlv, .int 0, dl2, dl3]))) (hdl2 : hcv dlv = some (.inl (dT 2, 1, .inl fdl))) (hdl3 : fdl 0 = 45) {le lev : Nat} {txle : String} {le2 le3 : Value} {fle : Nat → Int32} (hle : vk_R "MenuScreens$Reader" 189 txle le S0) (hle1 : hcv le = some (.inr (0, [.ref lev, .int 0, le2, le3]))) (hle2 : hcv lev = some (.inl (dT 2, 1, .inl fle))) (hle3 : fle 0 = 61) {ll llv : Nat} {txll : String} {ll2 ll3 : Value} {fll : Nat → Int32} (hll : vk_R "MenuScreens$Reader" 191 txll ll S0) (hll1 : hcv ll = some (.inr (0, [.ref llv, .int 0, ll2, ll3]))) (hll2 : hcv llv = some (.inl (dT 2, 1, .inl fll))) (hll3 : fll 0 = 60) {lg lgv : Nat} {txlg : String} {lg2 lg3 : Value} {flg : Nat → Int32} (hlg : vk_R "MenuScreens$Reader" 193 txlg lg S0) (hlg1 : hcv lg = some (.inr (0, [.ref lgv, .int 0, lg2, lg3]))) (hlg2 : hcv lgv = some (.inl (dT 2, 1, .inl flg))) (hlg3 : flg 0 = 62) {lw0 lw0v : Nat} {txlw0 : String} {lw02 lw03 : Value} (hlw0 : vk_R "MenuScreens$Reader" 58 txlw0 lw0 S0) (hlw01 : hcv lw0 = some (.inr (0, [.ref lw0v, .int 0, lw02, lw03]))) (hlw02 : hcv lw0v = some (.inl (dT 2, (ltW 0).1, .inl (ltW 0).2))) {lw1 lw1v : Nat} {txlw1 : String} {lw12 lw13 : Value} (hlw1 : vk_R "MenuScreens$Reader" 68 txlw1 lw1 S0) (hlw11 : hcv lw1 = some (.inr (0, [.ref lw1v, .int 0, lw12, lw13]))) (hlw12 : hcv lw1v = some (.inl (dT 2, (ltW 1).1, .inl (ltW 1).2))) {lw2 lw2v : Nat} {txlw2 : String} {lw22 lw23 : Value} (hlw2 : vk_R "MenuScreens$Reader" 73 txlw2 lw2 S0) (hlw21 : hcv lw2 = some (.inr (0, [.ref lw2v, .int 0, lw22, lw23]))) (hlw22 : hcv lw2v = some (.inl (dT 2, (ltW 2).1, .inl (ltW 2).2))) {lw3 lw3v : Nat} {txlw3 : String} {lw32 lw33 : Value} (hlw3 : vk_R "MenuScreens$Reader" 81 txlw3 lw3 S0) (hlw31 : hcv lw3 = some (.inr (0, [.ref lw3v, .int 0, lw32, lw33]))) (hlw32 : hcv lw3v = some (.inl (dT 2, (ltW 3).1, .inl (ltW 3).2))) {lw4 lw4v : Nat} {txlw4 : String} {lw42 lw43 : Value} (hlw4 : vk_R "MenuScreens$Reader" 87 txlw4 lw4 S0) (hlw41 : hcv lw4 = some (.inr (0, [.ref lw4v, .int 0, lw42, lw43]))) (hlw42 : hcv lw4v = some (.inl (dT 2, (ltW 4).1, .inl (ltW 4).2))) {lw5 lw5v : Nat} {txlw5 : String} {lw52 lw53 : Value} (hlw5 : vk_R "MenuScreens$Reader" 92 txlw5 lw5 S0) (hlw51 : hcv lw5 = some (.inr (0, [.ref lw5v, .int 0, lw52, lw53]))) (hlw52 : hcv lw5v = some (.inl (dT 2, (ltW 5).1, .inl (ltW 5).2))) {lw6 lw6v : Nat} {txlw6 : String} {lw62 lw63 : Value} (hlw6 : vk_R "MenuScreens$Reader" 97 txlw6 lw6 S0) (hlw61 : hcv lw6 = some (.inr (0, [.ref lw6v, .int 0, lw62, lw63]))) (hlw62 : hcv lw6v = some (.inl (dT 2, (ltW 6).1, .inl (ltW 6).2))) {lw7 lw7v : Nat} {txlw7 : String} {lw72 lw73 : Value} (hlw7 : vk_R "MenuScreens$Reader" 102 txlw7 lw7 S0) (hlw71 : hcv lw7 = some (.inr (0, [.ref lw7v, .int 0, lw72, lw73]))) (hlw72 : hcv lw7v = some (.inl (dT 2, (ltW 7).1, .inl (ltW 7).2))) {lw8 lw8v : Nat} {txlw8 : String} {lw82 lw83 : Value} (hlw8 : vk_R "MenuScreens$Reader" 107 txlw8 lw8 S0) (hlw81 : hcv lw8 = some (.inr (0, [.ref lw8v, .int 0, lw82, lw83]))) (hlw82 : hcv lw8v = some (.inl (dT 2, (ltW 8).1, .inl (ltW 8).2))) {n0 : Nat} (hn0 : x 3 = nI n0) (hn1 : n0 ≤ 4000) : vMi l S0 D vcl GT y_MenuScreens_read prog_1_method_3_code 4 (some .int) 12 274 (2 + 8 * (n0 + 1)) (4 + n0 + 1200 * (n0 + 1)) [.ref (ad 0 0)] h0 (fun r h' => clP dT dE S0.heap.size hcv h0 ad L cap (fun r x' y' A' B' => (∃ n, x 3 = nI n ∧ n ≤ 4000 ∧ (∀ k, k ≠ 0 → k ≠ 3 → k ≠ 5 → k ≠ 7 → k ≠ 8 → k ≠ 9 → k ≠ 10 → k ≠ 12 → k ≠ 20 → k ≠ 28 → k ≠ 39 → k ≠ 45 → k ≠ 48 → x' k = x k) ∧ (∀ k, k ≠ 11 → y' k = y k) ∧ ((∀ k, k = 4 ∨ k = 51 ∨ k = 53 ∨ k = 58 → A' k = A k) ∧ B' 52 = B 52) ∧ x' 0 = 0 ∧ x' 3 = 0 ∧ x' 5 = nI n ∧ ((∃ n1, rdR A B n = (n1, none) ∧ 0 < n1 ∧ n1 ≤ 4001 ∧ r = -1 - nI n1 ∧ x' 12 = 0 ∧ x' 20 = 0 ∧ x' 45 = 0 ∧ x' 48 = 0 ∧ keyP A' ∧ ∀ v, smL (B' 18 v)) ∨ (∃ nv ns np nc A2 B2, rdR A B n = (0, some (nv, ns, np, nc, A2, B2)) ∧ PI (rdA A n 6) (nv, ns, np, nc, A2, B2) 4001 ∧ x' 48 = nI (cnt (fun j => !hEnd (fun s k => ldS A2 ns (10 * s + k)) ns (j + 1)) ns) ∧ B' = B2 ∧ (∃ g, A' = va_up (va_up A2 25 g) 49 (rg (hEnd (fun s k => ldS A2 ns (10 * s + k)) ns) (A2 49) ns)) ∧ (¬ ffS A2 ns (hEnd (fun s k => ldS A2 ns (10 * s + k)) ns) ns ≤ 0 ∧ r = -1 - ffS A2 ns (hEnd (fun s k => ldS A2 ns (10 * s + k)) ns) ns ∧ x' 12 = 0 ∧ x' 20 = 0 ∧ x' 45 = 0 ∨ ¬ 0 < ffS A2 ns (hEnd (fun s k => ldS A2 ns (10 * s + k)) ns) ns ∧ r = nI ns ∧ x' 12 = nI nv ∧ x' 20 = nI ns ∧ x' 28 = nI np ∧ x' 39 = nI nc ∧ x' 45 = (if 0 < ns then nI 1 else nI 0)))))) r h') := by
  unfold vMi
  refine vM_ofQ hE.1 (by decide) (Nat.le_of_ble_eq_true rfl) (fun p e s m args below meth c ls Q hQ C hr hlk hnm X hl => ?_)
  have C : vC p s m _ c _ _ "MenuScreens" GT D vcl (vty dT) := C
  have hx := C.1.1
  have hb := C.1.2.1
  obtain ⟨H, eH⟩ : ∃ z, z = s.heap := ⟨_, rfl⟩
  obtain ⟨locs, elocs⟩ : ∃ z : List Loc, z = [] := ⟨_, rfl⟩
  rw [← eH, ← elocs] at X
  rw [← eH, ← elocs]
  clear eH elocs
  have hl : lv_has ls 4 [(0, .ref (ad 0 0))] := hl
  have hC0 := hC
  obtain ⟨⟨sp, bl, hTop, hsp, hlm⟩, hdim, ⟨n3, e3, hBld⟩, ⟨n50, e50, hWr⟩, ⟨nr, e48, hPl⟩, hRe, hLi, ⟨nv, ns, np, nc, pf, cb, ce, cs, c0, lh, hnum, hpr, hRP, hTx, hrn⟩, hkey, hsm⟩ := hC0
  have hTop2 : L 0 0 = some (.inr (3, [.int (x 1), .int (x 2), .ref (ad 1 0), .ref (ad 6 0), .ref (ad 2 0), .ref (ad 8 0), .int (x 45), .int sp, .int (x 46), .int bl, .int (x 55), .long (y 56), .long (y 57)])) := hTop
  have e30 : n0 = n3 := nI_eqI (by omega) (by obtain ⟨_, _, _, _, _, _, q, _⟩ := hBld; omega) (hn0.symm.trans e3)
  subst e30
  obtain ⟨fb, ml, hb10, hb11, hbn, hbc, hbn4, hbf, hbt⟩ := hBld
  obtain ⟨hPl1, hPl2, fr, hPl3, hPl4⟩ := hPl
  obtain ⟨sc0, pe0, h6⟩ := hRe
  obtain ⟨tx0, ci0, fs0, fe0, h70, h71, h72⟩ := hLi
  refine lv_aload_n hx hb d_MenuScreens_read_0 rfl (lv_at hl 0 rfl) ?_
  refine mv_get C X (xl.get (i := 0) (j := 0) hTop2) 2 f_0_19_3 (v := .ref (ad 1 0)) rfl d_MenuScreens_read_1 ?_
  refine mv_bq X (mv_rV (rest := []) (As := []) gt_good C X k_0_50 (cm_StringBuilder_toString hE hJ hbn (by omega) hbf (xl.get (i := 1) (j := 0) hb10) (xl.get (i := 1) (j := 1) hb11) (xl.wr (i := 1) (j := 1) hb11)) (xl.get (i := 1) (j := 0) hb10) rfl rfl ⟨Nat.le_of_ble_eq_true rfl, Nat.le_of_ble_eq_true rfl⟩ rfl hl.1 rfl (Nat.le_of_ble_eq_true rfl) d_MenuScreens_read_4 ⟨by show 0 + 2 ≤ (2 + 8 * (n0 + 1)); omega, by show 0 + (4 + n0) ≤ (4 + n0 + 1200 * (n0 + 1)); omega⟩) (fun r1 hN H locs hp X => ?_)
  obtain ⟨tq, tqa, gq, er, pv, ⟨zq, zqa⟩, kq, kqa, wqa, hgf, hgk⟩ := hp
  subst er
  change W _ _ _ _ _ _ _ _ _ _ _ _ _ _ _ (F0 _ _ _ (.ref tq :: _))
  have y1 : LR S0.heap.size hcv h0 ad L hN ad L := (LR.of xl).fx pv
  have hX1 : TX dT S0.heap.size hN ad L (rdA A n0 6) n0 tq := rd_tx hn1 xl zq zqa kq kqa wqa hgk hbt
  refine lv_astore_n (lv' := [(1, .ref tq), (0, .ref (ad 0 0))]) hx hb d_MenuScreens_read_7 rfl hl (by decide) rfl (fun ls hl => ?_)
  refine lv_aload_n hx hb d_MenuScreens_read_8 rfl (lv_at hl 1 rfl) ?_
  refine mv_get C X (y1.1.get (i := 0) (j := 0) hTop2) 2 f_0_19_3 (v := .ref (ad 1 0)) rfl d_MenuScreens_read_9 ?_
  refine lv_iconst (v := 0) hx hb d_MenuScreens_read_12 (by decide) ?_
  refine mv_bv X (mv_rV (rest := []) (As := [.int 0]) gt_good C X k_0_54 (cm_StringBuilder_setLength hE hJ (n := n0) (by omega) (by omega) (y1.1.get (i := 1) (j := 0) hb10) (y1.1.wr (i := 1) (j := 0) hb10) (y1.1.get (i := 1) (j := 1) hb11) (y1.1.wr (i := 1) (j := 1) hb11)) (y1.1.get (i := 1) (j := 0) hb10) rfl rfl ⟨Nat.le_of_ble_eq_true rfl, Nat.le_of_ble_eq_true rfl⟩ rfl hl.1 rfl (Nat.le_of_ble_eq_true rfl) d_MenuScreens_read_13 ⟨by show (0 + 2) + 0 ≤ (2 + 8 * (n0 + 1)); omega, by show (0 + (4 + n0)) + 0 ≤ (4 + n0 + 1200 * (n0 + 1)); omega⟩) (fun hN H locs hp X => ?_)
  obtain ⟨ml2, eh⟩ := hp
  obtain ⟨L1, eL1⟩ : ∃ z : vL, z = lput L 1 0 (some (.inr (1, [.ref (ad 1 1), .int 0, .int ml2, .int 0]))) := ⟨_, rfl⟩
  have z2 := (LR.of y1.1).put (i := 1) (j := 0) (e' := .inr (1, [.ref (ad 1 1), .int 0, .int ml2, .int 0])) hb10
  rw [← eh, ← eL1] at z2
  have y2 := y1.trans z2
  have hX2 := hX1.lx z2.2
  have g1 : ∀ i, i ≠ 1 → L1 i = L i := fun i hi => by rw [eL1]; exact lput_k _ _ hi
  have hT2 : L1 0 0 = some (.inr (3, [.int (x 1), .int (x 2), .ref (ad 1 0), .ref (ad 6 0), .ref (ad 2 0), .ref (ad 8 0), .int (x 45), .int sp, .int (x 46), .int bl, .int (x 55), .long (y 56), .long (y 57)])) := by rw [g1 0 (by decide)]; exact hTop2
  have h22 : L1 2 0 = some (.inr (4, [.ref (ad 3 0), .ref (ad 4 0), .ref (ad 5 0), .int (nI nr)])) := by rw [g1 2 (by decide)]; exact hPl1
  have hRP2 := hRP.to y2.2 (fun i hi => ⟨g1 i (by omega), rfl⟩)
  refine lv_aload_n hx hb d_MenuScreens_read_16 rfl (lv_at hl 1 rfl) ?_
  refine mv_get C X (y2.1.get (i := 0) (j := 0) hT2) 4 f_0_34_3 (v := .ref (ad 2 0)) rfl d_MenuScreens_read_17 ?_
  refine mv_bv X (mv_rV (rest := []) (As := []) gt_good C X k_0_58 (cm_Plan_clear hE hJ y2.1 hcE hRP2.1.1 hRP2.2.1.1 h22) (y2.1.get (i := 2) (j := 0) h22) rfl rfl ⟨Nat.le_of_ble_eq_true rfl, Nat.le_of_ble_eq_true rfl⟩ rfl hl.1 rfl (Nat.le_of_ble_eq_true rfl) d_MenuScreens_read_20 ⟨by show ((0 + 2) + 0) + 0 ≤ (2 + 8 * (n0 + 1)); omega, by show ((0 + (4 + n0)) + 0) + 0 ≤ (4 + n0 + 1200 * (n0 + 1)); omega⟩) (fun hN H locs hp X => ?_)
  obtain ⟨L3, z3, r31, r32, h23, k3⟩ := hp
  have y3 := y2.trans z3
  have hX3 := hX2.lx z3.2
  have g3 : ∀ i, i ≠ 1 → i ≠ 2 → i ≠ 3 → i ≠ 30 → i ≠ 4 → i ≠ 31 → L3 i = L i := fun i q1 q2 q3 q4 q5 q6 => (k3 i q2 q3 q4 q5 q6).trans (g1 i q1)
  have hT3 : L3 0 0 = some (.inr (3, [.int (x 1), .int (x 2), .ref (ad 1 0), .ref (ad 6 0), .ref (ad 2 0), .ref (ad 8 0), .int (x 45), .int sp, .int (x 46), .int bl, .int (x 55), .long (y 56), .long (y 57)])) := by rw [k3 0 (by decide) (by decide) (by decide) (by decide) (by decide)]; exact hT2
  have h63 : L3 6 0 = some (.inr (5, [.ref (ad 2 0), .ref (ad 7 0), va_rf sc0, va_rf pe0])) := by rw [g3 6 (by decide) (by decide) (by decide) (by decide) (by decide) (by decide)]; exact h6
  have h73 := g3 7 (by decide) (by decide) (by decide) (by decide) (by decide) (by decide)
  have hL7 : L3 7 0 = some (.inr (6, [.ref (ad 7 1), .ref (ad 7 2), tx0, .int ci0])) ∧ L3 7 1 = some (aI dT 6 fs0) ∧ L3 7 2 = some (aI dT 6 fe0) := by rw [h73]; exact ⟨h70, h71, h72⟩
  have hPI : PI (rdA A n0 6) (0, 0, 0, 0, rdA A n0, B) 0 := ⟨Nat.zero_le _, Nat.zero_le _, Nat.le_refl _, rfl, fun v q1 q2 => absurd (show 1 ≤ 0 from Nat.le_trans q1 q2) (by decide), fun v q1 q2 => absurd (show 1 ≤ 0 from Nat.le_trans q1 q2) (by decide), hkey, fun q hq => absurd hq (Nat.not_lt_zero _), fun q hq => absurd hq (Nat.not_lt_zero _), hsm⟩
  refine lv_aload_n hx hb d_MenuScreens_read_23 rfl (lv_at hl 1 rfl) ?_
  refine mv_get C X (y3.1.get (i := 0) (j := 0) hT3) 3 f_0_26_3 (v := .ref (ad 6 0)) rfl d_MenuScreens_read_24 ?_
  refine lv_aload_n hx hb d_MenuScreens_read_27 rfl (lv_at hl 0 rfl) ?_
  refine mv_bi X (mv_rV (rest := []) (As := [.ref tq]) gt_good C X k_0_63 (cm_Reader_firstWrongLine hE hJ (A0 := rdA A n0) (B0 := B) y3.1 hcE r31 r32 h23 h63 hL7 hX3 rfl hPI hlt hlt1 hlt2 hdl hdl1 hdl2 hdl3 hle hle1 hle2 hle3 hll hll1 hll2 hll3 hlg hlg1 hlg2 hlg3 hlw0 hlw01 hlw02 hlw1 hlw11 hlw12 hlw2 hlw21 hlw22 hlw3 hlw31 hlw32 hlw4 hlw41 hlw42 hlw5 hlw51 hlw52 hlw6 hlw61 hlw62 hlw7 hlw71 hlw72 hlw8 hlw81 hlw82) (y3.1.get (i := 6) (j := 0) h63) rfl rfl ⟨Nat.le_of_ble_eq_true rfl, Nat.le_of_ble_eq_true rfl⟩ rfl hl.1 rfl (Nat.le_of_ble_eq_true rfl) d_MenuScreens_read_28 ⟨by show (((0 + 2) + 0) + 0) + (8 * (n0 + 1)) ≤ (2 + 8 * (n0 + 1)); omega, by show (((0 + (4 + n0)) + 0) + 0) + (1200 * (n0 + 1)) ≤ (4 + n0 + 1200 * (n0 + 1)); omega⟩) (fun r4 hN H locs hp X => ?_)
  obtain ⟨ad4, L4, nv4, ns4, np4, nc4, A4, B4, pf4, cb4, ce4, cs4, cz4, z4, kk4, hR4, a6, ⟨a7, tx4, ci4, fs4, fe4, l70, l71, l72⟩, hq⟩ := hp
  have y4 := y3.trans z4
  have k0 := kk4 0 (by unfold kK2 kK; omega)
  have k1 := kk4 1 (by unfold kK2 kK; omega)
  have k2 := kk4 2 (by unfold kK2 kK; omega)
  have k5a := kk4 5 (by unfold kK2 kK; omega)
  have k8 := kk4 8 (by unfold kK2 kK; omega)
  have hT4 : L4 0 0 = some (.inr (3, [.int (x 1), .int (x 2), .ref (ad4 1 0), .ref (ad4 6 0), .ref (ad4 2 0), .ref (ad4 8 0), .int (x 45), .int sp, .int (x 46), .int bl, .int (x 55), .long (y 56), .long (y 57)])) := by rw [k0.1, k1.2, k2.2, a6, k8.2]; exact hT3
  have kT4 := y4.1.get (i := 0) (j := 0) hT4
  rw [k0.2] at kT4
  have l54 : L4 5 0 = some (aI dT 30 fr) := by rw [k5a.1, g3 5 (by decide) (by decide) (by decide) (by decide) (by decide) (by decide)]; exact hPl3
  have lb4 : ∃ f ml, L4 1 0 = some (.inr (1, [.ref (ad4 1 1), .int 0, .int ml, .int 0])) ∧ L4 1 1 = some (.inl (dT 2, cap, .inl f)) ∧ cap ≤ 8002 ∧ fitB f cap := by
    rw [k1.1, k1.2, k3 1 (by decide) (by decide) (by decide) (by decide) (by decide), eL1]; exact ⟨fb, ml2, rfl, hb11, hbc, hbf⟩
  have re4 : cRea ad4 L4 := ⟨_, _, hR4.2.2⟩
  have li4 : cLin dT ad4 L4 := ⟨tx4, ci4, fs4, fe4, by rw [a7]; exact l70, l71, l72⟩
  have l84 : L4 8 = L 8 := k8.1.trans (g3 8 (by decide) (by decide) (by decide) (by decide) (by decide) (by decide))
  have wT : S0.heap.size ≤ ad 0 0 := xl.wr (i := 0) (j := 0) hTop2
  have kp4 : ∀ i, 49 < i → L4 i = L i ∧ ad4 i = ad i := fun i hi => by
    have q := kk4 i (by unfold kK2 kK; omega)
    exact ⟨q.1.trans (g3 i (by omega) (by omega) (by omega) (by omega) (by omega) (by omega)), q.2⟩
  rcases hq with ⟨n1, en, en1, en2, er⟩ | ⟨en, er, hI⟩
  · subst er
    refine lv_istore_n (lv' := [(2, .int (nI n1)), (1, .ref tq), (0, .ref (ad 0 0))]) hx hb d_MenuScreens_read_31 rfl hl (by decide) rfl (fun ls hl => ?_)
    refine lv_iload_n hx hb d_MenuScreens_read_32 rfl (lv_at hl 0 rfl) ?_
    refine lv_if_ne (tgt := 58) hx hb d_MenuScreens_read_33 (by decide) (fun c5 => ?_) (fun z => absurd z (fun q => absurd (nI_eqI (b := 0) (by omega) (by decide) q) (by omega)))
    refine lv_iload_n hx hb d_MenuScreens_read_58 rfl (lv_at hl 0 rfl) ?_
    refine lv_if_eq (tgt := 69) hx hb d_MenuScreens_read_59 (by decide) (fun z => absurd z (fun q => absurd (nI_eqI (b := 0) (by omega) (by decide) q) (by omega))) (fun c6 => ?_)
    refine lv_aload_n hx hb d_MenuScreens_read_62 rfl (lv_at hl 2 rfl) ?_
    refine mv_get C X kT4 4 f_0_34_3 (v := .ref (ad4 2 0)) rfl d_MenuScreens_read_63 ?_
    refine mv_bv X (mv_rV (rest := []) (As := []) gt_good C X k_0_76 (cm_Plan_clearScreensAndValues hE hJ y4.1 hcE hR4.1.1.1 hR4.1.2.1.1 hR4.2.1) (y4.1.get (i := 2) (j := 0) hR4.2.1) rfl rfl ⟨Nat.le_of_ble_eq_true rfl, Nat.le_of_ble_eq_true rfl⟩ rfl hl.1 rfl (Nat.le_of_ble_eq_true rfl) d_MenuScreens_read_66 ⟨by show ((((0 + 2) + 0) + 0) + (8 * (n0 + 1))) + 0 ≤ (2 + 8 * (n0 + 1)); omega, by show ((((0 + (4 + n0)) + 0) + 0) + (1200 * (n0 + 1))) + 0 ≤ (4 + n0 + 1200 * (n0 + 1)); omega⟩) (fun hN H locs hp X => ?_)
    obtain ⟨L7, z7, r71, r72, k7⟩ := hp
    have y7 := y4.trans z7
    have h27 := (congrFun (k7 2 (by decide) (by decide) (by decide) (by decide)) 0).trans hR4.2.1
    have hT7 : L7 0 0 = some (.inr (3, [.int (x 1), .int (x 2), .ref (ad4 1 0), .ref (ad4 6 0), .ref (ad4 2 0), .ref (ad4 8 0), .int (x 45), .int sp, .int (x 46), .int bl, .int (x 55), .long (y 56), .long (y 57)])) := by rw [k7 0 (by decide) (by decide) (by decide) (by decide)]; exact hT4
    have kT7 := y7.1.get (i := 0) (j := 0) hT7
    rw [k0.2] at kT7
    obtain ⟨ea7, md7, l47, -⟩ := id r72
    refine lv_aload_n hx hb d_MenuScreens_read_69 rfl (lv_at hl 2 rfl) ?_
    refine mv_get C X kT7 4 f_0_34_3 (v := .ref (ad4 2 0)) rfl d_MenuScreens_read_70 ?_
    refine mv_get C X (y7.1.get (i := 2) (j := 0) h27) 1 f_0_79_4 (v := .ref (ad4 4 0)) rfl d_MenuScreens_read_73 ?_
    refine mv_bi X (mv_rV (rest := []) (As := []) gt_good C X k_0_83 (cm_ArrayList_size hE (y7.1.get (i := 4) (j := 0) l47)) (y7.1.get (i := 4) (j := 0) l47) rfl rfl ⟨Nat.le_of_ble_eq_true rfl, Nat.le_of_ble_eq_true rfl⟩ rfl hl.1 rfl (Nat.le_of_ble_eq_true rfl) d_MenuScreens_read_76 ⟨by show (((((0 + 2) + 0) + 0) + (8 * (n0 + 1))) + 0) + 0 ≤ (2 + 8 * (n0 + 1)); omega, by show (((((0 + (4 + n0)) + 0) + 0) + (1200 * (n0 + 1))) + 0) + 0 ≤ (4 + n0 + 1200 * (n0 + 1)); omega⟩) (fun r8 hN H locs hp X => ?_)
    obtain ⟨eh, er⟩ := hp
    replace eh := eh.symm
    replace er := er.symm
    subst eh er
    refine lv_istore_n (lv' := [(3, .int (nI 0)), (2, .int (nI n1)), (1, .ref tq), (0, .ref (ad 0 0))]) hx hb d_MenuScreens_read_79 rfl hl (by decide) rfl (fun ls hl => ?_)
    refine lv_aload_n hx hb d_MenuScreens_read_80 rfl (lv_at hl 3 rfl) ?_
    refine lv_iload_n hx hb d_MenuScreens_read_81 rfl (lv_at hl 0 rfl) ?_
    refine lv_if_le (tgt := 89) hx hb d_MenuScreens_read_82 (by decide) (fun c9 => ?_) (fun z => absurd (by decide : nI 0 ≤ 0) z)
    refine lv_iconst (v := 0) hx hb d_MenuScreens_read_89 (by decide) ?_
    refine mv_put C X kT7 wT 6 p_0_88_3 rfl rfl (Nat.le_of_ble_eq_true rfl) d_MenuScreens_read_90 (fun H locs X => ?_)
    have X : vO S0 D vcl (vup hN (ad 0 0) (.inr (3, [.int (x 1), .int (x 2), .ref (ad4 1 0), .ref (ad4 6 0), .ref (ad4 2 0), .ref (ad4 8 0), .int 0, .int sp, .int (x 46), .int bl, .int (x 55), .long (y 56), .long (y 57)]))) s H locs := X
    refine lv_iload_n hx hb d_MenuScreens_read_93 rfl (lv_at hl 1 rfl) ?_
    refine lv_if_eq (tgt := 103) hx hb d_MenuScreens_read_94 (by decide) (fun z => absurd z (fun q => absurd (nI_eqI (b := 0) (by omega) (by decide) q) (by omega))) (fun c10 => ?_)
    refine lv_iconst (v := (-1)) hx hb d_MenuScreens_read_97 (by decide) ?_
    refine lv_iload_n hx hb d_MenuScreens_read_98 rfl (lv_at hl 1 rfl) ?_
    refine lv_isub hx hb d_MenuScreens_read_99 ?_
    refine lv_goto (tgt := 104) hx hb d_MenuScreens_read_100 (by decide) ?_
    exact mq_iret hQ C X hr rfl hlk (by
        obtain ⟨L8, eL8⟩ : ∃ z : vL, z = lput L7 0 0 (some (.inr (3, [.int (x 1), .int (x 2), .ref (ad4 1 0), .ref (ad4 6 0), .ref (ad4 2 0), .ref (ad4 8 0), .int 0, .int sp, .int (x 46), .int bl, .int (x 55), .long (y 56), .long (y 57)]))) := ⟨_, rfl⟩
        have yF := y7.put (i := 0) (j := 0) (e' := .inr (3, [.int (x 1), .int (x 2), .ref (ad4 1 0), .ref (ad4 6 0), .ref (ad4 2 0), .ref (ad4 8 0), .int 0, .int sp, .int (x 46), .int bl, .int (x 55), .long (y 56), .long (y 57)])) hT7
        rw [k0.2, ← eL8] at yF
        have h80 : L8 0 0 = some (.inr (3, [.int (x 1), .int (x 2), .ref (ad4 1 0), .ref (ad4 6 0), .ref (ad4 2 0), .ref (ad4 8 0), .int 0, .int sp, .int (x 46), .int bl, .int (x 55), .long (y 56), .long (y 57)])) := by rw [eL8]; exact lput_s _ _ _ _
        have g8 : ∀ i, i ≠ 0 → L8 i = L7 i := fun i hi => by rw [eL8]; exact lput_k _ _ hi
        have u8 : ∀ i, i ≠ 0 → i ≠ 3 → i ≠ 30 → i ≠ 4 → i ≠ 31 → L8 i = L4 i := fun i q1 q2 q3 q4 q5 => (g8 i q1).trans (k7 i q2 q3 q4 q5)
        have kpf : kpF ad L ad4 L8 := ⟨fun i hi => ⟨(u8 i (by omega) (by omega) (by omega) (by omega) (by omega)).trans (kp4 i hi).1, (kp4 i hi).2⟩, congrFun k0.2 0⟩
        have v1 : L8 1 = L4 1 := u8 1 (by decide) (by decide) (by decide) (by decide) (by decide)
        have v6 : L8 6 = L4 6 := u8 6 (by decide) (by decide) (by decide) (by decide) (by decide)
        have v7 : L8 7 = L4 7 := u8 7 (by decide) (by decide) (by decide) (by decide) (by decide)
        have v8 : L8 8 = L4 8 := u8 8 (by decide) (by decide) (by decide) (by decide) (by decide)
        have lb8 := lb4
        rw [← v1] at lb8
        have re8 : cRea ad4 L8 := by unfold cRea; rw [v6]; exact re4
        have li8 : cLin dT ad4 L8 := by unfold cLin; rw [v7]; exact li4
        refine ⟨ad4, L8, yF, kpf, fun r' x' y' A' B' hst => ?_⟩
        obtain ⟨n, a1, a2, bx, by0, ⟨bA, bB⟩, b0, b3, b5, hq'⟩ := hst
        have en0 : n = n0 := nI_eqI (by omega) (by omega) (a1.symm.trans hn0)
        subst en0
        have q71 : rLst dT dE ad4 L8 3 30 0 0 (ad4 10) := by
          obtain ⟨q1, q2, q3, q4⟩ := r71
          refine ⟨q1, q2, ?_, ?_⟩
          · rw [g8 3 (by decide)]; exact q3
          · rw [g8 30 (by decide)]; exact q4
        have q72 : rLst dT dE ad4 L8 4 31 0 0 (ad4 11) := by
          obtain ⟨q1, q2, q3, q4⟩ := r72
          refine ⟨q1, q2, ?_, ?_⟩
          · rw [g8 4 (by decide)]; exact q3
          · rw [g8 31 (by decide)]; exact q4
        have h28 := (congrFun (g8 2 (by decide)) 0).trans h27
        have h58 := congrFun (u8 5 (by decide) (by decide) (by decide) (by decide) (by decide)) 0
        rcases hq' with ⟨m1, d1, d2, d3, d4, d5, d6, d7, d8, d9, d10⟩ | ⟨nv', ns', np', nc', A2, B2, d1, d2, d3⟩
        · have ez := en.symm.trans d1
          have w1 : n1 = m1 := congrArg Prod.fst ez
          subst w1
          have ex45 := d7
          refine ⟨d4.symm, CR_rd hC bx by0 bA bB b3 hsp hlm (by rw [h80, ex45]) k8.2 (v8.trans l84) lb8 ⟨0, d8, h28, Nat.zero_le _, fr, h58.trans l54, fun j hj => absurd hj (Nat.not_lt_zero _)⟩ re8 li8 (rp_none q71 q72 d5 d6 d7) d9 d10⟩
        · exfalso
          have ez := en.symm.trans d1
          have w2 := congrArg Prod.snd ez
          exact absurd w2 (by simp)) (by omega) (by omega) d_MenuScreens_read_104
  · subst er
    refine lv_istore_n (lv' := [(2, .int 0), (1, .ref tq), (0, .ref (ad 0 0))]) hx hb d_MenuScreens_read_31 rfl hl (by decide) rfl (fun ls hl => ?_)
    refine lv_iload_n hx hb d_MenuScreens_read_32 rfl (lv_at hl 0 rfl) ?_
    refine lv_if_ne (tgt := 58) hx hb d_MenuScreens_read_33 (by decide) (fun z => absurd z (fun q => q rfl)) (fun c11 => ?_)
    refine lv_aload_n hx hb d_MenuScreens_read_36 rfl (lv_at hl 2 rfl) ?_
    refine mv_get C X kT4 4 f_0_34_3 (v := .ref (ad4 2 0)) rfl d_MenuScreens_read_37 ?_
    refine mv_bv X (mv_rV (rest := []) (As := []) gt_good C X k_0_67 (cm_Plan_joinKeys hE hJ y4.1 hcE hR4.1 hR4.2.1 hI.2.1) (y4.1.get (i := 2) (j := 0) hR4.2.1) rfl rfl ⟨Nat.le_of_ble_eq_true rfl, Nat.le_of_ble_eq_true rfl⟩ rfl hl.1 rfl (Nat.le_of_ble_eq_true rfl) d_MenuScreens_read_40 ⟨by show ((((0 + 2) + 0) + 0) + (8 * (n0 + 1))) + 0 ≤ (2 + 8 * (n0 + 1)); omega, by show ((((0 + (4 + n0)) + 0) + 0) + (1200 * (n0 + 1))) + 0 ≤ (4 + n0 + 1200 * (n0 + 1)); omega⟩) (fun hN H locs hp X => ?_)
    obtain ⟨L5, z5, hR5, k5⟩ := hp
    have y5 := y4.trans z5
    have h25 : L5 2 0 = some (.inr (4, [.ref (ad4 3 0), .ref (ad4 4 0), .ref (ad4 5 0), .int 0])) := by rw [k5 2 (by decide)]; exact hR4.2.1
    have l55 : L5 5 0 = some (aI dT 30 fr) := by rw [k5 5 (by decide)]; exact l54
    have hT5 : L5 0 0 = some (.inr (3, [.int (x 1), .int (x 2), .ref (ad4 1 0), .ref (ad4 6 0), .ref (ad4 2 0), .ref (ad4 8 0), .int (x 45), .int sp, .int (x 46), .int bl, .int (x 55), .long (y 56), .long (y 57)])) := by rw [k5 0 (by decide)]; exact hT4
    have kT5 := y5.1.get (i := 0) (j := 0) hT5
    rw [k0.2] at kT5
    refine lv_aload_n hx hb d_MenuScreens_read_43 rfl (lv_at hl 2 rfl) ?_
    refine mv_get C X kT5 4 f_0_34_3 (v := .ref (ad4 2 0)) rfl d_MenuScreens_read_44 ?_
    refine mv_bv X (mv_rV (rest := []) (As := []) gt_good C X k_0_70 (cm_Plan_findRings hE hJ (kf := fun s k => ldS A4 ns4 (10 * s + k)) y5.1 hcE hR5 h25 hI.2.1 (fun s k => ldS_le A4 ns4 _) rfl l55) (y5.1.get (i := 2) (j := 0) h25) rfl rfl ⟨Nat.le_of_ble_eq_true rfl, Nat.le_of_ble_eq_true rfl⟩ rfl hl.1 rfl (Nat.le_of_ble_eq_true rfl) d_MenuScreens_read_47 ⟨by show (((((0 + 2) + 0) + 0) + (8 * (n0 + 1))) + 0) + 0 ≤ (2 + 8 * (n0 + 1)); omega, by show (((((0 + (4 + n0)) + 0) + 0) + (1200 * (n0 + 1))) + 0) + 0 ≤ (4 + n0 + 1200 * (n0 + 1)); omega⟩) (fun hN H locs hp X => ?_)
    obtain ⟨L6, z6, hR6, h26, h56, k6⟩ := hp
    have y6 := y5.trans z6
    have hT6 : L6 0 0 = some (.inr (3, [.int (x 1), .int (x 2), .ref (ad4 1 0), .ref (ad4 6 0), .ref (ad4 2 0), .ref (ad4 8 0), .int (x 45), .int sp, .int (x 46), .int bl, .int (x 55), .long (y 56), .long (y 57)])) := by rw [k6 0 (by decide) (by decide) (by decide)]; exact hT5
    have kT6 := y6.1.get (i := 0) (j := 0) hT6
    rw [k0.2] at kT6
    refine lv_aload_n hx hb d_MenuScreens_read_50 rfl (lv_at hl 2 rfl) ?_
    refine mv_get C X kT6 4 f_0_34_3 (v := .ref (ad4 2 0)) rfl d_MenuScreens_read_51 ?_
    refine mv_bi X (mv_rV (rest := []) (As := []) gt_good C X k_0_73 (cm_Plan_firstWrongScreenLine hE hJ y6.1 hcE hR6 h26 hI.2.1) (y6.1.get (i := 2) (j := 0) h26) rfl rfl ⟨Nat.le_of_ble_eq_true rfl, Nat.le_of_ble_eq_true rfl⟩ rfl hl.1 rfl (Nat.le_of_ble_eq_true rfl) d_MenuScreens_read_54 ⟨by show ((((((0 + 2) + 0) + 0) + (8 * (n0 + 1))) + 0) + 0) + 0 ≤ (2 + 8 * (n0 + 1)); omega, by show ((((((0 + (4 + n0)) + 0) + 0) + (1200 * (n0 + 1))) + 0) + 0) + 0 ≤ (4 + n0 + 1200 * (n0 + 1)); omega⟩) (fun r14 hN H locs hp X => ?_)
    obtain ⟨eh, er⟩ := hp
    have Xn := X
    subst eh
    have X := Xn
    obtain ⟨ee1, ee2, ee3⟩ := end_eq (A := A4) (K := fun s k => ldS A4 ns4 (10 * s + k)) ns4 fr (A4 49)
    rw [ee1] at er
    have hps := ffS_pos (A := A4) (ns := ns4) (hb := hEnd (fun s k => ldS A4 ns4 (10 * s + k)) ns4) (fun s q1 q2 => by
      obtain ⟨l2, l3, l4, l5⟩ := (hR6.2.1.2 (s - 1) (by omega)).2.2.2.2.2
      rw [show s - 1 + 1 = s by omega] at l3
      rw [l3]; exact (nI_ltI (a := 0) (by decide) (by omega)).mpr (by omega)) ns4 (Nat.le_refl _)
    have l16 : L6 1 = L4 1 := (k6 1 (by decide) (by decide) (by decide)).trans (k5 1 (by decide))
    have l66 : L6 6 = L4 6 := (k6 6 (by decide) (by decide) (by decide)).trans (k5 6 (by decide))
    have l76 : L6 7 = L4 7 := (k6 7 (by decide) (by decide) (by decide)).trans (k5 7 (by decide))
    have l86 : L6 8 = L4 8 := (k6 8 (by decide) (by decide) (by decide)).trans (k5 8 (by decide))
    refine lv_istore_n (lv' := [(2, .int r14), (1, .ref tq), (0, .ref (ad 0 0))]) hx hb d_MenuScreens_read_57 rfl hl (by decide) rfl (fun ls hl => ?_)
    refine lv_iload_n hx hb d_MenuScreens_read_58 rfl (lv_at hl 0 rfl) ?_
    refine lv_if_eq (tgt := 69) hx hb d_MenuScreens_read_59 (by decide) (fun c15 => ?_) (fun c15 => ?_)
    · skip
      obtain ⟨ea6, md6, l46, -⟩ := id hR6.2.1.1
      refine lv_aload_n hx hb d_MenuScreens_read_69 rfl (lv_at hl 2 rfl) ?_
      refine mv_get C X kT6 4 f_0_34_3 (v := .ref (ad4 2 0)) rfl d_MenuScreens_read_70 ?_
      refine mv_get C X (y6.1.get (i := 2) (j := 0) h26) 1 f_0_79_4 (v := .ref (ad4 4 0)) rfl d_MenuScreens_read_73 ?_
      refine mv_bi X (mv_rV (rest := []) (As := []) gt_good C X k_0_83 (cm_ArrayList_size hE (y6.1.get (i := 4) (j := 0) l46)) (y6.1.get (i := 4) (j := 0) l46) rfl rfl ⟨Nat.le_of_ble_eq_true rfl, Nat.le_of_ble_eq_true rfl⟩ rfl hl.1 rfl (Nat.le_of_ble_eq_true rfl) d_MenuScreens_read_76 ⟨by show (((((((0 + 2) + 0) + 0) + (8 * (n0 + 1))) + 0) + 0) + 0) + 0 ≤ (2 + 8 * (n0 + 1)); omega, by show (((((((0 + (4 + n0)) + 0) + 0) + (1200 * (n0 + 1))) + 0) + 0) + 0) + 0 ≤ (4 + n0 + 1200 * (n0 + 1)); omega⟩) (fun r16 hN H locs hp X => ?_)
      obtain ⟨eh, er⟩ := hp
      replace eh := eh.symm
      replace er := er.symm
      subst eh er
      refine lv_istore_n (lv' := [(3, .int (nI ns4)), (2, .int r14), (1, .ref tq), (0, .ref (ad 0 0))]) hx hb d_MenuScreens_read_79 rfl hl (by decide) rfl (fun ls hl => ?_)
      refine lv_aload_n hx hb d_MenuScreens_read_80 rfl (lv_at hl 3 rfl) ?_
      refine lv_iload_n hx hb d_MenuScreens_read_81 rfl (lv_at hl 0 rfl) ?_
      refine lv_if_le (tgt := 89) hx hb d_MenuScreens_read_82 (by decide) (fun c17 => ?_) (fun c17 => ?_)
      · skip
        refine lv_iconst (v := 0) hx hb d_MenuScreens_read_89 (by decide) ?_
        refine mv_put C X kT6 wT 6 p_0_88_3 rfl rfl (Nat.le_of_ble_eq_true rfl) d_MenuScreens_read_90 (fun H locs X => ?_)
        have X : vO S0 D vcl (vup hN (ad 0 0) (.inr (3, [.int (x 1), .int (x 2), .ref (ad4 1 0), .ref (ad4 6 0), .ref (ad4 2 0), .ref (ad4 8 0), .int 0, .int sp, .int (x 46), .int bl, .int (x 55), .long (y 56), .long (y 57)]))) s H locs := X
        refine lv_iload_n hx hb d_MenuScreens_read_93 rfl (lv_at hl 1 rfl) ?_
        refine lv_if_eq (tgt := 103) hx hb d_MenuScreens_read_94 (by decide) (fun c18 => ?_) (fun z => absurd c15 z)
        refine lv_iload_n hx hb d_MenuScreens_read_103 rfl (lv_at hl 0 rfl) ?_
        exact mq_iret hQ C X hr rfl hlk (by
            obtain ⟨L8, eL8⟩ : ∃ z : vL, z = lput L6 0 0 (some (.inr (3, [.int (x 1), .int (x 2), .ref (ad4 1 0), .ref (ad4 6 0), .ref (ad4 2 0), .ref (ad4 8 0), .int 0, .int sp, .int (x 46), .int bl, .int (x 55), .long (y 56), .long (y 57)]))) := ⟨_, rfl⟩
            have yF := y6.put (i := 0) (j := 0) (e' := .inr (3, [.int (x 1), .int (x 2), .ref (ad4 1 0), .ref (ad4 6 0), .ref (ad4 2 0), .ref (ad4 8 0), .int 0, .int sp, .int (x 46), .int bl, .int (x 55), .long (y 56), .long (y 57)])) hT6
            rw [k0.2, ← eL8] at yF
            have h80 : L8 0 0 = some (.inr (3, [.int (x 1), .int (x 2), .ref (ad4 1 0), .ref (ad4 6 0), .ref (ad4 2 0), .ref (ad4 8 0), .int 0, .int sp, .int (x 46), .int bl, .int (x 55), .long (y 56), .long (y 57)])) := by rw [eL8]; exact lput_s _ _ _ _
            have g8 : ∀ i, i ≠ 0 → L8 i = L6 i := fun i hi => by rw [eL8]; exact lput_k _ _ hi
            have u8 : ∀ i, i ≠ 0 → i ≠ 3 → i ≠ 30 → i ≠ 4 → i ≠ 31 → L8 i = L6 i := fun i q1 q2 q3 q4 q5 => g8 i q1
            have kpf : kpF ad L ad4 L8 := ⟨fun i hi => ⟨(u8 i (by omega) (by omega) (by omega) (by omega) (by omega)).trans ((k6 i (by omega) (by omega) (by omega)).trans ((k5 i (by omega)).trans (kp4 i hi).1)), (kp4 i hi).2⟩, congrFun k0.2 0⟩
            have v1 : L8 1 = L4 1 := (u8 1 (by decide) (by decide) (by decide) (by decide) (by decide)).trans l16
            have v6 : L8 6 = L4 6 := (u8 6 (by decide) (by decide) (by decide) (by decide) (by decide)).trans l66
            have v7 : L8 7 = L4 7 := (u8 7 (by decide) (by decide) (by decide) (by decide) (by decide)).trans l76
            have v8 : L8 8 = L4 8 := (u8 8 (by decide) (by decide) (by decide) (by decide) (by decide)).trans l86
            have lb8 := lb4
            rw [← v1] at lb8
            have re8 : cRea ad4 L8 := by unfold cRea; rw [v6]; exact re4
            have li8 : cLin dT ad4 L8 := by unfold cLin; rw [v7]; exact li4
            refine ⟨ad4, L8, yF, kpf, fun r' x' y' A' B' hst => ?_⟩
            obtain ⟨n, a1, a2, bx, by0, ⟨bA, bB⟩, b0, b3, b5, hq'⟩ := hst
            have en0 : n = n0 := nI_eqI (by omega) (by omega) (a1.symm.trans hn0)
            subst en0
            rcases hq' with ⟨m1, d1, d2, d3⟩ | ⟨nv', ns', np', nc', A2, B2, d1, d2, d3, d4, d5, d6⟩
            · exfalso
              have ez := en.symm.trans d1
              have w2 := congrArg Prod.snd ez
              exact absurd w2 (by simp)
            · have ez := en.symm.trans d1
              have w0 := Option.some.inj (congrArg Prod.snd ez)
              have w1 : nv4 = nv' := congrArg (fun q => q.1) w0
              have w2 : ns4 = ns' := congrArg (fun q => q.2.1) w0
              have w3 : np4 = np' := congrArg (fun q => q.2.2.1) w0
              have w4 : nc4 = nc' := congrArg (fun q => q.2.2.2.1) w0
              have w5 : A4 = A2 := congrArg (fun q => q.2.2.2.2.1) w0
              have w6 : B4 = B2 := congrArg (fun q => q.2.2.2.2.2) w0
              clear ez w0
              subst w1 w2 w3 w4 w5 w6
              obtain ⟨g25, eA⟩ := d5
              have z8 := (LR.of y6.1).put (i := 0) (j := 0) (e' := .inr (3, [.int (x 1), .int (x 2), .ref (ad4 1 0), .ref (ad4 6 0), .ref (ad4 2 0), .ref (ad4 8 0), .int 0, .int sp, .int (x 46), .int bl, .int (x 55), .long (y 56), .long (y 57)])) hT6
              rw [k0.2, ← eL8] at z8
              have qbn := bnd_all (f := rdA A n 6) _ _ _ _ _ (fun v q1 q2 => absurd (show 1 ≤ 0 from Nat.le_trans q1 q2) (by decide)) en
              rcases d6 with ⟨f1, f2⟩ | ⟨f1, f2, f3, f4, f5, f6, f7⟩
              · exfalso
                rw [← er, c15] at f1
                exact f1 (by decide)
              · have hz8 := (show ¬ 0 < ns4 from by
                  have := (nI_leI (b := 0) (by have q : ns4 ≤ 30 := hI.2.1; omega) (by decide)).mp c17
                  omega)
                have ex45 : x' 45 = 0 := by rw [f7, if_neg hz8]; rfl
                subst eA d4
                refine ⟨f2.symm, CR_rd hC bx by0 bA bB b3 hsp hlm (by rw [h80, ex45]) k8.2 (v8.trans l84) lb8 ⟨_, d3, by rw [← ee2]; exact (congrFun (u8 2 (by decide) (by decide) (by decide) (by decide) (by decide)) 0).trans h26, Nat.le_trans (cnt_le' _) hI.2.1, _, (congrFun (u8 5 (by decide) (by decide) (by decide) (by decide) (by decide)) 0).trans h56, fun j hj => ee3 j hj⟩ re8 li8 ⟨nv4, ns4, np4, nc4, pf4, cb4, ce4, cs4, cz4, _, ⟨f3, hI.1, f4, hI.2.1⟩, ⟨0, f7.trans (if_neg hz8), Nat.zero_le _, fun z => absurd z hz8⟩, RP_up (hR6.to z8.2 (fun i hi => ⟨g8 i (by omega), rfl⟩)), rd_txt (f := rdA A n 6) hn1 f5 f6 d2 en hX1, d2.2.2.2.2.2.1, qbn⟩ d2.2.2.2.2.2.2.1 d2.2.2.2.2.2.2.2.2.2⟩) (by omega) (by omega) d_MenuScreens_read_104
      · skip
        refine lv_iconst (v := 1) hx hb d_MenuScreens_read_85 (by decide) ?_
        refine lv_goto (tgt := 90) hx hb d_MenuScreens_read_86 (by decide) ?_
        refine mv_put C X kT6 wT 6 p_0_88_3 rfl rfl (Nat.le_of_ble_eq_true rfl) d_MenuScreens_read_90 (fun H locs X => ?_)
        have X : vO S0 D vcl (vup hN (ad 0 0) (.inr (3, [.int (x 1), .int (x 2), .ref (ad4 1 0), .ref (ad4 6 0), .ref (ad4 2 0), .ref (ad4 8 0), .int 1, .int sp, .int (x 46), .int bl, .int (x 55), .long (y 56), .long (y 57)]))) s H locs := X
        refine lv_iload_n hx hb d_MenuScreens_read_93 rfl (lv_at hl 1 rfl) ?_
        refine lv_if_eq (tgt := 103) hx hb d_MenuScreens_read_94 (by decide) (fun c19 => ?_) (fun z => absurd c15 z)
        refine lv_iload_n hx hb d_MenuScreens_read_103 rfl (lv_at hl 0 rfl) ?_
        exact mq_iret hQ C X hr rfl hlk (by
            obtain ⟨L8, eL8⟩ : ∃ z : vL, z = lput L6 0 0 (some (.inr (3, [.int (x 1), .int (x 2), .ref (ad4 1 0), .ref (ad4 6 0), .ref (ad4 2 0), .ref (ad4 8 0), .int 1, .int sp, .int (x 46), .int bl, .int (x 55), .long (y 56), .long (y 57)]))) := ⟨_, rfl⟩
            have yF := y6.put (i := 0) (j := 0) (e' := .inr (3, [.int (x 1), .int (x 2), .ref (ad4 1 0), .ref (ad4 6 0), .ref (ad4 2 0), .ref (ad4 8 0), .int 1, .int sp, .int (x 46), .int bl, .int (x 55), .long (y 56), .long (y 57)])) hT6
            rw [k0.2, ← eL8] at yF
            have h80 : L8 0 0 = some (.inr (3, [.int (x 1), .int (x 2), .ref (ad4 1 0), .ref (ad4 6 0), .ref (ad4 2 0), .ref (ad4 8 0), .int 1, .int sp, .int (x 46), .int bl, .int (x 55), .long (y 56), .long (y 57)])) := by rw [eL8]; exact lput_s _ _ _ _
            have g8 : ∀ i, i ≠ 0 → L8 i = L6 i := fun i hi => by rw [eL8]; exact lput_k _ _ hi
            have u8 : ∀ i, i ≠ 0 → i ≠ 3 → i ≠ 30 → i ≠ 4 → i ≠ 31 → L8 i = L6 i := fun i q1 q2 q3 q4 q5 => g8 i q1
            have kpf : kpF ad L ad4 L8 := ⟨fun i hi => ⟨(u8 i (by omega) (by omega) (by omega) (by omega) (by omega)).trans ((k6 i (by omega) (by omega) (by omega)).trans ((k5 i (by omega)).trans (kp4 i hi).1)), (kp4 i hi).2⟩, congrFun k0.2 0⟩
            have v1 : L8 1 = L4 1 := (u8 1 (by decide) (by decide) (by decide) (by decide) (by decide)).trans l16
            have v6 : L8 6 = L4 6 := (u8 6 (by decide) (by decide) (by decide) (by decide) (by decide)).trans l66
            have v7 : L8 7 = L4 7 := (u8 7 (by decide) (by decide) (by decide) (by decide) (by decide)).trans l76
            have v8 : L8 8 = L4 8 := (u8 8 (by decide) (by decide) (by decide) (by decide) (by decide)).trans l86
            have lb8 := lb4
            rw [← v1] at lb8
            have re8 : cRea ad4 L8 := by unfold cRea; rw [v6]; exact re4
            have li8 : cLin dT ad4 L8 := by unfold cLin; rw [v7]; exact li4
            refine ⟨ad4, L8, yF, kpf, fun r' x' y' A' B' hst => ?_⟩
            obtain ⟨n, a1, a2, bx, by0, ⟨bA, bB⟩, b0, b3, b5, hq'⟩ := hst
            have en0 : n = n0 := nI_eqI (by omega) (by omega) (a1.symm.trans hn0)
            subst en0
            rcases hq' with ⟨m1, d1, d2, d3⟩ | ⟨nv', ns', np', nc', A2, B2, d1, d2, d3, d4, d5, d6⟩
            · exfalso
              have ez := en.symm.trans d1
              have w2 := congrArg Prod.snd ez
              exact absurd w2 (by simp)
            · have ez := en.symm.trans d1
              have w0 := Option.some.inj (congrArg Prod.snd ez)
              have w1 : nv4 = nv' := congrArg (fun q => q.1) w0
              have w2 : ns4 = ns' := congrArg (fun q => q.2.1) w0
              have w3 : np4 = np' := congrArg (fun q => q.2.2.1) w0
              have w4 : nc4 = nc' := congrArg (fun q => q.2.2.2.1) w0
              have w5 : A4 = A2 := congrArg (fun q => q.2.2.2.2.1) w0
              have w6 : B4 = B2 := congrArg (fun q => q.2.2.2.2.2) w0
              clear ez w0
              subst w1 w2 w3 w4 w5 w6
              obtain ⟨g25, eA⟩ := d5
              have z8 := (LR.of y6.1).put (i := 0) (j := 0) (e' := .inr (3, [.int (x 1), .int (x 2), .ref (ad4 1 0), .ref (ad4 6 0), .ref (ad4 2 0), .ref (ad4 8 0), .int 1, .int sp, .int (x 46), .int bl, .int (x 55), .long (y 56), .long (y 57)])) hT6
              rw [k0.2, ← eL8] at z8
              have qbn := bnd_all (f := rdA A n 6) _ _ _ _ _ (fun v q1 q2 => absurd (show 1 ≤ 0 from Nat.le_trans q1 q2) (by decide)) en
              rcases d6 with ⟨f1, f2⟩ | ⟨f1, f2, f3, f4, f5, f6, f7⟩
              · exfalso
                rw [← er, c15] at f1
                exact f1 (by decide)
              · have hz8 := (show 0 < ns4 from by
                  rcases Nat.eq_zero_or_pos ns4 with q | q
                  · exact absurd (by rw [q]; decide) c17
                  · exact q)
                have ex45 : x' 45 = 1 := by rw [f7, if_pos hz8]; rfl
                subst eA d4
                refine ⟨f2.symm, CR_rd hC bx by0 bA bB b3 hsp hlm (by rw [h80, ex45]) k8.2 (v8.trans l84) lb8 ⟨_, d3, by rw [← ee2]; exact (congrFun (u8 2 (by decide) (by decide) (by decide) (by decide) (by decide)) 0).trans h26, Nat.le_trans (cnt_le' _) hI.2.1, _, (congrFun (u8 5 (by decide) (by decide) (by decide) (by decide) (by decide)) 0).trans h56, fun j hj => ee3 j hj⟩ re8 li8 ⟨nv4, ns4, np4, nc4, pf4, cb4, ce4, cs4, cz4, _, ⟨f3, hI.1, f4, hI.2.1⟩, ⟨1, f7.trans (if_pos hz8), hz8, fun _ => by decide⟩, RP_up (hR6.to z8.2 (fun i hi => ⟨g8 i (by omega), rfl⟩)), rd_txt (f := rdA A n 6) hn1 f5 f6 d2 en hX1, d2.2.2.2.2.2.1, qbn⟩ d2.2.2.2.2.2.2.1 d2.2.2.2.2.2.2.2.2.2⟩) (by omega) (by omega) d_MenuScreens_read_104
    · skip
      refine lv_aload_n hx hb d_MenuScreens_read_62 rfl (lv_at hl 2 rfl) ?_
      refine mv_get C X kT6 4 f_0_34_3 (v := .ref (ad4 2 0)) rfl d_MenuScreens_read_63 ?_
      refine mv_bv X (mv_rV (rest := []) (As := []) gt_good C X k_0_76 (cm_Plan_clearScreensAndValues hE hJ y6.1 hcE hR6.1.1 hR6.2.1.1 h26) (y6.1.get (i := 2) (j := 0) h26) rfl rfl ⟨Nat.le_of_ble_eq_true rfl, Nat.le_of_ble_eq_true rfl⟩ rfl hl.1 rfl (Nat.le_of_ble_eq_true rfl) d_MenuScreens_read_66 ⟨by show (((((((0 + 2) + 0) + 0) + (8 * (n0 + 1))) + 0) + 0) + 0) + 0 ≤ (2 + 8 * (n0 + 1)); omega, by show (((((((0 + (4 + n0)) + 0) + 0) + (1200 * (n0 + 1))) + 0) + 0) + 0) + 0 ≤ (4 + n0 + 1200 * (n0 + 1)); omega⟩) (fun hN H locs hp X => ?_)
      obtain ⟨L7, z7, r71, r72, k7⟩ := hp
      have y7 := y6.trans z7
      have h27 := (congrFun (k7 2 (by decide) (by decide) (by decide) (by decide)) 0).trans h26
      have hT7 : L7 0 0 = some (.inr (3, [.int (x 1), .int (x 2), .ref (ad4 1 0), .ref (ad4 6 0), .ref (ad4 2 0), .ref (ad4 8 0), .int (x 45), .int sp, .int (x 46), .int bl, .int (x 55), .long (y 56), .long (y 57)])) := by rw [k7 0 (by decide) (by decide) (by decide) (by decide)]; exact hT6
      have kT7 := y7.1.get (i := 0) (j := 0) hT7
      rw [k0.2] at kT7
      obtain ⟨ea7, md7, l47, -⟩ := id r72
      refine lv_aload_n hx hb d_MenuScreens_read_69 rfl (lv_at hl 2 rfl) ?_
      refine mv_get C X kT7 4 f_0_34_3 (v := .ref (ad4 2 0)) rfl d_MenuScreens_read_70 ?_
      refine mv_get C X (y7.1.get (i := 2) (j := 0) h27) 1 f_0_79_4 (v := .ref (ad4 4 0)) rfl d_MenuScreens_read_73 ?_
      refine mv_bi X (mv_rV (rest := []) (As := []) gt_good C X k_0_83 (cm_ArrayList_size hE (y7.1.get (i := 4) (j := 0) l47)) (y7.1.get (i := 4) (j := 0) l47) rfl rfl ⟨Nat.le_of_ble_eq_true rfl, Nat.le_of_ble_eq_true rfl⟩ rfl hl.1 rfl (Nat.le_of_ble_eq_true rfl) d_MenuScreens_read_76 ⟨by show ((((((((0 + 2) + 0) + 0) + (8 * (n0 + 1))) + 0) + 0) + 0) + 0) + 0 ≤ (2 + 8 * (n0 + 1)); omega, by show ((((((((0 + (4 + n0)) + 0) + 0) + (1200 * (n0 + 1))) + 0) + 0) + 0) + 0) + 0 ≤ (4 + n0 + 1200 * (n0 + 1)); omega⟩) (fun r21 hN H locs hp X => ?_)
      obtain ⟨eh, er⟩ := hp
      replace eh := eh.symm
      replace er := er.symm
      subst eh er
      refine lv_istore_n (lv' := [(3, .int (nI 0)), (2, .int r14), (1, .ref tq), (0, .ref (ad 0 0))]) hx hb d_MenuScreens_read_79 rfl hl (by decide) rfl (fun ls hl => ?_)
      refine lv_aload_n hx hb d_MenuScreens_read_80 rfl (lv_at hl 3 rfl) ?_
      refine lv_iload_n hx hb d_MenuScreens_read_81 rfl (lv_at hl 0 rfl) ?_
      refine lv_if_le (tgt := 89) hx hb d_MenuScreens_read_82 (by decide) (fun c22 => ?_) (fun z => absurd (by decide : nI 0 ≤ 0) z)
      refine lv_iconst (v := 0) hx hb d_MenuScreens_read_89 (by decide) ?_
      refine mv_put C X kT7 wT 6 p_0_88_3 rfl rfl (Nat.le_of_ble_eq_true rfl) d_MenuScreens_read_90 (fun H locs X => ?_)
      have X : vO S0 D vcl (vup hN (ad 0 0) (.inr (3, [.int (x 1), .int (x 2), .ref (ad4 1 0), .ref (ad4 6 0), .ref (ad4 2 0), .ref (ad4 8 0), .int 0, .int sp, .int (x 46), .int bl, .int (x 55), .long (y 56), .long (y 57)]))) s H locs := X
      refine lv_iload_n hx hb d_MenuScreens_read_93 rfl (lv_at hl 1 rfl) ?_
      refine lv_if_eq (tgt := 103) hx hb d_MenuScreens_read_94 (by decide) (fun z => absurd z c15) (fun c23 => ?_)
      refine lv_iconst (v := (-1)) hx hb d_MenuScreens_read_97 (by decide) ?_
      refine lv_iload_n hx hb d_MenuScreens_read_98 rfl (lv_at hl 1 rfl) ?_
      refine lv_isub hx hb d_MenuScreens_read_99 ?_
      refine lv_goto (tgt := 104) hx hb d_MenuScreens_read_100 (by decide) ?_
      exact mq_iret hQ C X hr rfl hlk (by
          obtain ⟨L8, eL8⟩ : ∃ z : vL, z = lput L7 0 0 (some (.inr (3, [.int (x 1), .int (x 2), .ref (ad4 1 0), .ref (ad4 6 0), .ref (ad4 2 0), .ref (ad4 8 0), .int 0, .int sp, .int (x 46), .int bl, .int (x 55), .long (y 56), .long (y 57)]))) := ⟨_, rfl⟩
          have yF := y7.put (i := 0) (j := 0) (e' := .inr (3, [.int (x 1), .int (x 2), .ref (ad4 1 0), .ref (ad4 6 0), .ref (ad4 2 0), .ref (ad4 8 0), .int 0, .int sp, .int (x 46), .int bl, .int (x 55), .long (y 56), .long (y 57)])) hT7
          rw [k0.2, ← eL8] at yF
          have h80 : L8 0 0 = some (.inr (3, [.int (x 1), .int (x 2), .ref (ad4 1 0), .ref (ad4 6 0), .ref (ad4 2 0), .ref (ad4 8 0), .int 0, .int sp, .int (x 46), .int bl, .int (x 55), .long (y 56), .long (y 57)])) := by rw [eL8]; exact lput_s _ _ _ _
          have g8 : ∀ i, i ≠ 0 → L8 i = L7 i := fun i hi => by rw [eL8]; exact lput_k _ _ hi
          have u8 : ∀ i, i ≠ 0 → i ≠ 3 → i ≠ 30 → i ≠ 4 → i ≠ 31 → L8 i = L6 i := fun i q1 q2 q3 q4 q5 => (g8 i q1).trans (k7 i q2 q3 q4 q5)
          have kpf : kpF ad L ad4 L8 := ⟨fun i hi => ⟨(u8 i (by omega) (by omega) (by omega) (by omega) (by omega)).trans ((k6 i (by omega) (by omega) (by omega)).trans ((k5 i (by omega)).trans (kp4 i hi).1)), (kp4 i hi).2⟩, congrFun k0.2 0⟩
          have v1 : L8 1 = L4 1 := (u8 1 (by decide) (by decide) (by decide) (by decide) (by decide)).trans l16
          have v6 : L8 6 = L4 6 := (u8 6 (by decide) (by decide) (by decide) (by decide) (by decide)).trans l66
          have v7 : L8 7 = L4 7 := (u8 7 (by decide) (by decide) (by decide) (by decide) (by decide)).trans l76
          have v8 : L8 8 = L4 8 := (u8 8 (by decide) (by decide) (by decide) (by decide) (by decide)).trans l86
          have lb8 := lb4
          rw [← v1] at lb8
          have re8 : cRea ad4 L8 := by unfold cRea; rw [v6]; exact re4
          have li8 : cLin dT ad4 L8 := by unfold cLin; rw [v7]; exact li4
          refine ⟨ad4, L8, yF, kpf, fun r' x' y' A' B' hst => ?_⟩
          obtain ⟨n, a1, a2, bx, by0, ⟨bA, bB⟩, b0, b3, b5, hq'⟩ := hst
          have en0 : n = n0 := nI_eqI (by omega) (by omega) (a1.symm.trans hn0)
          subst en0
          have q71 : rLst dT dE ad4 L8 3 30 0 0 (ad4 10) := by
            obtain ⟨q1, q2, q3, q4⟩ := r71
            refine ⟨q1, q2, ?_, ?_⟩
            · rw [g8 3 (by decide)]; exact q3
            · rw [g8 30 (by decide)]; exact q4
          have q72 : rLst dT dE ad4 L8 4 31 0 0 (ad4 11) := by
            obtain ⟨q1, q2, q3, q4⟩ := r72
            refine ⟨q1, q2, ?_, ?_⟩
            · rw [g8 4 (by decide)]; exact q3
            · rw [g8 31 (by decide)]; exact q4
          have h28 := (congrFun (g8 2 (by decide)) 0).trans h27
          have h58 := congrFun (u8 5 (by decide) (by decide) (by decide) (by decide) (by decide)) 0
          rcases hq' with ⟨m1, d1, d2, d3⟩ | ⟨nv', ns', np', nc', A2, B2, d1, d2, d3, d4, d5, d6⟩
          · exfalso
            have ez := en.symm.trans d1
            have w2 := congrArg Prod.snd ez
            exact absurd w2 (by simp)
          · have ez := en.symm.trans d1
            have w0 := Option.some.inj (congrArg Prod.snd ez)
            have w1 : nv4 = nv' := congrArg (fun q => q.1) w0
            have w2 : ns4 = ns' := congrArg (fun q => q.2.1) w0
            have w3 : np4 = np' := congrArg (fun q => q.2.2.1) w0
            have w4 : nc4 = nc' := congrArg (fun q => q.2.2.2.1) w0
            have w5 : A4 = A2 := congrArg (fun q => q.2.2.2.2.1) w0
            have w6 : B4 = B2 := congrArg (fun q => q.2.2.2.2.2) w0
            clear ez w0
            subst w1 w2 w3 w4 w5 w6
            obtain ⟨g25, eA⟩ := d5
            rcases d6 with ⟨f1, f2, f3, f4, f5⟩ | ⟨f1, f2, f3⟩
            · have ex45 := f5
              refine ⟨by rw [f2, er], CR_rd hC bx by0 bA bB b3 hsp hlm (by rw [h80, ex45]) k8.2 (v8.trans l84) lb8 ⟨_, d3, by rw [← ee2]; exact h28, Nat.le_trans (cnt_le' _) hI.2.1, _, h58.trans h56, fun j hj => by rw [eA]; exact ee3 j hj⟩ re8 li8 (rp_none q71 q72 f3 f4 f5) (by rw [eA]; exact d2.2.2.2.2.2.2.1) (by rw [d4]; exact d2.2.2.2.2.2.2.2.2.2)⟩
            · exfalso
              rcases hps with q | q
              · exact c15 (er.trans q)
              · exact f1 q) (by omega) (by omega) d_MenuScreens_read_104
