theorem d_law_0 : decode code 0 = .ok (.new 7, 3) := by decide +kernel
theorem d_law_3 : decode code 3 = .ok (.dup, 1) := by decide +kernel
theorem d_law_4 : decode code 4 = .ok (.aload_n 0, 1) := by decide +kernel
theorem d_law_5 : decode code 5 = .ok (.iconst 0, 1) := by decide +kernel
theorem d_law_6 : decode code 6 = .ok (.invokestatic 9, 3) := by decide +kernel
theorem d_law_9 : decode code 9 = .ok (.aload_n 0, 1) := by decide +kernel
theorem d_law_10 : decode code 10 = .ok (.iconst 1, 1) := by decide +kernel
theorem d_law_11 : decode code 11 = .ok (.invokestatic 9, 3) := by decide +kernel
theorem d_law_14 : decode code 14 = .ok (.invokespecial 15, 3) := by decide +kernel
theorem d_law_17 : decode code 17 = .ok (.astore_n 1, 1) := by decide +kernel
theorem d_law_18 : decode code 18 = .ok (.new 18, 3) := by decide +kernel
theorem d_law_21 : decode code 21 = .ok (.dup, 1) := by decide +kernel
theorem d_law_22 : decode code 22 = .ok (.aload_n 0, 1) := by decide +kernel
theorem d_law_23 : decode code 23 = .ok (.iconst 0, 1) := by decide +kernel
theorem d_law_24 : decode code 24 = .ok (.invokestatic 9, 3) := by decide +kernel
theorem d_law_27 : decode code 27 = .ok (.aload_n 0, 1) := by decide +kernel
theorem d_law_28 : decode code 28 = .ok (.iconst 1, 1) := by decide +kernel
theorem d_law_29 : decode code 29 = .ok (.invokestatic 9, 3) := by decide +kernel
theorem d_law_32 : decode code 32 = .ok (.invokespecial 20, 3) := by decide +kernel
theorem d_law_35 : decode code 35 = .ok (.astore_n 2, 1) := by decide +kernel
theorem d_law_36 : decode code 36 = .ok (.iconst 2, 1) := by decide +kernel
theorem d_law_37 : decode code 37 = .ok (.istore_n 3, 1) := by decide +kernel
set_option maxRecDepth 100000 in
set_option maxHeartbeats 4000000 in
theorem law_in {p : Program} {l : Launch} {e : Env} {s : State} {m : MethodId} {below : List Frame} {meth : Method} {c : Code} {b n : Nat} {D : va_G} {dT : Nat → ClassId} {dE mO : Nat} {hcv : vH} {xs : Nat → Int32} (hE : vEnv s b D dT) (hJ : vJ s dE mO) (hcE : ∃ fE, hcv dE = some (aR dT 0 fE)) (C : vC p s m #[Value.ref b] c code 4 "MenuScreensLaw" GT D vcl (vty dT)) (hsc : hcv b = some (.inl (dT 0, n, .inl xs))) (hn9 : n ≤ 2562) (hr : meth.sig.returnType = ret) (hlk : meth.locks = false) {lt ltv : Nat} {txl : String} {lz2 lz3 : Value} {fl0 : Nat → Int32} (hlt : vk_R "MenuScreens$Line" 18 txl lt s) (hlt1 : hcv lt = some (.inr (0, [.ref ltv, .int 0, lz2, lz3]))) (hlt2 : hcv ltv = some (.inl (dT 2, 0, .inl fl0))) {dl dlv : Nat} {txdl : String} {dl2 dl3 : Value} {fdl : Nat → Int32} (hdl : vk_R "MenuScreens$Reader" 170 txdl dl s) (hdl1 : hcv dl = some (.inr (0, [.ref dlv, .int 0, dl2, dl3]))) (hdl2 : hcv dlv = some (.inl (dT 2, 1, .inl fdl))) (hdl3 : fdl 0 = 45) {le lev : Nat} {txle : String} {le2 le3 : Value} {fle : Nat → Int32} (hle : vk_R "MenuScreens$Reader" 189 txle le s) (hle1 : hcv le = some (.inr (0, [.ref lev, .int 0, le2, le3]))) (hle2 : hcv lev = some (.inl (dT 2, 1, .inl fle))) (hle3 : fle 0 = 61) {ll llv : Nat} {txll : String} {ll2 ll3 : Value} {fll : Nat → Int32} (hll : vk_R "MenuScreens$Reader" 191 txll ll s) (hll1 : hcv ll = some (.inr (0, [.ref llv, .int 0, ll2, ll3]))) (hll2 : hcv llv = some (.inl (dT 2, 1, .inl fll))) (hll3 : fll 0 = 60) {lg lgv : Nat} {txlg : String} {lg2 lg3 : Value} {flg : Nat → Int32} (hlg : vk_R "MenuScreens$Reader" 193 txlg lg s) (hlg1 : hcv lg = some (.inr (0, [.ref lgv, .int 0, lg2, lg3]))) (hlg2 : hcv lgv = some (.inl (dT 2, 1, .inl flg))) (hlg3 : flg 0 = 62) {lw0 lw0v : Nat} {txlw0 : String} {lw02 lw03 : Value} (hlw0 : vk_R "MenuScreens$Reader" 58 txlw0 lw0 s) (hlw01 : hcv lw0 = some (.inr (0, [.ref lw0v, .int 0, lw02, lw03]))) (hlw02 : hcv lw0v = some (.inl (dT 2, (ltW 0).1, .inl (ltW 0).2))) {lw1 lw1v : Nat} {txlw1 : String} {lw12 lw13 : Value} (hlw1 : vk_R "MenuScreens$Reader" 68 txlw1 lw1 s) (hlw11 : hcv lw1 = some (.inr (0, [.ref lw1v, .int 0, lw12, lw13]))) (hlw12 : hcv lw1v = some (.inl (dT 2, (ltW 1).1, .inl (ltW 1).2))) {lw2 lw2v : Nat} {txlw2 : String} {lw22 lw23 : Value} (hlw2 : vk_R "MenuScreens$Reader" 73 txlw2 lw2 s) (hlw21 : hcv lw2 = some (.inr (0, [.ref lw2v, .int 0, lw22, lw23]))) (hlw22 : hcv lw2v = some (.inl (dT 2, (ltW 2).1, .inl (ltW 2).2))) {lw3 lw3v : Nat} {txlw3 : String} {lw32 lw33 : Value} (hlw3 : vk_R "MenuScreens$Reader" 81 txlw3 lw3 s) (hlw31 : hcv lw3 = some (.inr (0, [.ref lw3v, .int 0, lw32, lw33]))) (hlw32 : hcv lw3v = some (.inl (dT 2, (ltW 3).1, .inl (ltW 3).2))) {lw4 lw4v : Nat} {txlw4 : String} {lw42 lw43 : Value} (hlw4 : vk_R "MenuScreens$Reader" 87 txlw4 lw4 s) (hlw41 : hcv lw4 = some (.inr (0, [.ref lw4v, .int 0, lw42, lw43]))) (hlw42 : hcv lw4v = some (.inl (dT 2, (ltW 4).1, .inl (ltW 4).2))) {lw5 lw5v : Nat} {txlw5 : String} {lw52 lw53 : Value} (hlw5 : vk_R "MenuScreens$Reader" 92 txlw5 lw5 s) (hlw51 : hcv lw5 = some (.inr (0, [.ref lw5v, .int 0, lw52, lw53]))) (hlw52 : hcv lw5v = some (.inl (dT 2, (ltW 5).1, .inl (ltW 5).2))) {lw6 lw6v : Nat} {txlw6 : String} {lw62 lw63 : Value} (hlw6 : vk_R "MenuScreens$Reader" 97 txlw6 lw6 s) (hlw61 : hcv lw6 = some (.inr (0, [.ref lw6v, .int 0, lw62, lw63]))) (hlw62 : hcv lw6v = some (.inl (dT 2, (ltW 6).1, .inl (ltW 6).2))) {lw7 lw7v : Nat} {txlw7 : String} {lw72 lw73 : Value} (hlw7 : vk_R "MenuScreens$Reader" 102 txlw7 lw7 s) (hlw71 : hcv lw7 = some (.inr (0, [.ref lw7v, .int 0, lw72, lw73]))) (hlw72 : hcv lw7v = some (.inl (dT 2, (ltW 7).1, .inl (ltW 7).2))) {lw8 lw8v : Nat} {txlw8 : String} {lw82 lw83 : Value} (hlw8 : vk_R "MenuScreens$Reader" 107 txlw8 lw8 s) (hlw81 : hcv lw8 = some (.inr (0, [.ref lw8v, .int 0, lw82, lw83]))) (hlw82 : hcv lw8v = some (.inl (dT 2, (ltW 8).1, .inl (ltW 8).2))) (hlt9 : ∀ a e, hcv a = some e → a < s.heap.size) {ls : Array Slot} (X : vO s D vcl hcv s s.heap []) (hl : lv_has ls 4 [(0, .ref b)]) : W p l e room_1 s m #[Value.ref b] below meth c s.heap [] 0 0 (lw_Z below #[Value.ref b] s) (F0 m 0 ls []) := by
  obtain ⟨H, eH⟩ : ∃ z, z = s.heap := ⟨_, rfl⟩
  obtain ⟨locs, elocs⟩ : ∃ z : List Loc, z = [] := ⟨_, rfl⟩
  rw [← eH, ← elocs] at X
  rw [← eH, ← elocs]
  clear eH elocs
  have hx := C.1.1
  have hb := C.1.2.1
  have x0 : LH s.heap.size hcv hcv (fun _ _ => 0) (fun _ _ => none) := ⟨fun a e q => ⟨hlt9 a e q, q⟩, fun i j e q => absurd q (by simp), fun i j e i2 j2 e2 q => absurd q (by simp)⟩
  refine mv_new C X n_11_7 (by show 0 + 1 ≤ 600000; omega) (by show 0 + 13 ≤ 7302250; omega) d_law_0 (fun q1 H z_q1 w_q1 X => ?_)
  have n_b_q1 : b ≠ q1 := vnf hsc z_q1
  have X : vO s D vcl (vup hcv q1 (.inr (3, [.int 0, .int 0, .null, .null, .null, .null, .int 0, .int 0, .int 0, .int 0, .int 0, .long 0, .long 0]))) s H locs := X
  change W _ _ _ _ _ _ _ _ _ _ _ _ (0 + 1) (0 + 13) _ _
  refine lv_dup hx hb d_law_3 rfl ?_
  refine lv_aload_n hx hb d_law_4 rfl (lv_at hl 0 rfl) ?_
  refine lv_iconst (v := 0) hx hb d_law_5 (by decide) ?_
  change W _ _ _ _ _ _ _ _ _ _ _ _ _ _ _ (F0 _ _ _ (.int (nI 0) :: _))
  refine mv_bi X (mv_rS (rest := [.ref q1, .ref q1]) (As := [.ref b, .int (nI 0)]) gt_good C X k_11_9 (cm_MenuScreensLaw_cell hE (j := 0) (by decide) (by omega) ((vup_n _ _ n_b_q1).trans hsc)) ⟨Nat.le_of_ble_eq_true rfl, Nat.le_of_ble_eq_true rfl⟩ rfl hl.1 rfl (Nat.le_of_ble_eq_true rfl) d_law_6 ⟨by show (0 + 1) + 0 ≤ 600000; omega, by show (0 + 13) + 0 ≤ 7302250; omega⟩) (fun r2 hN H locs hp X => ?_)
  obtain ⟨eh, er⟩ := hp
  replace eh := eh.symm
  replace er := er.symm
  subst eh er
  refine lv_aload_n hx hb d_law_9 rfl (lv_at hl 0 rfl) ?_
  refine lv_iconst (v := 1) hx hb d_law_10 (by decide) ?_
  change W _ _ _ _ _ _ _ _ _ _ _ _ _ _ _ (F0 _ _ _ (.int (nI 1) :: _))
  refine mv_bi X (mv_rS (rest := [.int (if 0 < n then xs 0 else 0), .ref q1, .ref q1]) (As := [.ref b, .int (nI 1)]) gt_good C X k_11_9 (cm_MenuScreensLaw_cell hE (j := 1) (by decide) (by omega) ((vup_n _ _ n_b_q1).trans hsc)) ⟨Nat.le_of_ble_eq_true rfl, Nat.le_of_ble_eq_true rfl⟩ rfl hl.1 rfl (Nat.le_of_ble_eq_true rfl) d_law_11 ⟨by show ((0 + 1) + 0) + 0 ≤ 600000; omega, by show ((0 + 13) + 0) + 0 ≤ 7302250; omega⟩) (fun r3 hN H locs hp X => ?_)
  obtain ⟨eh, er⟩ := hp
  replace eh := eh.symm
  replace er := er.symm
  subst eh er
  have y1 := (LR.of x0).new 0 0 (e' := .inr (3, [.int 0, .int 0, .null, .null, .null, .null, .int 0, .int 0, .int 0, .int 0, .int 0, .long 0, .long 0])) z_q1 w_q1
  refine mv_bv X (mv_rI (rest := [.ref q1]) (As := [.int (if 0 < n then xs 0 else 0), .int (if 1 < n then xs 1 else 0)]) gt_good C X k_11_15 (cm_MenuScreens_init hE hJ y1.1 (lput_s _ _ _ _) hlt) ⟨Nat.le_of_ble_eq_true rfl, Nat.le_of_ble_eq_true rfl⟩ rfl hl.1 rfl (Nat.le_of_ble_eq_true rfl) d_law_14 ⟨by show (((0 + 1) + 0) + 0) + 14 ≤ 600000; omega, by show (((0 + 13) + 0) + 0) + 686 ≤ 7302250; omega⟩) (fun hN H locs hp X => ?_)
  obtain ⟨ad1, L1, z1, k1, hC1⟩ := hp
  have e1 : ad1 0 0 = q1 := k1.2
  have y2 := y1.trans z1
  refine lv_astore_n (lv' := [(1, .ref q1), (0, .ref b)]) hx hb d_law_17 rfl hl (by decide) rfl (fun ls hl => ?_)
  refine mv_new C X n_11_18 (by show ((((0 + 1) + 0) + 0) + 14) + 1 ≤ 600000; omega) (by show ((((0 + 13) + 0) + 0) + 686) + 59 ≤ 7302250; omega) d_law_18 (fun q5 H z_q5 w_q5 X => ?_)
  have n_b_q5 : b ≠ q5 := vnf (y2.1.old hsc) z_q5
  have X : vO s D vcl (vup hN q5 (.inr (13, [.int 0, .int 0, .int 0, .int 0, .null, .int 0, .null, .int 0, .int 0, .int 0, .int 0, .long 0, .int 0, .null, .null, .null, .null, .null, .null, .null, .int 0, .null, .null, .null, .null, .null, .null, .null, .int 0, .null, .null, .null, .null, .null, .null, .null, .null, .null, .null, .int 0, .null, .null, .null, .null, .null, .int 0, .int 0, .long 0, .int 0, .null, .int 0, .null, .null, .null, .long 0, .int 0, .long 0, .long 0, .null]))) s H locs := X
  change W _ _ _ _ _ _ _ _ _ _ _ _ (((((0 + 1) + 0) + 0) + 14) + 1) (((((0 + 13) + 0) + 0) + 686) + 59) _ _
  refine lv_dup hx hb d_law_21 rfl ?_
  refine lv_aload_n hx hb d_law_22 rfl (lv_at hl 1 rfl) ?_
  refine lv_iconst (v := 0) hx hb d_law_23 (by decide) ?_
  change W _ _ _ _ _ _ _ _ _ _ _ _ _ _ _ (F0 _ _ _ (.int (nI 0) :: _))
  refine mv_bi X (mv_rS (rest := [.ref q5, .ref q5]) (As := [.ref b, .int (nI 0)]) gt_good C X k_11_9 (cm_MenuScreensLaw_cell hE (j := 0) (by decide) (by omega) ((vup_n _ _ n_b_q5).trans (y2.1.old hsc))) ⟨Nat.le_of_ble_eq_true rfl, Nat.le_of_ble_eq_true rfl⟩ rfl hl.1 rfl (Nat.le_of_ble_eq_true rfl) d_law_24 ⟨by show (((((0 + 1) + 0) + 0) + 14) + 1) + 0 ≤ 600000; omega, by show (((((0 + 13) + 0) + 0) + 686) + 59) + 0 ≤ 7302250; omega⟩) (fun r6 hN H locs hp X => ?_)
  obtain ⟨eh, er⟩ := hp
  replace eh := eh.symm
  replace er := er.symm
  subst eh er
  refine lv_aload_n hx hb d_law_27 rfl (lv_at hl 1 rfl) ?_
  refine lv_iconst (v := 1) hx hb d_law_28 (by decide) ?_
  change W _ _ _ _ _ _ _ _ _ _ _ _ _ _ _ (F0 _ _ _ (.int (nI 1) :: _))
  refine mv_bi X (mv_rS (rest := [.int (if 0 < n then xs 0 else 0), .ref q5, .ref q5]) (As := [.ref b, .int (nI 1)]) gt_good C X k_11_9 (cm_MenuScreensLaw_cell hE (j := 1) (by decide) (by omega) ((vup_n _ _ n_b_q5).trans (y2.1.old hsc))) ⟨Nat.le_of_ble_eq_true rfl, Nat.le_of_ble_eq_true rfl⟩ rfl hl.1 rfl (Nat.le_of_ble_eq_true rfl) d_law_29 ⟨by show ((((((0 + 1) + 0) + 0) + 14) + 1) + 0) + 0 ≤ 600000; omega, by show ((((((0 + 13) + 0) + 0) + 686) + 59) + 0) + 0 ≤ 7302250; omega⟩) (fun r7 hN H locs hp X => ?_)
  obtain ⟨eh, er⟩ := hp
  replace eh := eh.symm
  replace er := er.symm
  subst eh er
  have y3 := y2.new 50 0 (e' := .inr (13, [.int 0, .int 0, .int 0, .int 0, .null, .int 0, .null, .int 0, .int 0, .int 0, .int 0, .long 0, .int 0, .null, .null, .null, .null, .null, .null, .null, .int 0, .null, .null, .null, .null, .null, .null, .null, .int 0, .null, .null, .null, .null, .null, .null, .null, .null, .null, .null, .int 0, .null, .null, .null, .null, .null, .int 0, .int 0, .long 0, .int 0, .null, .int 0, .null, .null, .null, .long 0, .int 0, .long 0, .long 0, .null])) z_q5 w_q5
  have n3 := (LR.of y2.1).new 50 0 (e' := .inr (13, [.int 0, .int 0, .int 0, .int 0, .null, .int 0, .null, .int 0, .int 0, .int 0, .int 0, .long 0, .int 0, .null, .null, .null, .null, .null, .null, .null, .int 0, .null, .null, .null, .null, .null, .null, .null, .int 0, .null, .null, .null, .null, .null, .null, .null, .null, .null, .null, .int 0, .null, .null, .null, .null, .null, .int 0, .int 0, .long 0, .int 0, .null, .int 0, .null, .null, .null, .long 0, .int 0, .long 0, .long 0, .null])) z_q5 w_q5
  refine mv_bv X (mv_rI (rest := [.ref q5]) (As := [.int (if 0 < n then xs 0 else 0), .int (if 1 < n then xs 1 else 0)]) gt_good C X k_11_20 (cm_MenuScreensModel_init hE y3.1 (lput_s _ _ _ _)) ⟨Nat.le_of_ble_eq_true rfl, Nat.le_of_ble_eq_true rfl⟩ rfl hl.1 rfl (Nat.le_of_ble_eq_true rfl) d_law_32 ⟨by show (((((((0 + 1) + 0) + 0) + 14) + 1) + 0) + 0) + 36 ≤ 600000; omega, by show (((((((0 + 13) + 0) + 0) + 686) + 59) + 0) + 0) + 17391 ≤ 7302250; omega⟩) (fun hN H locs hp X => ?_)
  obtain ⟨ad2, L2, z2, k2, e50, hM2⟩ := hp
  replace e50 : ad2 50 0 = q5 := e50
  have y4 := y3.trans z2
  have n4 := n3.trans z2
  have kk : ∀ i, i ≤ 49 → L2 i = L1 i ∧ ad2 i = ad1 i := fun i hi => ⟨(k2 i (by omega) (by omega)).1.trans (lput_k _ _ (by omega)), (k2 i (by omega) (by omega)).2.trans (lput_k _ _ (by omega))⟩
  have hC2 := hC1.to n4.2 kk
  have e00 : ad2 0 0 = q1 := (congrFun (kk 0 (by decide)).2 0).trans e1
  refine lv_astore_n (lv' := [(2, .ref q5), (1, .ref q1), (0, .ref b)]) hx hb d_law_35 rfl hl (by decide) rfl (fun ls hl => ?_)
  refine lv_iconst (v := 2) hx hb d_law_36 (by decide) ?_
  refine lv_istore_n (lv' := [(3, .int 2), (2, .ref q5), (1, .ref q1), (0, .ref b)]) hx hb d_law_37 rfl hl (by decide) rfl (fun ls hl => ?_)
  exact law_loop hE hJ hcE C hsc hn9 hr hlk hlt hlt1 hlt2 hdl hdl1 hdl2 hdl3 hle hle1 hle2 hle3 hll hll1 hll2 hll3 hlg hlg1 hlg2 hlg3 hlw0 hlw01 hlw02 hlw1 hlw11 hlw12 hlw2 hlw21 hlw22 hlw3 hlw31 hlw32 hlw4 hlw41 hlw42 hlw5 hlw51 hlw52 hlw6 hlw61 hlw62 hlw7 hlw71 hlw72 hlw8 hlw81 hlw82 513 0 (by decide) (by decide) _ ad2 L2 16 _ _ _ _ _ _ _ _ ls e00 e50 ⟨y4.1, hC2, hM2, ⟨0, rfl, by decide, by decide, by decide, by decide, by decide⟩, 0, 0, rfl, rfl, by decide, by decide⟩ X (lv_sub hl [3, 2, 1, 0] rfl)
