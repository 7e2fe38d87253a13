theorem d_Reader_firstWrongLine_0 : decode prog_6_method_2_code 0 = .ok (.aload_n 0, 1) := by decide +kernel
theorem d_Reader_firstWrongLine_1 : decode prog_6_method_2_code 1 = .ok (.aconst_null, 1) := by decide +kernel
theorem d_Reader_firstWrongLine_2 : decode prog_6_method_2_code 2 = .ok (.putfield 25, 3) := by decide +kernel
theorem d_Reader_firstWrongLine_5 : decode prog_6_method_2_code 5 = .ok (.aload_n 0, 1) := by decide +kernel
theorem d_Reader_firstWrongLine_6 : decode prog_6_method_2_code 6 = .ok (.aconst_null, 1) := by decide +kernel
theorem d_Reader_firstWrongLine_7 : decode prog_6_method_2_code 7 = .ok (.putfield 29, 3) := by decide +kernel
theorem d_Reader_firstWrongLine_10 : decode prog_6_method_2_code 10 = .ok (.iconst 0, 1) := by decide +kernel
theorem d_Reader_firstWrongLine_11 : decode prog_6_method_2_code 11 = .ok (.istore_n 2, 1) := by decide +kernel
theorem d_Reader_firstWrongLine_12 : decode prog_6_method_2_code 12 = .ok (.iconst 0, 1) := by decide +kernel
theorem d_Reader_firstWrongLine_13 : decode prog_6_method_2_code 13 = .ok (.istore_n 3, 1) := by decide +kernel
theorem d_Reader_firstWrongLine_14 : decode prog_6_method_2_code 14 = .ok (.iconst 0, 1) := by decide +kernel
theorem d_Reader_firstWrongLine_15 : decode prog_6_method_2_code 15 = .ok (.istore 4, 2) := by decide +kernel
theorem d_Reader_firstWrongLine_17 : decode prog_6_method_2_code 17 = .ok (.iload 4, 2) := by decide +kernel
theorem d_Reader_firstWrongLine_19 : decode prog_6_method_2_code 19 = .ok (.aload_n 1, 1) := by decide +kernel
theorem d_Reader_firstWrongLine_20 : decode prog_6_method_2_code 20 = .ok (.invokevirtual 33, 3) := by decide +kernel
theorem d_Reader_firstWrongLine_23 : decode prog_6_method_2_code 23 = .ok (.if_icmp .gt 68, 3) := by decide +kernel
theorem d_Reader_firstWrongLine_26 : decode prog_6_method_2_code 26 = .ok (.iload 4, 2) := by decide +kernel
theorem d_Reader_firstWrongLine_28 : decode prog_6_method_2_code 28 = .ok (.aload_n 1, 1) := by decide +kernel
theorem d_Reader_firstWrongLine_29 : decode prog_6_method_2_code 29 = .ok (.invokevirtual 33, 3) := by decide +kernel
theorem d_Reader_firstWrongLine_32 : decode prog_6_method_2_code 32 = .ok (.if_icmp .eq 14, 3) := by decide +kernel
theorem d_Reader_firstWrongLine_35 : decode prog_6_method_2_code 35 = .ok (.aload_n 1, 1) := by decide +kernel
theorem d_Reader_firstWrongLine_36 : decode prog_6_method_2_code 36 = .ok (.iload 4, 2) := by decide +kernel
theorem d_Reader_firstWrongLine_38 : decode prog_6_method_2_code 38 = .ok (.invokevirtual 39, 3) := by decide +kernel
theorem d_Reader_firstWrongLine_41 : decode prog_6_method_2_code 41 = .ok (.bipush 10, 2) := by decide +kernel
theorem d_Reader_firstWrongLine_43 : decode prog_6_method_2_code 43 = .ok (.if_icmp .ne 42, 3) := by decide +kernel
theorem d_Reader_firstWrongLine_46 : decode prog_6_method_2_code 46 = .ok (.iinc 2 1, 3) := by decide +kernel
theorem d_Reader_firstWrongLine_49 : decode prog_6_method_2_code 49 = .ok (.aload_n 0, 1) := by decide +kernel
theorem d_Reader_firstWrongLine_50 : decode prog_6_method_2_code 50 = .ok (.getfield 21, 3) := by decide +kernel
theorem d_Reader_firstWrongLine_53 : decode prog_6_method_2_code 53 = .ok (.aload_n 1, 1) := by decide +kernel
theorem d_Reader_firstWrongLine_54 : decode prog_6_method_2_code 54 = .ok (.iload_n 3, 1) := by decide +kernel
theorem d_Reader_firstWrongLine_55 : decode prog_6_method_2_code 55 = .ok (.iload 4, 2) := by decide +kernel
theorem d_Reader_firstWrongLine_57 : decode prog_6_method_2_code 57 = .ok (.invokevirtual 43, 3) := by decide +kernel
theorem d_Reader_firstWrongLine_60 : decode prog_6_method_2_code 60 = .ok (.aload_n 0, 1) := by decide +kernel
theorem d_Reader_firstWrongLine_61 : decode prog_6_method_2_code 61 = .ok (.getfield 21, 3) := by decide +kernel
theorem d_Reader_firstWrongLine_64 : decode prog_6_method_2_code 64 = .ok (.invokevirtual 47, 3) := by decide +kernel
theorem d_Reader_firstWrongLine_67 : decode prog_6_method_2_code 67 = .ok (.ifCond .le 13, 3) := by decide +kernel
theorem d_Reader_firstWrongLine_70 : decode prog_6_method_2_code 70 = .ok (.aload_n 0, 1) := by decide +kernel
theorem d_Reader_firstWrongLine_71 : decode prog_6_method_2_code 71 = .ok (.iload_n 2, 1) := by decide +kernel
theorem d_Reader_firstWrongLine_72 : decode prog_6_method_2_code 72 = .ok (.invokevirtual 50, 3) := by decide +kernel
theorem d_Reader_firstWrongLine_75 : decode prog_6_method_2_code 75 = .ok (.ifCond .ne 5, 3) := by decide +kernel
theorem d_Reader_firstWrongLine_78 : decode prog_6_method_2_code 78 = .ok (.iload_n 2, 1) := by decide +kernel
theorem d_Reader_firstWrongLine_79 : decode prog_6_method_2_code 79 = .ok (.ireturn, 1) := by decide +kernel
theorem d_Reader_firstWrongLine_80 : decode prog_6_method_2_code 80 = .ok (.iload 4, 2) := by decide +kernel
theorem d_Reader_firstWrongLine_82 : decode prog_6_method_2_code 82 = .ok (.iconst 1, 1) := by decide +kernel
theorem d_Reader_firstWrongLine_83 : decode prog_6_method_2_code 83 = .ok (.iadd, 1) := by decide +kernel
theorem d_Reader_firstWrongLine_84 : decode prog_6_method_2_code 84 = .ok (.istore_n 3, 1) := by decide +kernel
theorem d_Reader_firstWrongLine_85 : decode prog_6_method_2_code 85 = .ok (.iinc 4 1, 3) := by decide +kernel
theorem d_Reader_firstWrongLine_88 : decode prog_6_method_2_code 88 = .ok (.goto (-71), 3) := by decide +kernel
theorem d_Reader_firstWrongLine_91 : decode prog_6_method_2_code 91 = .ok (.iconst 0, 1) := by decide +kernel
theorem d_Reader_firstWrongLine_92 : decode prog_6_method_2_code 92 = .ok (.ireturn, 1) := by decide +kernel
set_option maxRecDepth 100000 in
set_option maxHeartbeats 4000000 in
theorem cm_Reader_firstWrongLine {l : Launch} {S0 : State} {b : Nat} {D : va_G} {dT : Nat → ClassId} (hE : vEnv S0 b D dT) {dE mO : Nat} (hJ : vJ S0 dE mO) {h0 : vH} {hcv : vH} {ad0 : Nat → Nat → Nat} {L0 : vL} {rc : Int32} {A0 : Nat → Nat → Int32} {B0 : Nat → Nat → Int64} {f : Nat → Int32} {N t : Nat} {sc0 pe0 : Option Nat} {tx0 : Value} {ci0 : Int32} {fs0 fe0 : Nat → Int32} (x0 : LH S0.heap.size hcv h0 ad0 L0) (hcE : ∃ fE, hcv dE = some (aR dT 0 fE)) (hV0 : rLst dT dE ad0 L0 3 30 0 0 (ad0 10)) (hS0 : rLst dT dE ad0 L0 4 31 0 0 (ad0 11)) (h20 : L0 2 0 = some (.inr (4, [.ref (ad0 3 0), .ref (ad0 4 0), .ref (ad0 5 0), .int rc]))) (h60 : L0 6 0 = some (.inr (5, [.ref (ad0 2 0), .ref (ad0 7 0), va_rf sc0, va_rf pe0]))) (hL0 : L0 7 0 = some (.inr (6, [.ref (ad0 7 1), .ref (ad0 7 2), tx0, .int ci0])) ∧ L0 7 1 = some (aI dT 6 fs0) ∧ L0 7 2 = some (aI dT 6 fe0)) (hX : TX dT S0.heap.size h0 ad0 L0 f N t) (hA6 : A0 6 = f) (hPI : PI f (0, 0, 0, 0, A0, B0) 0) {lt ltv : Nat} {txl : String} {lz2 lz3 : Value} {fl0 : Nat → Int32} (hlt : vk_R "MenuScreens$Line" 18 txl lt S0) (hlt1 : hcv lt = some (.inr (0, [.ref ltv, .int 0, lz2, lz3]))) (hlt2 : hcv ltv = some (.inl (dT 2, 0, .inl fl0))) {dl dlv : Nat} {txdl : String} {dl2 dl3 : Value} {fdl : Nat → Int32} (hdl : vk_R "MenuScreens$Reader" 170 txdl dl S0) (hdl1 : hcv dl = some (.inr (0, [.ref dlv, .int 0, dl2, dl3]))) (hdl2 : hcv dlv = some (.inl (dT 2, 1, .inl fdl))) (hdl3 : fdl 0 = 45) {le lev : Nat} {txle : String} {le2 le3 : Value} {fle : Nat → Int32} (hle : vk_R "MenuScreens$Reader" 189 txle le S0) (hle1 : hcv le = some (.inr (0, [.ref lev, .int 0, le2, le3]))) (hle2 : hcv lev = some (.inl (dT 2, 1, .inl fle))) (hle3 : fle 0 = 61) {ll llv : Nat} {txll : String} {ll2 ll3 : Value} {fll : Nat → Int32} (hll : vk_R "MenuScreens$Reader" 191 txll ll S0) (hll1 : hcv ll = some (.inr (0, [.ref llv, .int 0, ll2, ll3]))) (hll2 : hcv llv = some (.inl (dT 2, 1, .inl fll))) (hll3 : fll 0 = 60) {lg lgv : Nat} {txlg : String} {lg2 lg3 : Value} {flg : Nat → Int32} (hlg : vk_R "MenuScreens$Reader" 193 txlg lg S0) (hlg1 : hcv lg = some (.inr (0, [.ref lgv, .int 0, lg2, lg3]))) (hlg2 : hcv lgv = some (.inl (dT 2, 1, .inl flg))) (hlg3 : flg 0 = 62) {lw0 lw0v : Nat} {txlw0 : String} {lw02 lw03 : Value} (hlw0 : vk_R "MenuScreens$Reader" 58 txlw0 lw0 S0) (hlw01 : hcv lw0 = some (.inr (0, [.ref lw0v, .int 0, lw02, lw03]))) (hlw02 : hcv lw0v = some (.inl (dT 2, (ltW 0).1, .inl (ltW 0).2))) {lw1 lw1v : Nat} {txlw1 : String} {lw12 lw13 : Value} (hlw1 : vk_R "MenuScreens$Reader" 68 txlw1 lw1 S0) (hlw11 : hcv lw1 = some (.inr (0, [.ref lw1v, .int 0, lw12, lw13]))) (hlw12 : hcv lw1v = some (.inl (dT 2, (ltW 1).1, .inl (ltW 1).2))) {lw2 lw2v : Nat} {txlw2 : String} {lw22 lw23 : Value} (hlw2 : vk_R "MenuScreens$Reader" 73 txlw2 lw2 S0) (hlw21 : hcv lw2 = some (.inr (0, [.ref lw2v, .int 0, lw22, lw23]))) (hlw22 : hcv lw2v = some (.inl (dT 2, (ltW 2).1, .inl (ltW 2).2))) {lw3 lw3v : Nat} {txlw3 : String} {lw32 lw33 : Value} (hlw3 : vk_R "MenuScreens$Reader" 81 txlw3 lw3 S0) (hlw31 : hcv lw3 = some (.inr (0, [.ref lw3v, .int 0, lw32, lw33]))) (hlw32 : hcv lw3v = some (.inl (dT 2, (ltW 3).1, .inl (ltW 3).2))) {lw4 lw4v : Nat} {txlw4 : String} {lw42 lw43 : Value} (hlw4 : vk_R "MenuScreens$Reader" 87 txlw4 lw4 S0) (hlw41 : hcv lw4 = some (.inr (0, [.ref lw4v, .int 0, lw42, lw43]))) (hlw42 : hcv lw4v = some (.inl (dT 2, (ltW 4).1, .inl (ltW 4).2))) {lw5 lw5v : Nat} {txlw5 : String} {lw52 lw53 : Value} (hlw5 : vk_R "MenuScreens$Reader" 92 txlw5 lw5 S0) (hlw51 : hcv lw5 = some (.inr (0, [.ref lw5v, .int 0, lw52, lw53]))) (hlw52 : hcv lw5v = some (.inl (dT 2, (ltW 5).1, .inl (ltW 5).2))) {lw6 lw6v : Nat} {txlw6 : String} {lw62 lw63 : Value} (hlw6 : vk_R "MenuScreens$Reader" 97 txlw6 lw6 S0) (hlw61 : hcv lw6 = some (.inr (0, [.ref lw6v, .int 0, lw62, lw63]))) (hlw62 : hcv lw6v = some (.inl (dT 2, (ltW 6).1, .inl (ltW 6).2))) {lw7 lw7v : Nat} {txlw7 : String} {lw72 lw73 : Value} (hlw7 : vk_R "MenuScreens$Reader" 102 txlw7 lw7 S0) (hlw71 : hcv lw7 = some (.inr (0, [.ref lw7v, .int 0, lw72, lw73]))) (hlw72 : hcv lw7v = some (.inl (dT 2, (ltW 7).1, .inl (ltW 7).2))) {lw8 lw8v : Nat} {txlw8 : String} {lw82 lw83 : Value} (hlw8 : vk_R "MenuScreens$Reader" 107 txlw8 lw8 S0) (hlw81 : hcv lw8 = some (.inr (0, [.ref lw8v, .int 0, lw82, lw83]))) (hlw82 : hcv lw8v = some (.inl (dT 2, (ltW 8).1, .inl (ltW 8).2))) : vMi l S0 D vcl GT y_Reader_firstWrongLine prog_6_method_2_code 5 (some .int) 11 250 (8 * (N + 1)) (1200 * (N + 1)) [.ref (ad0 6 0), .ref t] h0 (fun r h' => ∃ ad L nv ns np nc A B pf cb ce cs c0, LR S0.heap.size hcv h0 ad0 L0 h' ad L ∧ (∀ i, kK2 i → L i = L0 i ∧ ad i = ad0 i) ∧ PR dT dE h' ad L A B nv ns np nc pf cb ce cs c0 rc ∧ ad 6 = ad0 6 ∧ (ad 7 = ad0 7 ∧ ∃ tx1 ci1 fs1 fe1, L 7 0 = some (.inr (6, [.ref (ad0 7 1), .ref (ad0 7 2), tx1, .int ci1])) ∧ L 7 1 = some (aI dT 6 fs1) ∧ L 7 2 = some (aI dT 6 fe1)) ∧ ((∃ n1, pAll f N (N + 1) 0 0 (0, 0, 0, 0, A0, B0) = (n1, none) ∧ 0 < n1 ∧ n1 ≤ 4001 ∧ r = nI n1) ∨ (pAll f N (N + 1) 0 0 (0, 0, 0, 0, A0, B0) = (0, some (nv, ns, np, nc, A, B)) ∧ r = 0 ∧ PI f (nv, ns, np, nc, A, B) (N + 1)))) := by
  unfold vMi
  refine vM_ofQ hE.1 (by decide) (Nat.le_of_ble_eq_true rfl) (fun p e s m args below meth c ls Q hQ C hr hlk hnm X hl => ?_)
  have C : vC p s m _ c _ _ "MenuScreens$Reader" GT D vcl (vty dT) := C
  have hx := C.1.1
  have hb := C.1.2.1
  obtain ⟨H, eH⟩ : ∃ z, z = s.heap := ⟨_, rfl⟩
  obtain ⟨locs, elocs⟩ : ∃ z : List Loc, z = [] := ⟨_, rfl⟩
  rw [← eH, ← elocs] at X
  rw [← eH, ← elocs]
  clear eH elocs
  have hl : lv_has ls 5 [(0, .ref (ad0 6 0)), (1, .ref t)] := hl
  obtain ⟨h70, h71, h72⟩ := hL0
  refine lv_aload_n hx hb d_Reader_firstWrongLine_0 rfl (lv_at hl 0 rfl) ?_
  refine lv_null hx hb d_Reader_firstWrongLine_1 ?_
  refine mv_put C X (x0.get (i := 6) (j := 0) h60) (x0.wr (i := 6) (j := 0) h60) 2 p_5_25_5 rfl rfl (Nat.le_of_ble_eq_true rfl) d_Reader_firstWrongLine_2 (fun H locs X => ?_)
  have X : vO S0 D vcl (vup h0 (ad0 6 0) (.inr (5, [.ref (ad0 2 0), .ref (ad0 7 0), .null, va_rf pe0]))) s H locs := X
  refine lv_aload_n hx hb d_Reader_firstWrongLine_5 rfl (lv_at hl 0 rfl) ?_
  refine lv_null hx hb d_Reader_firstWrongLine_6 ?_
  refine mv_put C X (vup_s _ _ _) (x0.wr (i := 6) (j := 0) h60) 3 p_5_29_5 rfl rfl (Nat.le_of_ble_eq_true rfl) d_Reader_firstWrongLine_7 (fun H locs X => ?_)
  rw [vup_u] at X
  have X : vO S0 D vcl (vup h0 (ad0 6 0) (.inr (5, [.ref (ad0 2 0), .ref (ad0 7 0), .null, .null]))) s H locs := X
  refine lv_iconst (v := 0) hx hb d_Reader_firstWrongLine_10 (by decide) ?_
  refine lv_istore_n (lv' := [(2, .int 0), (0, .ref (ad0 6 0)), (1, .ref t)]) hx hb d_Reader_firstWrongLine_11 rfl hl (by decide) rfl (fun ls hl => ?_)
  refine lv_iconst (v := 0) hx hb d_Reader_firstWrongLine_12 (by decide) ?_
  refine lv_istore_n (lv' := [(3, .int 0), (2, .int 0), (0, .ref (ad0 6 0)), (1, .ref t)]) hx hb d_Reader_firstWrongLine_13 rfl hl (by decide) rfl (fun ls hl => ?_)
  refine lv_iconst (v := 0) hx hb d_Reader_firstWrongLine_14 (by decide) ?_
  refine lv_istore (lv' := [(4, .int 0), (3, .int 0), (2, .int 0), (0, .ref (ad0 6 0)), (1, .ref t)]) hx hb d_Reader_firstWrongLine_15 hl (by decide) rfl (fun ls hl => ?_)
  have x1 : LR S0.heap.size hcv h0 ad0 L0 (vup h0 (ad0 6 0) (.inr (5, [.ref (ad0 2 0), .ref (ad0 7 0), .null, .null]))) ad0 (lput L0 6 0 (some (.inr (5, [.ref (ad0 2 0), .ref (ad0 7 0), .null, .null])))) := (LR.of x0).put (i := 6) (j := 0) h60
  have r0 : RP dT dE (vup h0 (ad0 6 0) (.inr (5, [.ref (ad0 2 0), .ref (ad0 7 0), .null, .null]))) ad0 (lput L0 6 0 (some (.inr (5, [.ref (ad0 2 0), .ref (ad0 7 0), .null, .null])))) A0 B0 0 0 0 0 (fun _ => 0) (fun _ => 0) (fun _ => 0) (fun _ => 0) 0 (fun _ => false) (fun _ _ => 0) := (RP_0 hV0 hS0).to x1.2 (fun i hi => ⟨lput_k _ _ (by omega), rfl⟩)
  have lp : ∀ (n_lp : Nat) (lnn : Nat) (bg : Nat) (k : Nat) (nv : Nat) (ns : Nat) (np : Nat) (nc : Nat) (A : Nat → Nat → Int32) (B : Nat → Nat → Int64) (pf : Nat → Nat) (cb : Nat → Nat) (ce : Nat → Nat) (cs : Nat → Nat) (c0 : Nat) (ad : Nat → Nat → Nat) (L : vL) (cu : Nat) (su : Nat) (i2 : Int32) (i3 : Int32) (i4 : Int32) (ls : Array Slot) (h : vH) (H : Heap) (locs : List Loc), (i2 = nI lnn) → (i3 = nI bg) → (i4 = nI k) → (atP f N bg k lnn) → (pAll f N (N + 1) 0 0 (0, 0, 0, 0, A0, B0) = pAll f N (N + 1 - lnn) bg lnn (nv, ns, np, nc, A, B)) → (PI f (nv, ns, np, nc, A, B) bg) → (LR S0.heap.size hcv h0 ad0 L0 h ad L) → (∀ i, kK2 i → L i = L0 i ∧ ad i = ad0 i) → (PR dT dE h ad L A B nv ns np nc pf cb ce cs c0 rc) → ((ad 7 = ad0 7 ∧ ∃ tx1 ci1 fs1 fe1, L 7 0 = some (.inr (6, [.ref (ad0 7 1), .ref (ad0 7 2), tx1, .int ci1])) ∧ L 7 1 = some (aI dT 6 fs1) ∧ L 7 2 = some (aI dT 6 fe1))) → (TX dT S0.heap.size h ad L f N t) → (cu ≤ 8 * bg) → (su ≤ 1200 * bg) → (ad 6 = ad0 6) → (N + 2 - k) < n_lp → vO S0 D vcl h s H locs → lv_has ls 5 [(0, .ref (ad0 6 0)), (1, .ref t), (2, .int i2), (3, .int i3), (4, .int i4)] → W p l e (vRm 11 250 (8 * (N + 1)) (1200 * (N + 1))) s m args below meth c H locs cu su Q (F0 m 17 ls []) := by
    intro n_lp
    induction n_lp with
    | zero => intros; exact absurd (by assumption) (Nat.not_lt_zero _)
    | succ n_lp ih_lp =>
      intro lnn bg k nv ns np nc A B pf cb ce cs c0 ad L cu su i2 i3 i4 ls h H locs e2 e3 e4 hat hV hI xl hkk hR hln7 hX1 hcu hsu h66 hmu_lp X hl
      refine lv_iload hx hb d_Reader_firstWrongLine_17 (lv_at hl 4 rfl) ?_
      refine lv_aload_n hx hb d_Reader_firstWrongLine_19 rfl (lv_at hl 1 rfl) ?_
      obtain ⟨tv, z2, z3, f8, ⟨kt, ot⟩, ⟨ktv, otv⟩, wtv, hN0, hg⟩ := hX1
      have hX1 : TX dT S0.heap.size h ad L f N t := ⟨tv, z2, z3, f8, ⟨kt, ot⟩, ⟨ktv, otv⟩, wtv, hN0, hg⟩
      obtain ⟨e77, tx1, ci1, fs1, fe1, h70, h71, h72⟩ := hln7
      have hln7 : (ad 7 = ad0 7 ∧ ∃ tx1 ci1 fs1 fe1, L 7 0 = some (.inr (6, [.ref (ad0 7 1), .ref (ad0 7 2), tx1, .int ci1])) ∧ L 7 1 = some (aI dT 6 fs1) ∧ L 7 2 = some (aI dT 6 fe1)) := ⟨e77, tx1, ci1, fs1, fe1, h70, h71, h72⟩
      have hA6 : A 6 = f := hI.2.2.2.1
      have hbgN : bg ≤ N + 1 := Nat.le_trans hat.1 hat.2.1
      have k60 : h (ad0 6 0) = some (.inr (5, [.ref (ad 2 0), .ref (ad0 7 0), va_rf (if 0 < ns then some (ad 11 (ns - 1)) else none), va_rf (if c0 < nc then some (ad 17 (nc - 1)) else none)])) := by
        have := xl.1.get (i := 6) (j := 0) hR.2.2
        rw [h66, e77] at this; exact this
      have k70 : h (ad0 7 0) = some (.inr (6, [.ref (ad0 7 1), .ref (ad0 7 2), tx1, .int ci1])) := by
        have := xl.1.get (i := 7) (j := 0) h70
        rw [e77] at this; exact this
      have w70 : S0.heap.size ≤ ad0 7 0 := by rw [← e77]; exact xl.1.wr (i := 7) (j := 0) h70
      have k71 : h (ad0 7 1) = some (aI dT 6 fs1) := by rw [← e77]; exact xl.1.get (i := 7) (j := 1) h71
      have w71 : S0.heap.size ≤ ad0 7 1 := by rw [← e77]; exact xl.1.wr (i := 7) (j := 1) h71
      have k72 : h (ad0 7 2) = some (aI dT 6 fe1) := by rw [← e77]; exact xl.1.get (i := 7) (j := 2) h72
      have w72 : S0.heap.size ≤ ad0 7 2 := by rw [← e77]; exact xl.1.wr (i := 7) (j := 2) h72
      have n12 : ad0 7 1 ≠ ad0 7 2 := by rw [← e77]; exact xl.1.nj (i := 7) (j := 1) (i' := 7) (j' := 2) h71 h72 (by decide)
      have nt1 : tv ≠ ad0 7 1 := fun z => otv ⟨7, 1, _, h71, by rw [e77]; exact z.symm⟩
      have nt2 : tv ≠ ad0 7 2 := fun z => otv ⟨7, 2, _, h72, by rw [e77]; exact z.symm⟩
      refine mv_bi X (mv_rV (rest := [.int i4]) (As := []) gt_good C X k_5_33 (cm_String_length hE hJ (by omega) kt ktv) kt rfl rfl ⟨Nat.le_of_ble_eq_true rfl, Nat.le_of_ble_eq_true rfl⟩ rfl hl.1 rfl (Nat.le_of_ble_eq_true rfl) d_Reader_firstWrongLine_20 ⟨by show cu + 0 ≤ (8 * (N + 1)); omega, by show su + 0 ≤ (1200 * (N + 1)); omega⟩) (fun r1 hN H locs hp X => ?_)
      obtain ⟨eh, er⟩ := hp
      replace eh := eh.symm
      replace er := er.symm
      subst eh er
      refine lv_icmp_gt (tgt := 91) hx hb d_Reader_firstWrongLine_23 (by decide) (fun c2 => ?_) (fun c2 => ?_)
      · skip
        refine lv_iconst (v := 0) hx hb d_Reader_firstWrongLine_91 (by decide) ?_
        exact mq_iret hQ C X hr rfl hlk (⟨ad, L, nv, ns, np, nc, A, B, pf, cb, ce, cs, c0, xl, hkk, hR, h66, hln7, Or.inr ⟨by rw [hV]; exact pAll_end (atP_end hat ((nI_ltI (a := N) (b := k) (by omega) (by have := hat.2.1; omega)).mp (by rw [← e4]; exact c2))) _, rfl, PI_mono hI (by have := hat.1; have := hat.2.1; omega)⟩⟩) (by omega) (by omega) d_Reader_firstWrongLine_92
      · skip
        have hkN : k ≤ N := (nI_leI (by have := hat.2.1; omega) (by omega)).mp (by rw [← e4]; exact Int32.not_lt.mp c2)
        refine lv_iload hx hb d_Reader_firstWrongLine_26 (lv_at hl 4 rfl) ?_
        refine lv_aload_n hx hb d_Reader_firstWrongLine_28 rfl (lv_at hl 1 rfl) ?_
        refine mv_bi X (mv_rV (rest := [.int i4]) (As := []) gt_good C X k_5_33 (cm_String_length hE hJ (by omega) kt ktv) kt rfl rfl ⟨Nat.le_of_ble_eq_true rfl, Nat.le_of_ble_eq_true rfl⟩ rfl hl.1 rfl (Nat.le_of_ble_eq_true rfl) d_Reader_firstWrongLine_29 ⟨by show (cu + 0) + 0 ≤ (8 * (N + 1)); omega, by show (su + 0) + 0 ≤ (1200 * (N + 1)); omega⟩) (fun r3 hN H locs hp X => ?_)
        obtain ⟨eh, er⟩ := hp
        replace eh := eh.symm
        replace er := er.symm
        subst eh er
        refine lv_icmp_eq (tgt := 46) hx hb d_Reader_firstWrongLine_32 (by decide) (fun c4 => ?_) (fun c4 => ?_)
        · skip
          have hlf : k < N → f k = 10 := fun z => absurd (nI_eqI (a := k) (b := N) (by omega) (by omega) (by rw [← e4]; exact c4)) (by omega)
          refine lv_iinc (v := (i2 + 1)) (lv' := [(2, .int (i2 + 1)), (0, .ref (ad0 6 0)), (1, .ref t), (3, .int i3), (4, .int i4)]) hx hb d_Reader_firstWrongLine_46 hl (k := 2) rfl rfl (by decide) rfl (fun ls hl => ?_)
          refine lv_aload_n hx hb d_Reader_firstWrongLine_49 rfl (lv_at hl 1 rfl) ?_
          refine mv_get C X k60 1 f_5_21_5 (v := .ref (ad0 7 0)) rfl d_Reader_firstWrongLine_50 ?_
          refine lv_aload_n hx hb d_Reader_firstWrongLine_53 rfl (lv_at hl 2 rfl) ?_
          refine lv_iload_n hx hb d_Reader_firstWrongLine_54 rfl (lv_at hl 3 rfl) ?_
          refine lv_iload hx hb d_Reader_firstWrongLine_55 (lv_at hl 4 rfl) ?_
          rw [e3, e4]
          refine mv_bv X (mv_rV (rest := []) (As := [.ref t, .int (nI bg), .int (nI k)]) gt_good C X k_5_43 (cm_Line_split hE hJ (f := f) n12 nt1 nt2 hat.1 hkN hN0 hg k70 w70 k71 w71 k72 w72 kt ktv) k70 rfl rfl ⟨Nat.le_of_ble_eq_true rfl, Nat.le_of_ble_eq_true rfl⟩ rfl hl.1 rfl (Nat.le_of_ble_eq_true rfl) d_Reader_firstWrongLine_57 ⟨by show ((cu + 0) + 0) + 0 ≤ (8 * (N + 1)); omega, by show ((su + 0) + 0) + 0 ≤ (1200 * (N + 1)); omega⟩) (fun hN H locs hp X => ?_)
          obtain ⟨cw, fs2, fe2, eh, hW⟩ := hp
          replace eh := eh.symm
          subst eh
          obtain ⟨v1, ev1⟩ : ∃ z, z = (vup (vup (vup h (ad0 7 1) (aI dT 6 fs2)) (ad0 7 2) (aI dT 6 fe2)) (ad0 7 0) (.inr (6, [.ref (ad0 7 1), .ref (ad0 7 2), .ref t, .int (nI cw)]))) := ⟨_, rfl⟩
          have X : vO S0 D vcl (vup (vup (vup h (ad0 7 1) (aI dT 6 fs2)) (ad0 7 2) (aI dT 6 fe2)) (ad0 7 0) (.inr (6, [.ref (ad0 7 1), .ref (ad0 7 2), .ref t, .int (nI cw)]))) s H locs := X
          rw [← ev1] at X
          have y1 : LR S0.heap.size hcv h ad L v1 ad (lput (lput (lput L 7 1 (some (aI dT 6 fs2))) 7 2 (some (aI dT 6 fe2))) 7 0 (some (.inr (6, [.ref (ad0 7 1), .ref (ad0 7 2), .ref t, .int (nI cw)])))) := by
            have q1 := (((LR.of xl.1).put (i := 7) (j := 1) (e' := aI dT 6 fs2) h71).put (i := 7) (j := 2) (e' := aI dT 6 fe2) h72).put (i := 7) (j := 0) (e' := .inr (6, [.ref (ad0 7 1), .ref (ad0 7 2), .ref t, .int (nI cw)])) h70
            rw [e77] at q1
            rw [ev1]; exact q1
          have xt := xl.trans y1
          have hkk1 : ∀ i, kK2 i → (lput (lput (lput L 7 1 (some (aI dT 6 fs2))) 7 2 (some (aI dT 6 fe2))) 7 0 (some (.inr (6, [.ref (ad0 7 1), .ref (ad0 7 2), .ref t, .int (nI cw)])))) i = L0 i ∧ ad i = ad0 i := fun i hi => ⟨by rw [lput_k _ _ hi.2, lput_k _ _ hi.2, lput_k _ _ hi.2]; exact (hkk i hi).1, (hkk i hi).2⟩
          have hR1 : PR dT dE v1 ad (lput (lput (lput L 7 1 (some (aI dT 6 fs2))) 7 2 (some (aI dT 6 fe2))) 7 0 (some (.inr (6, [.ref (ad0 7 1), .ref (ad0 7 2), .ref t, .int (nI cw)])))) A B nv ns np nc pf cb ce cs c0 rc := ⟨hR.1.to y1.2 (fun i hi => ⟨by rw [lput_k _ _ (show i ≠ 7 by omega), lput_k _ _ (show i ≠ 7 by omega), lput_k _ _ (show i ≠ 7 by omega)], rfl⟩), hR.2.1, hR.2.2⟩
          have hX2 := hX1.lx y1.2
          have hln71 : ad 7 = ad0 7 ∧ ∃ tx1 ci1 fs1 fe1, (lput (lput (lput L 7 1 (some (aI dT 6 fs2))) 7 2 (some (aI dT 6 fe2))) 7 0 (some (.inr (6, [.ref (ad0 7 1), .ref (ad0 7 2), .ref t, .int (nI cw)])))) 7 0 = some (.inr (6, [.ref (ad0 7 1), .ref (ad0 7 2), tx1, .int ci1])) ∧ (lput (lput (lput L 7 1 (some (aI dT 6 fs2))) 7 2 (some (aI dT 6 fe2))) 7 0 (some (.inr (6, [.ref (ad0 7 1), .ref (ad0 7 2), .ref t, .int (nI cw)])))) 7 1 = some (aI dT 6 fs1) ∧ (lput (lput (lput L 7 1 (some (aI dT 6 fs2))) 7 2 (some (aI dT 6 fe2))) 7 0 (some (.inr (6, [.ref (ad0 7 1), .ref (ad0 7 2), .ref t, .int (nI cw)])))) 7 2 = some (aI dT 6 fe1) := ⟨e77, _, _, fs2, fe2, rfl, rfl, rfl⟩
          have hT1 : PT dT S0.heap.size v1 ad (lput (lput (lput L 7 1 (some (aI dT 6 fs2))) 7 2 (some (aI dT 6 fe2))) 7 0 (some (.inr (6, [.ref (ad0 7 1), .ref (ad0 7 2), .ref t, .int (nI cw)])))) f N k bg cw := by
            obtain ⟨tv, z2, z3, f8, q1, q2, q3, q4, q5⟩ := hX2
            refine ⟨t, tv, z2, z3, f8, fs2, fe2, q1, q2, q3, ?_, rfl, rfl, hW, hat.1, hkN, q4, q5⟩
            rw [e77]; rfl
          have k70b : v1 (ad0 7 0) = some (.inr (6, [.ref (ad0 7 1), .ref (ad0 7 2), .ref t, .int (nI cw)])) := by rw [ev1, vup_s]
          have k60b : v1 (ad0 6 0) = some (.inr (5, [.ref (ad 2 0), .ref (ad0 7 0), va_rf (if 0 < ns then some (ad 11 (ns - 1)) else none), va_rf (if c0 < nc then some (ad 17 (nc - 1)) else none)])) := by
            have := y1.1.get (i := 6) (j := 0) hR1.2.2
            rw [h66, e77] at this; exact this
          clear ev1
          refine lv_aload_n hx hb d_Reader_firstWrongLine_60 rfl (lv_at hl 1 rfl) ?_
          refine mv_get C X k60b 1 f_5_21_5 (v := .ref (ad0 7 0)) rfl d_Reader_firstWrongLine_61 ?_
          refine mv_bi X (mv_rV (rest := []) (As := []) gt_good C X k_5_47 (cm_Line_wordCount hE k70b) k70b rfl rfl ⟨Nat.le_of_ble_eq_true rfl, Nat.le_of_ble_eq_true rfl⟩ rfl hl.1 rfl (Nat.le_of_ble_eq_true rfl) d_Reader_firstWrongLine_64 ⟨by show (((cu + 0) + 0) + 0) + 0 ≤ (8 * (N + 1)); omega, by show (((su + 0) + 0) + 0) + 0 ≤ (1200 * (N + 1)); omega⟩) (fun r6 hN H locs hp X => ?_)
          obtain ⟨eh, er⟩ := hp
          replace eh := eh.symm
          replace er := er.symm
          subst eh er
          refine lv_if_le (tgt := 80) hx hb d_Reader_firstWrongLine_67 (by decide) (fun c7 => ?_) (fun c7 => ?_)
          · skip
            have hcw0 : cw = 0 := by
              have := (nI_leI (b := 0) (by have := hW.1; omega) (by decide)).mp c7
              omega
            have hbl : wB f k bg = false := hW.2.2.1 (by omega) |> fun q => by rw [hcw0] at q; exact q
            refine lv_iload hx hb d_Reader_firstWrongLine_80 (lv_at hl 4 rfl) ?_
            refine lv_iconst (v := 1) hx hb d_Reader_firstWrongLine_82 (by decide) ?_
            refine lv_iadd hx hb d_Reader_firstWrongLine_83 ?_
            refine lv_istore_n (lv' := [(3, .int (i4 + 1)), (2, .int (i2 + 1)), (0, .ref (ad0 6 0)), (1, .ref t), (4, .int i4)]) hx hb d_Reader_firstWrongLine_84 rfl hl (by decide) rfl (fun ls hl => ?_)
            refine lv_iinc (v := (i4 + 1)) (lv' := [(4, .int (i4 + 1)), (3, .int (i4 + 1)), (2, .int (i2 + 1)), (0, .ref (ad0 6 0)), (1, .ref t)]) hx hb d_Reader_firstWrongLine_85 hl (k := 4) rfl rfl (by decide) rfl (fun ls hl => ?_)
            refine lv_goto (tgt := 17) hx hb d_Reader_firstWrongLine_88 (by decide) ?_
            exact ih_lp (lnn + 1) (k + 1) (k + 1) nv ns np nc A B pf cb ce cs c0 ad (lput (lput (lput L 7 1 (some (aI dT 6 fs2))) 7 2 (some (aI dT 6 fe2))) 7 0 (some (.inr (6, [.ref (ad0 7 1), .ref (ad0 7 2), .ref t, .int (nI cw)])))) ((((cu + 0) + 0) + 0) + 0) ((((su + 0) + 0) + 0) + 0) (i2 + 1) (i4 + 1) (i4 + 1) ls _ _ _ (by rw [e2]; exact nI_1 lnn) (by rw [e4]; exact nI_1 k) (by rw [e4]; exact nI_1 k) (atP_nl hat hkN) (pAll_step hat hkN hlf hV (pLn_0 hbl)) (PI_mono hI (by have := hat.1; omega)) xt hkk1 hR1 hln71 hX2 (by have := hat.1; omega) (by have := hat.1; omega) h66 (by omega) X (lv_sub hl [3, 4, 2, 1, 0] rfl)
          · skip
            refine lv_aload_n hx hb d_Reader_firstWrongLine_70 rfl (lv_at hl 1 rfl) ?_
            refine lv_iload_n hx hb d_Reader_firstWrongLine_71 rfl (lv_at hl 0 rfl) ?_
            have hcw0 : 0 < cw := by
              rcases Nat.eq_zero_or_pos cw with q | q
              · exact absurd (by rw [q]; decide) c7
              · exact q
            have hwd : wB f k bg = true := hW.2.1 0 hcw0
            have hnp5 : 8 * (np + nc) ≤ bg := hI.2.2.1
            have hbN := hat.2.1
            have hbk1 := hat.1
            rw [e2, nI_1]
            have k6a : ad 6 0 = ad0 6 0 := by rw [h66]
            refine mv_bi X (mv_rV (rest := []) (As := [.int (nI (lnn + 1))]) gt_good C X k_5_50 ((k6a ▸ cm_Reader_takeLine (ln := nI (lnn + 1)) hE hJ y1.1 hcE hR1 hI.1 hI.2.1 (by omega) (by omega) hT1 hA6 hlt hlt1 hlt2 hdl hdl1 hdl2 hdl3 hle hle1 hle2 hle3 hll hll1 hll2 hll3 hlg hlg1 hlg2 hlg3 hlw0 hlw01 hlw02 hlw1 hlw11 hlw12 hlw2 hlw21 hlw22 hlw3 hlw31 hlw32 hlw4 hlw41 hlw42 hlw5 hlw51 hlw52 hlw6 hlw61 hlw62 hlw7 hlw71 hlw72 hlw8 hlw81 hlw82 hcw0 ⟨lnn + 1, rfl, by omega, by have := hat.2.2.1; omega⟩)) k60b rfl rfl ⟨Nat.le_of_ble_eq_true rfl, Nat.le_of_ble_eq_true rfl⟩ rfl hl.1 rfl (Nat.le_of_ble_eq_true rfl) d_Reader_firstWrongLine_72 ⟨by show ((((cu + 0) + 0) + 0) + 0) + 8 ≤ (8 * (N + 1)); omega, by show ((((su + 0) + 0) + 0) + 0) + (150 + 2 * np + 3 * (k - bg)) ≤ (1200 * (N + 1)); omega⟩) (fun r8 hN H locs hp X => ?_)
            obtain ⟨ad2, L2, x2, kk2, hq⟩ := hp
            rcases hq with ⟨ok2, er, pf', cb', ce', cs', c0', hR2⟩ | ⟨ok2, er, hR2⟩
            · subst er
              have hkk2 : ∀ i, kK2 i → L2 i = L0 i ∧ ad2 i = ad0 i := fun i hi => ⟨((kk2 i).1 hi.1).trans (hkk1 i hi).1, ((kk2 i).2 (Or.inl hi.1)).trans (hkk1 i hi).2⟩
              have k7k : kK 7 := by unfold kK; omega
              have k7 := And.intro ((kk2 7).1 k7k) ((kk2 7).2 (Or.inl k7k))
              have h662 : ad2 6 = ad0 6 := ((kk2 6).2 (Or.inr (Or.inr (Or.inr rfl)))).trans h66
              have hln72 : ad2 7 = ad0 7 ∧ ∃ tx1 ci1 fs1 fe1, L2 7 0 = some (.inr (6, [.ref (ad0 7 1), .ref (ad0 7 2), tx1, .int ci1])) ∧ L2 7 1 = some (aI dT 6 fs1) ∧ L2 7 2 = some (aI dT 6 fe1) := ⟨k7.2.trans e77, by rw [k7.1]; exact hln71.2⟩
              refine lv_if_ne (tgt := 80) hx hb d_Reader_firstWrongLine_75 (by decide) (fun c9 => ?_) (fun z => absurd z (by decide))
              refine lv_iload hx hb d_Reader_firstWrongLine_80 (lv_at hl 4 rfl) ?_
              refine lv_iconst (v := 1) hx hb d_Reader_firstWrongLine_82 (by decide) ?_
              refine lv_iadd hx hb d_Reader_firstWrongLine_83 ?_
              refine lv_istore_n (lv' := [(3, .int (i4 + 1)), (2, .int (i2 + 1)), (0, .ref (ad0 6 0)), (1, .ref t), (4, .int i4)]) hx hb d_Reader_firstWrongLine_84 rfl hl (by decide) rfl (fun ls hl => ?_)
              refine lv_iinc (v := (i4 + 1)) (lv' := [(4, .int (i4 + 1)), (3, .int (i4 + 1)), (2, .int (i2 + 1)), (0, .ref (ad0 6 0)), (1, .ref t)]) hx hb d_Reader_firstWrongLine_85 hl (k := 4) rfl rfl (by decide) rfl (fun ls hl => ?_)
              refine lv_goto (tgt := 17) hx hb d_Reader_firstWrongLine_88 (by decide) ?_
              exact ih_lp (lnn + 1) (k + 1) (k + 1) _ _ _ _ _ _ pf' cb' ce' cs' c0' ad2 L2 (((((cu + 0) + 0) + 0) + 0) + 8) (((((su + 0) + 0) + 0) + 0) + (150 + 2 * np + 3 * (k - bg))) (i2 + 1) (i4 + 1) (i4 + 1) ls _ _ _ (by rw [e2]; exact nI_1 lnn) (by rw [e4]; exact nI_1 k) (by rw [e4]; exact nI_1 k) (atP_nl hat hkN) (pAll_step hat hkN hlf hV (pLn_t hwd ok2)) (PI_kd _ hI hat.1 (by omega) rfl (of_decide_eq_true hwd) ok2) (xt.trans x2) hkk2 hR2 hln72 (hX2.lx x2.2) (by have := hat.1; omega) (by omega) h662 (by omega) X (lv_sub hl [3, 4, 2, 1, 0] rfl)
            · subst er
              have hkk2 : ∀ i, kK2 i → L2 i = L0 i ∧ ad2 i = ad0 i := fun i hi => ⟨((kk2 i).1 hi.1).trans (hkk1 i hi).1, ((kk2 i).2 (Or.inl hi.1)).trans (hkk1 i hi).2⟩
              have k7k : kK 7 := by unfold kK; omega
              have k7 := And.intro ((kk2 7).1 k7k) ((kk2 7).2 (Or.inl k7k))
              have h662 : ad2 6 = ad0 6 := ((kk2 6).2 (Or.inr (Or.inr (Or.inr rfl)))).trans h66
              have hln72 : ad2 7 = ad0 7 ∧ ∃ tx1 ci1 fs1 fe1, L2 7 0 = some (.inr (6, [.ref (ad0 7 1), .ref (ad0 7 2), tx1, .int ci1])) ∧ L2 7 1 = some (aI dT 6 fs1) ∧ L2 7 2 = some (aI dT 6 fe1) := ⟨k7.2.trans e77, by rw [k7.1]; exact hln71.2⟩
              refine lv_if_ne (tgt := 80) hx hb d_Reader_firstWrongLine_75 (by decide) (fun z => absurd z (fun q => q rfl)) (fun c10 => ?_)
              refine lv_iload_n hx hb d_Reader_firstWrongLine_78 rfl (lv_at hl 0 rfl) ?_
              exact mq_iret hQ C X hr rfl hlk (⟨ad2, L2, _, _, _, _, _, _, _, _, _, _, _, xt.trans x2, hkk2, hR2, h662, hln72, Or.inl ⟨lnn + 1, pAll_stop hat hkN hlf hV (by have h3 : nF f k bg < nT f k bg := of_decide_eq_true hwd; have h4 := nF_in f hat.1; have h5 := nT_in f hat.1; omega) (pLn_f hwd ok2), by omega, by have := hat.2.2.1; omega, by rw [e2]; exact nI_1 lnn⟩⟩) (by omega) (by omega) d_Reader_firstWrongLine_79
        · skip
          have hkl : k < N := by
            rcases Nat.eq_or_lt_of_le hkN with q | q
            · exact absurd (by rw [e4, q]) c4
            · exact q
          obtain ⟨hc4, c1, hc1, hc2, hc3⟩ := hg k hkl
          refine lv_aload_n hx hb d_Reader_firstWrongLine_35 rfl (lv_at hl 1 rfl) ?_
          refine lv_iload hx hb d_Reader_firstWrongLine_36 (lv_at hl 4 rfl) ?_
          rw [e4]
          refine mv_bi X (mv_rV (rest := []) (As := [.int (nI k)]) gt_good C X k_5_39 (cm_String_charAt hE hJ (by omega) (j := k) hkl (hc4.trans hc3) hc2 kt ktv) kt rfl rfl ⟨Nat.le_of_ble_eq_true rfl, Nat.le_of_ble_eq_true rfl⟩ rfl hl.1 rfl (Nat.le_of_ble_eq_true rfl) d_Reader_firstWrongLine_38 ⟨by show ((cu + 0) + 0) + 0 ≤ (8 * (N + 1)); omega, by show ((su + 0) + 0) + 0 ≤ (1200 * (N + 1)); omega⟩) (fun r11 hN H locs hp X => ?_)
          obtain ⟨eh, er⟩ := hp
          replace eh := eh.symm
          replace er := er.symm
          subst eh er
          refine lv_bipush (v := 10) hx hb d_Reader_firstWrongLine_41 (by decide) ?_
          refine lv_icmp_ne (tgt := 85) hx hb d_Reader_firstWrongLine_43 (by decide) (fun c12 => ?_) (fun c12 => ?_)
          · skip
            have hnl : ¬ f k = 10 := by rw [hc3]; exact c12
            have hkN := hkl
            refine lv_iinc (v := (i4 + 1)) (lv' := [(4, .int (i4 + 1)), (0, .ref (ad0 6 0)), (1, .ref t), (2, .int i2), (3, .int i3)]) hx hb d_Reader_firstWrongLine_85 hl (k := 4) rfl rfl (by decide) rfl (fun ls hl => ?_)
            refine lv_goto (tgt := 17) hx hb d_Reader_firstWrongLine_88 (by decide) ?_
            exact ih_lp lnn bg (k + 1) nv ns np nc A B pf cb ce cs c0 ad L (((cu + 0) + 0) + 0) (((su + 0) + 0) + 0) i2 i3 (i4 + 1) ls _ _ _ e2 e3 (by rw [e4]; exact nI_1 k) (atP_go hat hkN hnl) hV hI xl hkk hR hln7 hX1 (by omega) (by omega) h66 (by omega) X (lv_sub hl [1, 2, 3, 4, 0] rfl)
          · skip
            have hlf : k < N → f k = 10 := fun _ => by rw [hc3]; exact c12
            refine lv_iinc (v := (i2 + 1)) (lv' := [(2, .int (i2 + 1)), (0, .ref (ad0 6 0)), (1, .ref t), (3, .int i3), (4, .int i4)]) hx hb d_Reader_firstWrongLine_46 hl (k := 2) rfl rfl (by decide) rfl (fun ls hl => ?_)
            refine lv_aload_n hx hb d_Reader_firstWrongLine_49 rfl (lv_at hl 1 rfl) ?_
            refine mv_get C X k60 1 f_5_21_5 (v := .ref (ad0 7 0)) rfl d_Reader_firstWrongLine_50 ?_
            refine lv_aload_n hx hb d_Reader_firstWrongLine_53 rfl (lv_at hl 2 rfl) ?_
            refine lv_iload_n hx hb d_Reader_firstWrongLine_54 rfl (lv_at hl 3 rfl) ?_
            refine lv_iload hx hb d_Reader_firstWrongLine_55 (lv_at hl 4 rfl) ?_
            rw [e3, e4]
            refine mv_bv X (mv_rV (rest := []) (As := [.ref t, .int (nI bg), .int (nI k)]) gt_good C X k_5_43 (cm_Line_split hE hJ (f := f) n12 nt1 nt2 hat.1 hkN hN0 hg k70 w70 k71 w71 k72 w72 kt ktv) k70 rfl rfl ⟨Nat.le_of_ble_eq_true rfl, Nat.le_of_ble_eq_true rfl⟩ rfl hl.1 rfl (Nat.le_of_ble_eq_true rfl) d_Reader_firstWrongLine_57 ⟨by show (((cu + 0) + 0) + 0) + 0 ≤ (8 * (N + 1)); omega, by show (((su + 0) + 0) + 0) + 0 ≤ (1200 * (N + 1)); omega⟩) (fun hN H locs hp X => ?_)
            obtain ⟨cw, fs2, fe2, eh, hW⟩ := hp
            replace eh := eh.symm
            subst eh
            obtain ⟨v1, ev1⟩ : ∃ z, z = (vup (vup (vup h (ad0 7 1) (aI dT 6 fs2)) (ad0 7 2) (aI dT 6 fe2)) (ad0 7 0) (.inr (6, [.ref (ad0 7 1), .ref (ad0 7 2), .ref t, .int (nI cw)]))) := ⟨_, rfl⟩
            have X : vO S0 D vcl (vup (vup (vup h (ad0 7 1) (aI dT 6 fs2)) (ad0 7 2) (aI dT 6 fe2)) (ad0 7 0) (.inr (6, [.ref (ad0 7 1), .ref (ad0 7 2), .ref t, .int (nI cw)]))) s H locs := X
            rw [← ev1] at X
            have y1 : LR S0.heap.size hcv h ad L v1 ad (lput (lput (lput L 7 1 (some (aI dT 6 fs2))) 7 2 (some (aI dT 6 fe2))) 7 0 (some (.inr (6, [.ref (ad0 7 1), .ref (ad0 7 2), .ref t, .int (nI cw)])))) := by
              have q1 := (((LR.of xl.1).put (i := 7) (j := 1) (e' := aI dT 6 fs2) h71).put (i := 7) (j := 2) (e' := aI dT 6 fe2) h72).put (i := 7) (j := 0) (e' := .inr (6, [.ref (ad0 7 1), .ref (ad0 7 2), .ref t, .int (nI cw)])) h70
              rw [e77] at q1
              rw [ev1]; exact q1
            have xt := xl.trans y1
            have hkk1 : ∀ i, kK2 i → (lput (lput (lput L 7 1 (some (aI dT 6 fs2))) 7 2 (some (aI dT 6 fe2))) 7 0 (some (.inr (6, [.ref (ad0 7 1), .ref (ad0 7 2), .ref t, .int (nI cw)])))) i = L0 i ∧ ad i = ad0 i := fun i hi => ⟨by rw [lput_k _ _ hi.2, lput_k _ _ hi.2, lput_k _ _ hi.2]; exact (hkk i hi).1, (hkk i hi).2⟩
            have hR1 : PR dT dE v1 ad (lput (lput (lput L 7 1 (some (aI dT 6 fs2))) 7 2 (some (aI dT 6 fe2))) 7 0 (some (.inr (6, [.ref (ad0 7 1), .ref (ad0 7 2), .ref t, .int (nI cw)])))) A B nv ns np nc pf cb ce cs c0 rc := ⟨hR.1.to y1.2 (fun i hi => ⟨by rw [lput_k _ _ (show i ≠ 7 by omega), lput_k _ _ (show i ≠ 7 by omega), lput_k _ _ (show i ≠ 7 by omega)], rfl⟩), hR.2.1, hR.2.2⟩
            have hX2 := hX1.lx y1.2
            have hln71 : ad 7 = ad0 7 ∧ ∃ tx1 ci1 fs1 fe1, (lput (lput (lput L 7 1 (some (aI dT 6 fs2))) 7 2 (some (aI dT 6 fe2))) 7 0 (some (.inr (6, [.ref (ad0 7 1), .ref (ad0 7 2), .ref t, .int (nI cw)])))) 7 0 = some (.inr (6, [.ref (ad0 7 1), .ref (ad0 7 2), tx1, .int ci1])) ∧ (lput (lput (lput L 7 1 (some (aI dT 6 fs2))) 7 2 (some (aI dT 6 fe2))) 7 0 (some (.inr (6, [.ref (ad0 7 1), .ref (ad0 7 2), .ref t, .int (nI cw)])))) 7 1 = some (aI dT 6 fs1) ∧ (lput (lput (lput L 7 1 (some (aI dT 6 fs2))) 7 2 (some (aI dT 6 fe2))) 7 0 (some (.inr (6, [.ref (ad0 7 1), .ref (ad0 7 2), .ref t, .int (nI cw)])))) 7 2 = some (aI dT 6 fe1) := ⟨e77, _, _, fs2, fe2, rfl, rfl, rfl⟩
            have hT1 : PT dT S0.heap.size v1 ad (lput (lput (lput L 7 1 (some (aI dT 6 fs2))) 7 2 (some (aI dT 6 fe2))) 7 0 (some (.inr (6, [.ref (ad0 7 1), .ref (ad0 7 2), .ref t, .int (nI cw)])))) f N k bg cw := by
              obtain ⟨tv, z2, z3, f8, q1, q2, q3, q4, q5⟩ := hX2
              refine ⟨t, tv, z2, z3, f8, fs2, fe2, q1, q2, q3, ?_, rfl, rfl, hW, hat.1, hkN, q4, q5⟩
              rw [e77]; rfl
            have k70b : v1 (ad0 7 0) = some (.inr (6, [.ref (ad0 7 1), .ref (ad0 7 2), .ref t, .int (nI cw)])) := by rw [ev1, vup_s]
            have k60b : v1 (ad0 6 0) = some (.inr (5, [.ref (ad 2 0), .ref (ad0 7 0), va_rf (if 0 < ns then some (ad 11 (ns - 1)) else none), va_rf (if c0 < nc then some (ad 17 (nc - 1)) else none)])) := by
              have := y1.1.get (i := 6) (j := 0) hR1.2.2
              rw [h66, e77] at this; exact this
            clear ev1
            refine lv_aload_n hx hb d_Reader_firstWrongLine_60 rfl (lv_at hl 1 rfl) ?_
            refine mv_get C X k60b 1 f_5_21_5 (v := .ref (ad0 7 0)) rfl d_Reader_firstWrongLine_61 ?_
            refine mv_bi X (mv_rV (rest := []) (As := []) gt_good C X k_5_47 (cm_Line_wordCount hE k70b) k70b rfl rfl ⟨Nat.le_of_ble_eq_true rfl, Nat.le_of_ble_eq_true rfl⟩ rfl hl.1 rfl (Nat.le_of_ble_eq_true rfl) d_Reader_firstWrongLine_64 ⟨by show ((((cu + 0) + 0) + 0) + 0) + 0 ≤ (8 * (N + 1)); omega, by show ((((su + 0) + 0) + 0) + 0) + 0 ≤ (1200 * (N + 1)); omega⟩) (fun r14 hN H locs hp X => ?_)
            obtain ⟨eh, er⟩ := hp
            replace eh := eh.symm
            replace er := er.symm
            subst eh er
            refine lv_if_le (tgt := 80) hx hb d_Reader_firstWrongLine_67 (by decide) (fun c15 => ?_) (fun c15 => ?_)
            · skip
              have hcw0 : cw = 0 := by
                have := (nI_leI (b := 0) (by have := hW.1; omega) (by decide)).mp c15
                omega
              have hbl : wB f k bg = false := hW.2.2.1 (by omega) |> fun q => by rw [hcw0] at q; exact q
              refine lv_iload hx hb d_Reader_firstWrongLine_80 (lv_at hl 4 rfl) ?_
              refine lv_iconst (v := 1) hx hb d_Reader_firstWrongLine_82 (by decide) ?_
              refine lv_iadd hx hb d_Reader_firstWrongLine_83 ?_
              refine lv_istore_n (lv' := [(3, .int (i4 + 1)), (2, .int (i2 + 1)), (0, .ref (ad0 6 0)), (1, .ref t), (4, .int i4)]) hx hb d_Reader_firstWrongLine_84 rfl hl (by decide) rfl (fun ls hl => ?_)
              refine lv_iinc (v := (i4 + 1)) (lv' := [(4, .int (i4 + 1)), (3, .int (i4 + 1)), (2, .int (i2 + 1)), (0, .ref (ad0 6 0)), (1, .ref t)]) hx hb d_Reader_firstWrongLine_85 hl (k := 4) rfl rfl (by decide) rfl (fun ls hl => ?_)
              refine lv_goto (tgt := 17) hx hb d_Reader_firstWrongLine_88 (by decide) ?_
              exact ih_lp (lnn + 1) (k + 1) (k + 1) nv ns np nc A B pf cb ce cs c0 ad (lput (lput (lput L 7 1 (some (aI dT 6 fs2))) 7 2 (some (aI dT 6 fe2))) 7 0 (some (.inr (6, [.ref (ad0 7 1), .ref (ad0 7 2), .ref t, .int (nI cw)])))) (((((cu + 0) + 0) + 0) + 0) + 0) (((((su + 0) + 0) + 0) + 0) + 0) (i2 + 1) (i4 + 1) (i4 + 1) ls _ _ _ (by rw [e2]; exact nI_1 lnn) (by rw [e4]; exact nI_1 k) (by rw [e4]; exact nI_1 k) (atP_nl hat hkN) (pAll_step hat hkN hlf hV (pLn_0 hbl)) (PI_mono hI (by have := hat.1; omega)) xt hkk1 hR1 hln71 hX2 (by have := hat.1; omega) (by have := hat.1; omega) h66 (by omega) X (lv_sub hl [3, 4, 2, 1, 0] rfl)
            · skip
              refine lv_aload_n hx hb d_Reader_firstWrongLine_70 rfl (lv_at hl 1 rfl) ?_
              refine lv_iload_n hx hb d_Reader_firstWrongLine_71 rfl (lv_at hl 0 rfl) ?_
              have hcw0 : 0 < cw := by
                rcases Nat.eq_zero_or_pos cw with q | q
                · exact absurd (by rw [q]; decide) c15
                · exact q
              have hwd : wB f k bg = true := hW.2.1 0 hcw0
              have hnp5 : 8 * (np + nc) ≤ bg := hI.2.2.1
              have hbN := hat.2.1
              have hbk1 := hat.1
              rw [e2, nI_1]
              have k6a : ad 6 0 = ad0 6 0 := by rw [h66]
              refine mv_bi X (mv_rV (rest := []) (As := [.int (nI (lnn + 1))]) gt_good C X k_5_50 ((k6a ▸ cm_Reader_takeLine (ln := nI (lnn + 1)) hE hJ y1.1 hcE hR1 hI.1 hI.2.1 (by omega) (by omega) hT1 hA6 hlt hlt1 hlt2 hdl hdl1 hdl2 hdl3 hle hle1 hle2 hle3 hll hll1 hll2 hll3 hlg hlg1 hlg2 hlg3 hlw0 hlw01 hlw02 hlw1 hlw11 hlw12 hlw2 hlw21 hlw22 hlw3 hlw31 hlw32 hlw4 hlw41 hlw42 hlw5 hlw51 hlw52 hlw6 hlw61 hlw62 hlw7 hlw71 hlw72 hlw8 hlw81 hlw82 hcw0 ⟨lnn + 1, rfl, by omega, by have := hat.2.2.1; omega⟩)) k60b rfl rfl ⟨Nat.le_of_ble_eq_true rfl, Nat.le_of_ble_eq_true rfl⟩ rfl hl.1 rfl (Nat.le_of_ble_eq_true rfl) d_Reader_firstWrongLine_72 ⟨by show (((((cu + 0) + 0) + 0) + 0) + 0) + 8 ≤ (8 * (N + 1)); omega, by show (((((su + 0) + 0) + 0) + 0) + 0) + (150 + 2 * np + 3 * (k - bg)) ≤ (1200 * (N + 1)); omega⟩) (fun r16 hN H locs hp X => ?_)
              obtain ⟨ad2, L2, x2, kk2, hq⟩ := hp
              rcases hq with ⟨ok2, er, pf', cb', ce', cs', c0', hR2⟩ | ⟨ok2, er, hR2⟩
              · subst er
                have hkk2 : ∀ i, kK2 i → L2 i = L0 i ∧ ad2 i = ad0 i := fun i hi => ⟨((kk2 i).1 hi.1).trans (hkk1 i hi).1, ((kk2 i).2 (Or.inl hi.1)).trans (hkk1 i hi).2⟩
                have k7k : kK 7 := by unfold kK; omega
                have k7 := And.intro ((kk2 7).1 k7k) ((kk2 7).2 (Or.inl k7k))
                have h662 : ad2 6 = ad0 6 := ((kk2 6).2 (Or.inr (Or.inr (Or.inr rfl)))).trans h66
                have hln72 : ad2 7 = ad0 7 ∧ ∃ tx1 ci1 fs1 fe1, L2 7 0 = some (.inr (6, [.ref (ad0 7 1), .ref (ad0 7 2), tx1, .int ci1])) ∧ L2 7 1 = some (aI dT 6 fs1) ∧ L2 7 2 = some (aI dT 6 fe1) := ⟨k7.2.trans e77, by rw [k7.1]; exact hln71.2⟩
                refine lv_if_ne (tgt := 80) hx hb d_Reader_firstWrongLine_75 (by decide) (fun c17 => ?_) (fun z => absurd z (by decide))
                refine lv_iload hx hb d_Reader_firstWrongLine_80 (lv_at hl 4 rfl) ?_
                refine lv_iconst (v := 1) hx hb d_Reader_firstWrongLine_82 (by decide) ?_
                refine lv_iadd hx hb d_Reader_firstWrongLine_83 ?_
                refine lv_istore_n (lv' := [(3, .int (i4 + 1)), (2, .int (i2 + 1)), (0, .ref (ad0 6 0)), (1, .ref t), (4, .int i4)]) hx hb d_Reader_firstWrongLine_84 rfl hl (by decide) rfl (fun ls hl => ?_)
                refine lv_iinc (v := (i4 + 1)) (lv' := [(4, .int (i4 + 1)), (3, .int (i4 + 1)), (2, .int (i2 + 1)), (0, .ref (ad0 6 0)), (1, .ref t)]) hx hb d_Reader_firstWrongLine_85 hl (k := 4) rfl rfl (by decide) rfl (fun ls hl => ?_)
                refine lv_goto (tgt := 17) hx hb d_Reader_firstWrongLine_88 (by decide) ?_
                exact ih_lp (lnn + 1) (k + 1) (k + 1) _ _ _ _ _ _ pf' cb' ce' cs' c0' ad2 L2 ((((((cu + 0) + 0) + 0) + 0) + 0) + 8) ((((((su + 0) + 0) + 0) + 0) + 0) + (150 + 2 * np + 3 * (k - bg))) (i2 + 1) (i4 + 1) (i4 + 1) ls _ _ _ (by rw [e2]; exact nI_1 lnn) (by rw [e4]; exact nI_1 k) (by rw [e4]; exact nI_1 k) (atP_nl hat hkN) (pAll_step hat hkN hlf hV (pLn_t hwd ok2)) (PI_kd _ hI hat.1 (by omega) rfl (of_decide_eq_true hwd) ok2) (xt.trans x2) hkk2 hR2 hln72 (hX2.lx x2.2) (by have := hat.1; omega) (by omega) h662 (by omega) X (lv_sub hl [3, 4, 2, 1, 0] rfl)
              · subst er
                have hkk2 : ∀ i, kK2 i → L2 i = L0 i ∧ ad2 i = ad0 i := fun i hi => ⟨((kk2 i).1 hi.1).trans (hkk1 i hi).1, ((kk2 i).2 (Or.inl hi.1)).trans (hkk1 i hi).2⟩
                have k7k : kK 7 := by unfold kK; omega
                have k7 := And.intro ((kk2 7).1 k7k) ((kk2 7).2 (Or.inl k7k))
                have h662 : ad2 6 = ad0 6 := ((kk2 6).2 (Or.inr (Or.inr (Or.inr rfl)))).trans h66
                have hln72 : ad2 7 = ad0 7 ∧ ∃ tx1 ci1 fs1 fe1, L2 7 0 = some (.inr (6, [.ref (ad0 7 1), .ref (ad0 7 2), tx1, .int ci1])) ∧ L2 7 1 = some (aI dT 6 fs1) ∧ L2 7 2 = some (aI dT 6 fe1) := ⟨k7.2.trans e77, by rw [k7.1]; exact hln71.2⟩
                refine lv_if_ne (tgt := 80) hx hb d_Reader_firstWrongLine_75 (by decide) (fun z => absurd z (fun q => q rfl)) (fun c18 => ?_)
                refine lv_iload_n hx hb d_Reader_firstWrongLine_78 rfl (lv_at hl 0 rfl) ?_
                exact mq_iret hQ C X hr rfl hlk (⟨ad2, L2, _, _, _, _, _, _, _, _, _, _, _, xt.trans x2, hkk2, hR2, h662, hln72, Or.inl ⟨lnn + 1, pAll_stop hat hkN hlf hV (by have h3 : nF f k bg < nT f k bg := of_decide_eq_true hwd; have h4 := nF_in f hat.1; have h5 := nT_in f hat.1; omega) (pLn_f hwd ok2), by omega, by have := hat.2.2.1; omega, by rw [e2]; exact nI_1 lnn⟩⟩) (by omega) (by omega) d_Reader_firstWrongLine_79
  exact lp (N + 2 - 0 + 1) 0 0 0 0 0 0 0 A0 B0 (fun _ => 0) (fun _ => 0) (fun _ => 0) (fun _ => 0) 0 ad0 (lput L0 6 0 (some (.inr (5, [.ref (ad0 2 0), .ref (ad0 7 0), .null, .null])))) 0 0 0 0 0 ls _ _ _ rfl rfl rfl atP_0 rfl hPI x1 (fun i hi => ⟨lput_k _ _ (fun z => hi.1 (by omega)), rfl⟩) (⟨r0, h20, rfl⟩) (⟨rfl, tx0, ci0, fs0, fe0, h70, h71, h72⟩) (hX.lx x1.2) (Nat.zero_le _) (Nat.zero_le _) rfl (Nat.lt_succ_self _) X (lv_sub hl [3, 4, 2, 1, 0] rfl)
