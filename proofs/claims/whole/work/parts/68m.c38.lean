set_option maxRecDepth 100000 in
set_option maxHeartbeats 4000000 in
theorem whole_start {p : Program} {e : Env} {s : State} {m : MethodId} {below : List Frame} {meth : Method} {c : Code} (l : Launch) {b L : Nat} {xs : Nat → Int32} (hL : L ≤ 2562) (C0 : lw_At p s m meth c b L xs) : W p l e room_1 s m #[Value.ref b] below meth c s.heap [] 0 0 (lw_Z below #[Value.ref b] s) (entryFrame m ([Value.ref b] : List Value).toArray 4) := by
  obtain ⟨hx, hb, hr, hml, hown, hts, hX, hbl, hlk, hgv⟩ := C0
  have hs := flat_of_before _ hgv
  have htg : ∀ w ∈ GT, w.before #[Value.ref b] s = true := fun w h => hts w (List.mem_filter.mp h).1
  obtain ⟨dE, mO, hJ, hTE⟩ := st_J hts hs
  obtain ⟨D, dT, hK⟩ := st_K htg hJ.2.2.2.2.2.2.1
  have hE : vEnv s b D dT := ⟨hK, hts, hgv⟩
  obtain ⟨k0, v0, e0, s0⟩ := st_l0 hs
  obtain ⟨k1, v1, e1, s1⟩ := st_l1 hs
  obtain ⟨k2, v2, e2, s2⟩ := st_l2 hs
  obtain ⟨k3, v3, e3, s3⟩ := st_l3 hs
  obtain ⟨k4, v4, e4, s4⟩ := st_l4 hs
  obtain ⟨k5, v5, e5, s5⟩ := st_l5 hs
  obtain ⟨k6, v6, e6, s6⟩ := st_l6 hs
  obtain ⟨k7, v7, e7, s7⟩ := st_l7 hs
  obtain ⟨k8, v8, e8, s8⟩ := st_l8 hs
  obtain ⟨k9, v9, e9, s9⟩ := st_l9 hs
  obtain ⟨k10, v10, e10, s10⟩ := st_l10 hs
  obtain ⟨k11, v11, e11, s11⟩ := st_l11 hs
  obtain ⟨k12, v12, e12, s12⟩ := st_l12 hs
  obtain ⟨k13, v13, e13, s13⟩ := st_l13 hs
  obtain ⟨hcv, z2, z3, ha, hsc, hcE, hcK, hcV⟩ := st_view (adK := fun i => ([k0, k1, k2, k3, k4, k5, k6, k7, k8, k9, k10, k11, k12, k13] : List Nat).getD i 0) (adV := fun i => ([v0, v1, v2, v3, v4, v5, v6, v7, v8, v9, v10, v11, v12, v13] : List Nat).getD i 0) (tm := fun i => ([Term.string "MenuScreens$Line" 18, Term.string "MenuScreens$Reader" 170, Term.string "MenuScreens$Reader" 189, Term.string "MenuScreens$Reader" 191, Term.string "MenuScreens$Reader" 193, Term.string "MenuScreens$Reader" 58, Term.string "MenuScreens$Reader" 68, Term.string "MenuScreens$Reader" 73, Term.string "MenuScreens$Reader" 81, Term.string "MenuScreens$Reader" 87, Term.string "MenuScreens$Reader" 92, Term.string "MenuScreens$Reader" 97, Term.string "MenuScreens$Reader" 102, Term.string "MenuScreens$Reader" 107] : List Term).getD i (.int 0)) hK htg hX hbl (by omega) hTE (fun i hi => match i, hi with | 0, _ => st_x0 hs | 1, _ => st_x1 hs | 2, _ => st_x2 hs | 3, _ => st_x3 hs | 4, _ => st_x4 hs | 5, _ => st_x5 hs | 6, _ => st_x6 hs | 7, _ => st_x7 hs | 8, _ => st_x8 hs | 9, _ => st_x9 hs | 10, _ => st_x10 hs | 11, _ => st_x11 hs | 12, _ => st_x12 hs | 13, _ => st_x13 hs | n + 14, h => absurd h (by omega)) (fun i hi => match i, hi with | 0, _ => s0 | 1, _ => s1 | 2, _ => s2 | 3, _ => s3 | 4, _ => s4 | 5, _ => s5 | 6, _ => s6 | 7, _ => s7 | 8, _ => s8 | 9, _ => s9 | 10, _ => s10 | 11, _ => s11 | 12, _ => s12 | 13, _ => s13 | n + 14, h => absurd h (by omega)) (fun i hi => match i, hi with | 0, _ => e0 | 1, _ => e1 | 2, _ => e2 | 3, _ => e3 | 4, _ => e4 | 5, _ => e5 | 6, _ => e6 | 7, _ => e7 | 8, _ => e8 | 9, _ => e9 | 10, _ => e10 | 11, _ => e11 | 12, _ => e12 | 13, _ => e13 | n + 14, h => absurd h (by omega))
  have g0 : hcv k0 = some (.inr (0, [.ref v0, .int 0, z2 0, z3 0])) := hcK 0 (by decide)
  have r0 : hcv v0 = some (.inl (dT 2, 0, .inl (lzF 0))) := hcV 0 (by decide)
  have g1 : hcv k1 = some (.inr (0, [.ref v1, .int 0, z2 1, z3 1])) := hcK 1 (by decide)
  have r1 : hcv v1 = some (.inl (dT 2, 1, .inl (lzF 1))) := hcV 1 (by decide)
  have g2 : hcv k2 = some (.inr (0, [.ref v2, .int 0, z2 2, z3 2])) := hcK 2 (by decide)
  have r2 : hcv v2 = some (.inl (dT 2, 1, .inl (lzF 2))) := hcV 2 (by decide)
  have g3 : hcv k3 = some (.inr (0, [.ref v3, .int 0, z2 3, z3 3])) := hcK 3 (by decide)
  have r3 : hcv v3 = some (.inl (dT 2, 1, .inl (lzF 3))) := hcV 3 (by decide)
  have g4 : hcv k4 = some (.inr (0, [.ref v4, .int 0, z2 4, z3 4])) := hcK 4 (by decide)
  have r4 : hcv v4 = some (.inl (dT 2, 1, .inl (lzF 4))) := hcV 4 (by decide)
  have g5 : hcv k5 = some (.inr (0, [.ref v5, .int 0, z2 5, z3 5])) := hcK 5 (by decide)
  have r5 : hcv v5 = some (.inl (dT 2, (ltW 0).1, .inl (ltW 0).2)) := hcV 5 (by decide)
  have g6 : hcv k6 = some (.inr (0, [.ref v6, .int 0, z2 6, z3 6])) := hcK 6 (by decide)
  have r6 : hcv v6 = some (.inl (dT 2, (ltW 1).1, .inl (ltW 1).2)) := hcV 6 (by decide)
  have g7 : hcv k7 = some (.inr (0, [.ref v7, .int 0, z2 7, z3 7])) := hcK 7 (by decide)
  have r7 : hcv v7 = some (.inl (dT 2, (ltW 2).1, .inl (ltW 2).2)) := hcV 7 (by decide)
  have g8 : hcv k8 = some (.inr (0, [.ref v8, .int 0, z2 8, z3 8])) := hcK 8 (by decide)
  have r8 : hcv v8 = some (.inl (dT 2, (ltW 3).1, .inl (ltW 3).2)) := hcV 8 (by decide)
  have g9 : hcv k9 = some (.inr (0, [.ref v9, .int 0, z2 9, z3 9])) := hcK 9 (by decide)
  have r9 : hcv v9 = some (.inl (dT 2, (ltW 4).1, .inl (ltW 4).2)) := hcV 9 (by decide)
  have g10 : hcv k10 = some (.inr (0, [.ref v10, .int 0, z2 10, z3 10])) := hcK 10 (by decide)
  have r10 : hcv v10 = some (.inl (dT 2, (ltW 5).1, .inl (ltW 5).2)) := hcV 10 (by decide)
  have g11 : hcv k11 = some (.inr (0, [.ref v11, .int 0, z2 11, z3 11])) := hcK 11 (by decide)
  have r11 : hcv v11 = some (.inl (dT 2, (ltW 6).1, .inl (ltW 6).2)) := hcV 11 (by decide)
  have g12 : hcv k12 = some (.inr (0, [.ref v12, .int 0, z2 12, z3 12])) := hcK 12 (by decide)
  have r12 : hcv v12 = some (.inl (dT 2, (ltW 7).1, .inl (ltW 7).2)) := hcV 12 (by decide)
  have g13 : hcv k13 = some (.inr (0, [.ref v13, .int 0, z2 13, z3 13])) := hcK 13 (by decide)
  have r13 : hcv v13 = some (.inl (dT 2, (ltW 8).1, .inl (ltW 8).2)) := hcV 13 (by decide)
  have C : vC p s m #[Value.ref b] c code 4 "MenuScreensLaw" GT D vcl (vty dT) := ⟨⟨hx, hb, hml, hown, htg⟩, hK⟩
  have hl := lv_entry ([.ref b]) (n := 4) (Nat.le_of_ble_eq_true rfl)
  rw [lg_entry_eq]
  generalize (lg_sl ([.ref b]) ++ List.replicate (4 - (lg_sl ([.ref b])).length) Slot.unset).toArray = ls at hl ⊢
  have hl : lv_has ls 4 [(0, .ref b)] := hl
  exact law_in hE hJ ⟨_, hcE⟩ C hsc hL hr hlk (vk_R.of (tx := "") (hts _ (List.mem_append_right _ (List.mem_append_left _ (List.mem_of_getElem? (i := 130) (by decide +kernel : tables_1_1[130]? = some _))))) e0) g0 r0 (vk_R.of (tx := "-") (hts _ (List.mem_append_right _ (List.mem_append_right _ (List.mem_append_right _ (List.mem_append_right _ (List.mem_append_left _ (List.mem_of_getElem? (i := 13) (by decide +kernel : tables_1_4[13]? = some _)))))))) e1) g1 r1 rfl (vk_R.of (tx := "=") (hts _ (List.mem_append_right _ (List.mem_append_right _ (List.mem_append_right _ (List.mem_append_right _ (List.mem_append_left _ (List.mem_of_getElem? (i := 40) (by decide +kernel : tables_1_4[40]? = some _)))))))) e2) g2 r2 rfl (vk_R.of (tx := "<") (hts _ (List.mem_append_right _ (List.mem_append_right _ (List.mem_append_right _ (List.mem_append_right _ (List.mem_append_left _ (List.mem_of_getElem? (i := 41) (by decide +kernel : tables_1_4[41]? = some _)))))))) e3) g3 r3 rfl (vk_R.of (tx := ">") (hts _ (List.mem_append_right _ (List.mem_append_right _ (List.mem_append_right _ (List.mem_append_right _ (List.mem_append_left _ (List.mem_of_getElem? (i := 42) (by decide +kernel : tables_1_4[42]? = some _)))))))) e4) g4 r4 rfl (vk_R.of (tx := "name") (hts _ (List.mem_append_right _ (List.mem_append_right _ (List.mem_append_right _ (List.mem_append_left _ (List.mem_of_getElem? (i := 18) (by decide +kernel : tables_1_3[18]? = some _))))))) e5) g5 r5 (vk_R.of (tx := "setting") (hts _ (List.mem_append_right _ (List.mem_append_right _ (List.mem_append_right _ (List.mem_append_left _ (List.mem_of_getElem? (i := 145) (by decide +kernel : tables_1_3[145]? = some _))))))) e6) g6 r6 (vk_R.of (tx := "screen") (hts _ (List.mem_append_right _ (List.mem_append_right _ (List.mem_append_right _ (List.mem_append_left _ (List.mem_of_getElem? (i := 159) (by decide +kernel : tables_1_3[159]? = some _))))))) e7) g7 r7 (vk_R.of (tx := "put") (hts _ (List.mem_append_right _ (List.mem_append_right _ (List.mem_append_right _ (List.mem_append_left _ (List.mem_of_getElem? (i := 210) (by decide +kernel : tables_1_3[210]? = some _))))))) e8) g8 r8 (vk_R.of (tx := "say") (hts _ (List.mem_append_right _ (List.mem_append_right _ (List.mem_append_right _ (List.mem_append_right _ (List.mem_append_left _ (List.mem_of_getElem? (i := 8) (by decide +kernel : tables_1_4[8]? = some _)))))))) e9) g9 r9 (vk_R.of (tx := "show") (hts _ (List.mem_append_right _ (List.mem_append_right _ (List.mem_append_right _ (List.mem_append_right _ (List.mem_append_left _ (List.mem_of_getElem? (i := 14) (by decide +kernel : tables_1_4[14]? = some _)))))))) e10) g10 r10 (vk_R.of (tx := "if") (hts _ (List.mem_append_right _ (List.mem_append_right _ (List.mem_append_right _ (List.mem_append_right _ (List.mem_append_left _ (List.mem_of_getElem? (i := 35) (by decide +kernel : tables_1_4[35]? = some _)))))))) e11) g11 r11 (vk_R.of (tx := "key") (hts _ (List.mem_append_right _ (List.mem_append_right _ (List.mem_append_right _ (List.mem_append_right _ (List.mem_append_left _ (List.mem_of_getElem? (i := 63) (by decide +kernel : tables_1_4[63]? = some _)))))))) e12) g12 r12 (vk_R.of (tx := "bar") (hts _ (List.mem_append_right _ (List.mem_append_right _ (List.mem_append_right _ (List.mem_append_right _ (List.mem_append_left _ (List.mem_of_getElem? (i := 68) (by decide +kernel : tables_1_4[68]? = some _)))))))) e13) g13 r13 (fun a e q => (ha a e q).1) (st_vO ha) hl
