theorem n_11_7 : vFn GT vcl "MenuScreensLaw" 7 3 [.int 0, .int 0, .null, .null, .null, .null, .int 0, .int 0, .int 0, .int 0, .int 0, .long 0, .long 0] := ⟨R3, T3, ty3, rfl, in3, gt_1 28 (by decide +kernel) rfl, gt_1 29 (by decide +kernel) rfl, gt_1 1 (by decide +kernel) rfl, tyok3, fun j hj => by
  match j, hj with
  | 0, _ => rfl
  | 1, _ => rfl
  | 2, _ => rfl
  | 3, _ => rfl
  | 4, _ => rfl
  | 5, _ => rfl
  | 6, _ => rfl
  | 7, _ => rfl
  | 8, _ => rfl
  | 9, _ => rfl
  | 10, _ => rfl
  | 11, _ => rfl
  | 12, _ => rfl
  | n + 13, h => exact absurd h (by simp)⟩
theorem k_11_9 : vKS GT "MenuScreensLaw" 9 y_MenuScreensLaw_cell method_2_code 2 (some .int) 2 := ⟨gt_5 20 (by decide +kernel) rfl, gt_5 21 (by decide +kernel) rfl, gt_1 0 (by decide +kernel) rfl, gt_5 22 (rfl) rfl, by decide +kernel⟩
theorem k_11_15 : vKI GT "MenuScreensLaw" 15 y_MenuScreens_init prog_1_method_1_code 4 2 := ⟨gt_1 30 (by decide +kernel) rfl, gt_1 31 (by decide +kernel) rfl, gt_1 1 (by decide +kernel) rfl, gt_1 32 (rfl) rfl, rfl, by decide +kernel⟩
theorem n_11_18 : vFn GT vcl "MenuScreensLaw" 18 13 [.int 0, .int 0, .int 0, .int 0, .null, .int 0, .null, .int 0, .int 0, .int 0, .int 0, .long 0, .int 0, .null, .null, .null, .null, .null, .null, .null, .int 0, .null, .null, .null, .null, .null, .null, .null, .int 0, .null, .null, .null, .null, .null, .null, .null, .null, .null, .null, .int 0, .null, .null, .null, .null, .null, .int 0, .int 0, .long 0, .int 0, .null, .int 0, .null, .null, .null, .long 0, .int 0, .long 0, .long 0, .null] := ⟨R13, T13, ty13, rfl, in13, gt_5 23 (by decide +kernel) rfl, gt_5 24 (by decide +kernel) rfl, gt_1 13 (by decide +kernel) rfl, tyok13, fun j hj => by
  match j, hj with
  | 0, _ => rfl
  | 1, _ => rfl
  | 2, _ => rfl
  | 3, _ => rfl
  | 4, _ => rfl
  | 5, _ => rfl
  | 6, _ => rfl
  | 7, _ => rfl
  | 8, _ => rfl
  | 9, _ => rfl
  | 10, _ => rfl
  | 11, _ => rfl
  | 12, _ => rfl
  | 13, _ => rfl
  | 14, _ => rfl
  | 15, _ => rfl
  | 16, _ => rfl
  | 17, _ => rfl
  | 18, _ => rfl
  | 19, _ => rfl
  | 20, _ => rfl
  | 21, _ => rfl
  | 22, _ => rfl
  | 23, _ => rfl
  | 24, _ => rfl
  | 25, _ => rfl
  | 26, _ => rfl
  | 27, _ => rfl
  | 28, _ => rfl
  | 29, _ => rfl
  | 30, _ => rfl
  | 31, _ => rfl
  | 32, _ => rfl
  | 33, _ => rfl
  | 34, _ => rfl
  | 35, _ => rfl
  | 36, _ => rfl
  | 37, _ => rfl
  | 38, _ => rfl
  | 39, _ => rfl
  | 40, _ => rfl
  | 41, _ => rfl
  | 42, _ => rfl
  | 43, _ => rfl
  | 44, _ => rfl
  | 45, _ => rfl
  | 46, _ => rfl
  | 47, _ => rfl
  | 48, _ => rfl
  | 49, _ => rfl
  | 50, _ => rfl
  | 51, _ => rfl
  | 52, _ => rfl
  | 53, _ => rfl
  | 54, _ => rfl
  | 55, _ => rfl
  | 56, _ => rfl
  | 57, _ => rfl
  | 58, _ => rfl
  | n + 59, h => exact absurd h (by simp)⟩
theorem k_11_20 : vKI GT "MenuScreensLaw" 20 y_MenuScreensModel_init prog_13_method_1_code 4 2 := ⟨gt_5 25 (by decide +kernel) rfl, gt_5 26 (by decide +kernel) rfl, gt_1 13 (by decide +kernel) rfl, gt_5 27 (rfl) rfl, rfl, by decide +kernel⟩
theorem k_11_21 : vKV GT "MenuScreensLaw" 21 y_MenuScreens_sign prog_1_method_2_code 4 none 1 := ⟨gt_1 224 (by decide +kernel) rfl, gt_1 225 (by decide +kernel) rfl, gt_1 226 (by decide +kernel) rfl, gt_1 1 (by decide +kernel) rfl, gt_1 227 (rfl) rfl, by decide +kernel⟩
theorem k_11_25 : vKV GT "MenuScreensLaw" 25 y_MenuScreensModel_sign prog_13_method_3_code 4 none 1 := ⟨gt_5 208 (by decide +kernel) rfl, gt_5 209 (by decide +kernel) rfl, gt_5 210 (by decide +kernel) rfl, gt_1 13 (by decide +kernel) rfl, gt_5 211 (rfl) rfl, by decide +kernel⟩
theorem k_11_26 : vKV GT "MenuScreensLaw" 26 y_MenuScreens_read prog_1_method_3_code 4 (some .int) 0 := ⟨gt_2 90 (by decide +kernel) rfl, gt_2 91 (by decide +kernel) rfl, gt_2 92 (by decide +kernel) rfl, gt_1 1 (by decide +kernel) rfl, gt_2 93 (rfl) rfl, by decide +kernel⟩
theorem k_11_30 : vKV GT "MenuScreensLaw" 30 y_MenuScreensModel_read prog_13_method_23_code 2 (some .int) 0 := ⟨gt_5 212 (by decide +kernel) rfl, gt_5 213 (by decide +kernel) rfl, gt_5 214 (by decide +kernel) rfl, gt_1 13 (by decide +kernel) rfl, gt_5 215 (rfl) rfl, by decide +kernel⟩
theorem k_11_33 : vKV GT "MenuScreensLaw" 33 y_MenuScreens_value prog_1_method_4_code 6 (some .int) 3 := ⟨gt_4 108 (by decide +kernel) rfl, gt_4 109 (by decide +kernel) rfl, gt_4 110 (by decide +kernel) rfl, gt_1 1 (by decide +kernel) rfl, gt_4 111 (rfl) rfl, by decide +kernel⟩
theorem k_11_37 : vKV GT "MenuScreensLaw" 37 y_MenuScreensModel_value prog_13_method_24_code 5 (some .int) 3 := ⟨gt_6 59 (by decide +kernel) rfl, gt_6 60 (by decide +kernel) rfl, gt_6 61 (by decide +kernel) rfl, gt_1 13 (by decide +kernel) rfl, gt_6 62 (rfl) rfl, by decide +kernel⟩
theorem k_11_38 : vKV GT "MenuScreensLaw" 38 y_MenuScreens_press prog_1_method_5_code 5 (some .int) 1 := ⟨gt_4 118 (by decide +kernel) rfl, gt_4 119 (by decide +kernel) rfl, gt_4 120 (by decide +kernel) rfl, gt_1 1 (by decide +kernel) rfl, gt_4 121 (rfl) rfl, by decide +kernel⟩
theorem k_11_42 : vKV GT "MenuScreensLaw" 42 y_MenuScreensModel_press prog_13_method_27_code 3 (some .int) 1 := ⟨gt_6 67 (by decide +kernel) rfl, gt_6 68 (by decide +kernel) rfl, gt_6 69 (by decide +kernel) rfl, gt_1 13 (by decide +kernel) rfl, gt_6 70 (rfl) rfl, by decide +kernel⟩
theorem k_11_43 : vKV GT "MenuScreensLaw" 43 y_MenuScreens_shown prog_1_method_6_code 5 (some .int) 2 := ⟨gt_4 128 (by decide +kernel) rfl, gt_4 129 (by decide +kernel) rfl, gt_4 130 (by decide +kernel) rfl, gt_1 1 (by decide +kernel) rfl, gt_4 131 (rfl) rfl, by decide +kernel⟩
theorem k_11_47 : vKV GT "MenuScreensLaw" 47 y_MenuScreensModel_shown prog_13_method_31_code 6 (some .int) 2 := ⟨gt_6 75 (by decide +kernel) rfl, gt_6 76 (by decide +kernel) rfl, gt_6 77 (by decide +kernel) rfl, gt_1 13 (by decide +kernel) rfl, gt_6 78 (rfl) rfl, by decide +kernel⟩
theorem k_11_48 : vKV GT "MenuScreensLaw" 48 y_MenuScreens_warn prog_1_method_7_code 4 (some .int) 2 := ⟨gt_4 182 (by decide +kernel) rfl, gt_4 183 (by decide +kernel) rfl, gt_4 184 (by decide +kernel) rfl, gt_1 1 (by decide +kernel) rfl, gt_4 185 (rfl) rfl, by decide +kernel⟩
theorem k_11_52 : vKV GT "MenuScreensLaw" 52 y_MenuScreensModel_warn prog_13_method_35_code 4 (some .int) 2 := ⟨gt_6 111 (by decide +kernel) rfl, gt_6 112 (by decide +kernel) rfl, gt_6 113 (by decide +kernel) rfl, gt_1 13 (by decide +kernel) rfl, gt_6 114 (rfl) rfl, by decide +kernel⟩
theorem k_11_53 : vKV GT "MenuScreensLaw" 53 y_MenuScreens_warning prog_1_method_8_code 2 (some .int) 1 := ⟨gt_4 194 (by decide +kernel) rfl, gt_4 195 (by decide +kernel) rfl, gt_4 196 (by decide +kernel) rfl, gt_1 1 (by decide +kernel) rfl, gt_4 197 (rfl) rfl, by decide +kernel⟩
theorem k_11_56 : vKV GT "MenuScreensLaw" 56 y_MenuScreensModel_warning prog_13_method_38_code 3 (some .int) 1 := ⟨gt_6 115 (by decide +kernel) rfl, gt_6 116 (by decide +kernel) rfl, gt_6 117 (by decide +kernel) rfl, gt_1 13 (by decide +kernel) rfl, gt_6 118 (rfl) rfl, by decide +kernel⟩
theorem k_11_57 : vKV GT "MenuScreensLaw" 57 y_MenuScreens_accept prog_1_method_9_code 2 (some .int) 1 := ⟨gt_4 202 (by decide +kernel) rfl, gt_4 203 (by decide +kernel) rfl, gt_4 204 (by decide +kernel) rfl, gt_1 1 (by decide +kernel) rfl, gt_4 205 (rfl) rfl, by decide +kernel⟩
theorem k_11_60 : vKV GT "MenuScreensLaw" 60 y_MenuScreensModel_accept prog_13_method_39_code 4 (some .int) 1 := ⟨gt_6 119 (by decide +kernel) rfl, gt_6 120 (by decide +kernel) rfl, gt_6 121 (by decide +kernel) rfl, gt_1 13 (by decide +kernel) rfl, gt_6 122 (rfl) rfl, by decide +kernel⟩
theorem k_11_61 : vKV GT "MenuScreensLaw" 61 y_MenuScreens_trip prog_1_method_10_code 5 (some .int) 2 := ⟨gt_4 215 (by decide +kernel) rfl, gt_4 216 (by decide +kernel) rfl, gt_4 217 (by decide +kernel) rfl, gt_1 1 (by decide +kernel) rfl, gt_4 218 (rfl) rfl, by decide +kernel⟩
theorem k_11_65 : vKV GT "MenuScreensLaw" 65 y_MenuScreensModel_trip prog_13_method_40_code 5 (some .int) 2 := ⟨gt_6 124 (by decide +kernel) rfl, gt_6 125 (by decide +kernel) rfl, gt_6 126 (by decide +kernel) rfl, gt_1 13 (by decide +kernel) rfl, gt_6 127 (rfl) rfl, by decide +kernel⟩
theorem k_11_66 : vKV GT "MenuScreensLaw" 66 y_MenuScreens_sum prog_1_method_11_code 7 (some .long) 2 := ⟨gt_4 220 (by decide +kernel) rfl, gt_4 221 (by decide +kernel) rfl, gt_4 222 (by decide +kernel) rfl, gt_1 1 (by decide +kernel) rfl, gt_4 223 (rfl) rfl, by decide +kernel⟩
theorem k_11_70 : vKV GT "MenuScreensLaw" 70 y_MenuScreensModel_sum prog_13_method_41_code 9 (some .long) 2 := ⟨gt_6 129 (by decide +kernel) rfl, gt_6 130 (by decide +kernel) rfl, gt_6 131 (by decide +kernel) rfl, gt_1 13 (by decide +kernel) rfl, gt_6 132 (rfl) rfl, by decide +kernel⟩
theorem k_11_71 : vKV GT "MenuScreensLaw" 71 y_MenuScreens_speed prog_1_method_12_code 4 (some .int) 1 := ⟨gt_4 229 (by decide +kernel) rfl, gt_4 230 (by decide +kernel) rfl, gt_4 231 (by decide +kernel) rfl, gt_1 1 (by decide +kernel) rfl, gt_4 232 (rfl) rfl, by decide +kernel⟩
theorem k_11_75 : vKV GT "MenuScreensLaw" 75 y_MenuScreensModel_speed prog_13_method_32_code 3 (some .int) 1 := ⟨gt_6 99 (by decide +kernel) rfl, gt_6 100 (by decide +kernel) rfl, gt_6 101 (by decide +kernel) rfl, gt_1 13 (by decide +kernel) rfl, gt_6 102 (rfl) rfl, by decide +kernel⟩
theorem k_11_76 : vKV GT "MenuScreensLaw" 76 y_MenuScreens_language prog_1_method_13_code 3 (some .int) 1 := ⟨gt_4 234 (by decide +kernel) rfl, gt_4 235 (by decide +kernel) rfl, gt_4 236 (by decide +kernel) rfl, gt_1 1 (by decide +kernel) rfl, gt_4 237 (rfl) rfl, by decide +kernel⟩
theorem k_11_79 : vKV GT "MenuScreensLaw" 79 y_MenuScreensModel_language prog_13_method_33_code 3 (some .int) 1 := ⟨gt_6 103 (by decide +kernel) rfl, gt_6 104 (by decide +kernel) rfl, gt_6 105 (by decide +kernel) rfl, gt_1 13 (by decide +kernel) rfl, gt_6 106 (rfl) rfl, by decide +kernel⟩
theorem k_11_80 : vKV GT "MenuScreensLaw" 80 y_MenuScreens_ring prog_1_method_14_code 2 (some .int) 1 := ⟨gt_4 238 (by decide +kernel) rfl, gt_4 239 (by decide +kernel) rfl, gt_5 0 (by decide +kernel) rfl, gt_1 1 (by decide +kernel) rfl, gt_5 1 (rfl) rfl, by decide +kernel⟩
theorem k_11_83 : vKV GT "MenuScreensLaw" 83 y_MenuScreensModel_ring prog_13_method_34_code 2 (some .int) 1 := ⟨gt_6 107 (by decide +kernel) rfl, gt_6 108 (by decide +kernel) rfl, gt_6 109 (by decide +kernel) rfl, gt_1 13 (by decide +kernel) rfl, gt_6 110 (rfl) rfl, by decide +kernel⟩
theorem k_11_84 : vKV GT "MenuScreensLaw" 84 y_MenuScreens_setting prog_1_method_15_code 5 (some .int) 2 := ⟨gt_5 6 (by decide +kernel) rfl, gt_5 7 (by decide +kernel) rfl, gt_5 8 (by decide +kernel) rfl, gt_1 1 (by decide +kernel) rfl, gt_5 9 (rfl) rfl, by decide +kernel⟩
theorem k_11_87 : vKV GT "MenuScreensLaw" 87 y_MenuScreensModel_setting prog_13_method_25_code 4 (some .int) 2 := ⟨gt_6 63 (by decide +kernel) rfl, gt_6 64 (by decide +kernel) rfl, gt_6 65 (by decide +kernel) rfl, gt_1 13 (by decide +kernel) rfl, gt_6 66 (rfl) rfl, by decide +kernel⟩
theorem k_11_88 : vKV GT "MenuScreensLaw" 88 y_MenuScreens_lamp prog_1_method_16_code 4 (some .int) 2 := ⟨gt_5 10 (by decide +kernel) rfl, gt_5 11 (by decide +kernel) rfl, gt_5 12 (by decide +kernel) rfl, gt_1 1 (by decide +kernel) rfl, gt_5 13 (rfl) rfl, by decide +kernel⟩
theorem k_11_92 : vKV GT "MenuScreensLaw" 92 y_MenuScreensModel_lamp prog_13_method_42_code 5 (some .int) 2 := ⟨gt_6 134 (by decide +kernel) rfl, gt_6 135 (by decide +kernel) rfl, gt_6 136 (by decide +kernel) rfl, gt_1 13 (by decide +kernel) rfl, gt_6 137 (rfl) rfl, by decide +kernel⟩
theorem d_MenuScreensLaw_cell_0 : decode method_2_code 0 = .ok (.iload_n 1, 1) := by decide +kernel
theorem d_MenuScreensLaw_cell_1 : decode method_2_code 1 = .ok (.aload_n 0, 1) := by decide +kernel
theorem d_MenuScreensLaw_cell_2 : decode method_2_code 2 = .ok (.arraylength, 1) := by decide +kernel
theorem d_MenuScreensLaw_cell_3 : decode method_2_code 3 = .ok (.if_icmp .ge 9, 3) := by decide +kernel
theorem d_MenuScreensLaw_cell_6 : decode method_2_code 6 = .ok (.aload_n 0, 1) := by decide +kernel
theorem d_MenuScreensLaw_cell_7 : decode method_2_code 7 = .ok (.iload_n 1, 1) := by decide +kernel
theorem d_MenuScreensLaw_cell_8 : decode method_2_code 8 = .ok (.iaload, 1) := by decide +kernel
theorem d_MenuScreensLaw_cell_9 : decode method_2_code 9 = .ok (.goto 4, 3) := by decide +kernel
theorem d_MenuScreensLaw_cell_12 : decode method_2_code 12 = .ok (.iconst 0, 1) := by decide +kernel
theorem d_MenuScreensLaw_cell_13 : decode method_2_code 13 = .ok (.ireturn, 1) := by decide +kernel
set_option maxRecDepth 100000 in
set_option maxHeartbeats 4000000 in
theorem cm_MenuScreensLaw_cell {l : Launch} {S0 : State} {b : Nat} {D : va_G} {dT : Nat → ClassId} (hE : vEnv S0 b D dT) {h0 : vH} {a n j : Nat} {xs : Nat → Int32} (hj : j < 2 ^ 30) (hn : n < 2 ^ 30) (ka : h0 a = some (.inl (dT 0, n, .inl xs))) : vMi l S0 D vcl GT y_MenuScreensLaw_cell method_2_code 2 (some .int) 0 0 0 0 [.ref a, .int (nI j)] h0 (fun r h' => h' = h0 ∧ r = if j < n then xs j else 0) := by
  unfold vMi
  refine vM_ofQ hE.1 (by decide) (Nat.le_of_ble_eq_true rfl) (fun p e s m args below meth c ls Q hQ C hr hlk hnm X hl => ?_)
  have C : vC p s m _ c _ _ "MenuScreensLaw" GT D vcl (vty dT) := C
  have hx := C.1.1
  have hb := C.1.2.1
  obtain ⟨H, eH⟩ : ∃ z, z = s.heap := ⟨_, rfl⟩
  obtain ⟨locs, elocs⟩ : ∃ z : List Loc, z = [] := ⟨_, rfl⟩
  rw [← eH, ← elocs] at X
  rw [← eH, ← elocs]
  clear eH elocs
  have hl : lv_has ls 2 [(0, .ref a), (1, .int (nI j))] := hl
  refine lv_iload_n hx hb d_MenuScreensLaw_cell_0 rfl (lv_at hl 1 rfl) ?_
  refine lv_aload_n hx hb d_MenuScreensLaw_cell_1 rfl (lv_at hl 0 rfl) ?_
  refine mv_alen C X ka 0 rfl d_MenuScreensLaw_cell_2 ?_
  refine lv_icmp_ge (tgt := 12) hx hb d_MenuScreensLaw_cell_3 (by decide) (fun c1 => ?_) (fun c1 => ?_)
  · skip
    refine lv_iconst (v := 0) hx hb d_MenuScreensLaw_cell_12 (by decide) ?_
    exact mq_iret hQ C X hr rfl hlk (⟨rfl, (if_neg (fun z => absurd ((nI_leI (by omega) (by omega)).mp c1) (by omega))).symm⟩) (by omega) (by omega) d_MenuScreensLaw_cell_13
  · skip
    have hj2 : j < n := by
      rcases Nat.lt_or_ge j n with q | q
      · exact q
      · exact absurd ((nI_leI (by omega) (by omega)).mpr q) c1
    refine lv_aload_n hx hb d_MenuScreensLaw_cell_6 rfl (lv_at hl 0 rfl) ?_
    refine lv_iload_n hx hb d_MenuScreensLaw_cell_7 rfl (lv_at hl 1 rfl) ?_
    refine mv_iald C X ka 0 rfl j rfl hj2 (by omega) d_MenuScreensLaw_cell_8 ?_
    refine lv_goto (tgt := 13) hx hb d_MenuScreensLaw_cell_9 (by decide) ?_
    exact mq_iret hQ C X hr rfl hlk (⟨rfl, (if_pos hj2).symm⟩) (by omega) (by omega) d_MenuScreensLaw_cell_13
