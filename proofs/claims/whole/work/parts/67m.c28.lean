theorem d_Integer_bitCount_0 : decode prog_17_method_49_code 0 = .ok (.iload_n 0, 1) := by decide +kernel
theorem d_Integer_bitCount_1 : decode prog_17_method_49_code 1 = .ok (.iload_n 0, 1) := by decide +kernel
theorem d_Integer_bitCount_2 : decode prog_17_method_49_code 2 = .ok (.iconst 1, 1) := by decide +kernel
theorem d_Integer_bitCount_3 : decode prog_17_method_49_code 3 = .ok (.iushr, 1) := by decide +kernel
theorem d_Integer_bitCount_4 : decode prog_17_method_49_code 4 = .ok (.ldc_w 265, 3) := by decide +kernel
theorem d_Integer_bitCount_7 : decode prog_17_method_49_code 7 = .ok (.iand, 1) := by decide +kernel
theorem d_Integer_bitCount_8 : decode prog_17_method_49_code 8 = .ok (.isub, 1) := by decide +kernel
theorem d_Integer_bitCount_9 : decode prog_17_method_49_code 9 = .ok (.istore_n 0, 1) := by decide +kernel
theorem d_Integer_bitCount_10 : decode prog_17_method_49_code 10 = .ok (.iload_n 0, 1) := by decide +kernel
theorem d_Integer_bitCount_11 : decode prog_17_method_49_code 11 = .ok (.ldc_w 266, 3) := by decide +kernel
theorem d_Integer_bitCount_14 : decode prog_17_method_49_code 14 = .ok (.iand, 1) := by decide +kernel
theorem d_Integer_bitCount_15 : decode prog_17_method_49_code 15 = .ok (.iload_n 0, 1) := by decide +kernel
theorem d_Integer_bitCount_16 : decode prog_17_method_49_code 16 = .ok (.iconst 2, 1) := by decide +kernel
theorem d_Integer_bitCount_17 : decode prog_17_method_49_code 17 = .ok (.iushr, 1) := by decide +kernel
theorem d_Integer_bitCount_18 : decode prog_17_method_49_code 18 = .ok (.ldc_w 266, 3) := by decide +kernel
theorem d_Integer_bitCount_21 : decode prog_17_method_49_code 21 = .ok (.iand, 1) := by decide +kernel
theorem d_Integer_bitCount_22 : decode prog_17_method_49_code 22 = .ok (.iadd, 1) := by decide +kernel
theorem d_Integer_bitCount_23 : decode prog_17_method_49_code 23 = .ok (.istore_n 0, 1) := by decide +kernel
theorem d_Integer_bitCount_24 : decode prog_17_method_49_code 24 = .ok (.iload_n 0, 1) := by decide +kernel
theorem d_Integer_bitCount_25 : decode prog_17_method_49_code 25 = .ok (.iload_n 0, 1) := by decide +kernel
theorem d_Integer_bitCount_26 : decode prog_17_method_49_code 26 = .ok (.iconst 4, 1) := by decide +kernel
theorem d_Integer_bitCount_27 : decode prog_17_method_49_code 27 = .ok (.iushr, 1) := by decide +kernel
theorem d_Integer_bitCount_28 : decode prog_17_method_49_code 28 = .ok (.iadd, 1) := by decide +kernel
theorem d_Integer_bitCount_29 : decode prog_17_method_49_code 29 = .ok (.ldc_w 267, 3) := by decide +kernel
theorem d_Integer_bitCount_32 : decode prog_17_method_49_code 32 = .ok (.iand, 1) := by decide +kernel
theorem d_Integer_bitCount_33 : decode prog_17_method_49_code 33 = .ok (.istore_n 0, 1) := by decide +kernel
theorem d_Integer_bitCount_34 : decode prog_17_method_49_code 34 = .ok (.iload_n 0, 1) := by decide +kernel
theorem d_Integer_bitCount_35 : decode prog_17_method_49_code 35 = .ok (.iload_n 0, 1) := by decide +kernel
theorem d_Integer_bitCount_36 : decode prog_17_method_49_code 36 = .ok (.bipush 8, 2) := by decide +kernel
theorem d_Integer_bitCount_38 : decode prog_17_method_49_code 38 = .ok (.iushr, 1) := by decide +kernel
theorem d_Integer_bitCount_39 : decode prog_17_method_49_code 39 = .ok (.iadd, 1) := by decide +kernel
theorem d_Integer_bitCount_40 : decode prog_17_method_49_code 40 = .ok (.istore_n 0, 1) := by decide +kernel
theorem d_Integer_bitCount_41 : decode prog_17_method_49_code 41 = .ok (.iload_n 0, 1) := by decide +kernel
theorem d_Integer_bitCount_42 : decode prog_17_method_49_code 42 = .ok (.iload_n 0, 1) := by decide +kernel
theorem d_Integer_bitCount_43 : decode prog_17_method_49_code 43 = .ok (.bipush 16, 2) := by decide +kernel
theorem d_Integer_bitCount_45 : decode prog_17_method_49_code 45 = .ok (.iushr, 1) := by decide +kernel
theorem d_Integer_bitCount_46 : decode prog_17_method_49_code 46 = .ok (.iadd, 1) := by decide +kernel
theorem d_Integer_bitCount_47 : decode prog_17_method_49_code 47 = .ok (.istore_n 0, 1) := by decide +kernel
theorem d_Integer_bitCount_48 : decode prog_17_method_49_code 48 = .ok (.iload_n 0, 1) := by decide +kernel
theorem d_Integer_bitCount_49 : decode prog_17_method_49_code 49 = .ok (.bipush 63, 2) := by decide +kernel
theorem d_Integer_bitCount_51 : decode prog_17_method_49_code 51 = .ok (.iand, 1) := by decide +kernel
theorem d_Integer_bitCount_52 : decode prog_17_method_49_code 52 = .ok (.ireturn, 1) := by decide +kernel
set_option maxRecDepth 100000 in
set_option maxHeartbeats 4000000 in
theorem cm_Integer_bitCount {l : Launch} {S0 : State} {b : Nat} {D : va_G} {dT : Nat → ClassId} (hE : vEnv S0 b D dT) {h0 : vH} {mm : Nat} (hm : mm < 65536) : vMi l S0 D vcl GT y_Integer_bitCount prog_17_method_49_code 1 (some .int) 0 0 0 0 [.int (nI mm)] h0 (fun r h' => h' = h0 ∧ r = nI (bcN mm)) := by
  unfold vMi
  refine vM_ofQ hE.1 (by decide) (Nat.le_of_ble_eq_true rfl) (fun p e s m args below meth c ls Q hQ C hr hlk hnm X hl => ?_)
  have C : vC p s m _ c _ _ "java/lang/Integer" GT D vcl (vty dT) := C
  have hx := C.1.1
  have hb := C.1.2.1
  obtain ⟨H, eH⟩ : ∃ z, z = s.heap := ⟨_, rfl⟩
  obtain ⟨locs, elocs⟩ : ∃ z : List Loc, z = [] := ⟨_, rfl⟩
  rw [← eH, ← elocs] at X
  rw [← eH, ← elocs]
  clear eH elocs
  have hl : lv_has ls 1 [(0, .int (nI mm))] := hl
  refine lv_iload_n hx hb d_Integer_bitCount_0 rfl (lv_at hl 0 rfl) ?_
  refine lv_iload_n hx hb d_Integer_bitCount_1 rfl (lv_at hl 0 rfl) ?_
  refine lv_iconst (v := 1) hx hb d_Integer_bitCount_2 (by decide) ?_
  refine lv_iushr (v := ((nI mm).toUInt32 >>> ((1 : Int32).toUInt32 &&& Int32.toUInt32 31)).toInt32) hx hb d_Integer_bitCount_3 rfl ?_
  refine lv_ldcw (v := 1431655765) hx hb C.1.2.2.2.1 (C.1.2.2.2.2 _ (gt_5 17 (by decide +kernel) rfl)) d_Integer_bitCount_4 ?_
  refine lv_iand hx hb d_Integer_bitCount_7 ?_
  refine lv_isub hx hb d_Integer_bitCount_8 ?_
  obtain ⟨i1, ei1⟩ : ∃ z, z = mm - ((mm >>> 1) &&& 1431655765) := ⟨_, rfl⟩
  have Ei1 : ((nI mm) - ((((nI mm).toUInt32 >>> ((1 : Int32).toUInt32 &&& Int32.toUInt32 31)).toInt32) &&& 1431655765)) = nI i1 := by
    show nI mm - (((nI mm).toUInt32 >>> ((nI 1).toUInt32 &&& Int32.toUInt32 31)).toInt32 &&& nI 1431655765) = _
    rw [sh_n (by omega) (by decide), nI_and, nI_sub (Nat.le_trans Nat.and_le_left (Nat.shiftRight_le _ _)), ei1]
  rw [Ei1]
  have hi1 : i1 < 65536 := by omega
  refine lv_istore_n (lv' := [(0, .int (nI i1))]) hx hb d_Integer_bitCount_9 rfl hl (by decide) rfl (fun ls hl => ?_)
  refine lv_iload_n hx hb d_Integer_bitCount_10 rfl (lv_at hl 0 rfl) ?_
  refine lv_ldcw (v := 858993459) hx hb C.1.2.2.2.1 (C.1.2.2.2.2 _ (gt_5 18 (by decide +kernel) rfl)) d_Integer_bitCount_11 ?_
  refine lv_iand hx hb d_Integer_bitCount_14 ?_
  refine lv_iload_n hx hb d_Integer_bitCount_15 rfl (lv_at hl 0 rfl) ?_
  refine lv_iconst (v := 2) hx hb d_Integer_bitCount_16 (by decide) ?_
  refine lv_iushr (v := ((nI i1).toUInt32 >>> ((2 : Int32).toUInt32 &&& Int32.toUInt32 31)).toInt32) hx hb d_Integer_bitCount_17 rfl ?_
  refine lv_ldcw (v := 858993459) hx hb C.1.2.2.2.1 (C.1.2.2.2.2 _ (gt_5 18 (by decide +kernel) rfl)) d_Integer_bitCount_18 ?_
  refine lv_iand hx hb d_Integer_bitCount_21 ?_
  refine lv_iadd hx hb d_Integer_bitCount_22 ?_
  obtain ⟨i2, ei2⟩ : ∃ z, z = (i1 &&& 858993459) + ((i1 >>> 2) &&& 858993459) := ⟨_, rfl⟩
  have Ei2 : (((nI i1) &&& 858993459) + ((((nI i1).toUInt32 >>> ((2 : Int32).toUInt32 &&& Int32.toUInt32 31)).toInt32) &&& 858993459)) = nI i2 := by
    show (nI i1 &&& nI 858993459) + (((nI i1).toUInt32 >>> ((nI 2).toUInt32 &&& Int32.toUInt32 31)).toInt32 &&& nI 858993459) = _
    rw [sh_n (by omega) (by decide), nI_and, nI_and, nI_add, ei2]
  rw [Ei2]
  have hi2 : i2 < 131072 := by
    have a1 : i1 &&& 858993459 ≤ i1 := Nat.and_le_left
    have a2 : (i1 >>> 2) &&& 858993459 ≤ i1 := Nat.le_trans Nat.and_le_left (Nat.shiftRight_le _ _)
    omega
  refine lv_istore_n (lv' := [(0, .int (nI i2))]) hx hb d_Integer_bitCount_23 rfl hl (by decide) rfl (fun ls hl => ?_)
  refine lv_iload_n hx hb d_Integer_bitCount_24 rfl (lv_at hl 0 rfl) ?_
  refine lv_iload_n hx hb d_Integer_bitCount_25 rfl (lv_at hl 0 rfl) ?_
  refine lv_iconst (v := 4) hx hb d_Integer_bitCount_26 (by decide) ?_
  refine lv_iushr (v := ((nI i2).toUInt32 >>> ((4 : Int32).toUInt32 &&& Int32.toUInt32 31)).toInt32) hx hb d_Integer_bitCount_27 rfl ?_
  refine lv_iadd hx hb d_Integer_bitCount_28 ?_
  refine lv_ldcw (v := 252645135) hx hb C.1.2.2.2.1 (C.1.2.2.2.2 _ (gt_5 19 (by decide +kernel) rfl)) d_Integer_bitCount_29 ?_
  refine lv_iand hx hb d_Integer_bitCount_32 ?_
  obtain ⟨i3, ei3⟩ : ∃ z, z = (i2 + i2 >>> 4) &&& 252645135 := ⟨_, rfl⟩
  have Ei3 : (((nI i2) + (((nI i2).toUInt32 >>> ((4 : Int32).toUInt32 &&& Int32.toUInt32 31)).toInt32)) &&& 252645135) = nI i3 := by
    show (nI i2 + ((nI i2).toUInt32 >>> ((nI 4).toUInt32 &&& Int32.toUInt32 31)).toInt32) &&& nI 252645135 = _
    rw [sh_n (by omega) (by decide), nI_add, nI_and, ei3]
  rw [Ei3]
  have hi3 : i3 < 262144 := by
    have a1 : (i2 + i2 >>> 4) &&& 252645135 ≤ i2 + i2 >>> 4 := Nat.and_le_left
    have a2 : i2 >>> 4 ≤ i2 := Nat.shiftRight_le _ _
    omega
  refine lv_istore_n (lv' := [(0, .int (nI i3))]) hx hb d_Integer_bitCount_33 rfl hl (by decide) rfl (fun ls hl => ?_)
  refine lv_iload_n hx hb d_Integer_bitCount_34 rfl (lv_at hl 0 rfl) ?_
  refine lv_iload_n hx hb d_Integer_bitCount_35 rfl (lv_at hl 0 rfl) ?_
  refine lv_bipush (v := 8) hx hb d_Integer_bitCount_36 (by decide) ?_
  refine lv_iushr (v := ((nI i3).toUInt32 >>> ((8 : Int32).toUInt32 &&& Int32.toUInt32 31)).toInt32) hx hb d_Integer_bitCount_38 rfl ?_
  refine lv_iadd hx hb d_Integer_bitCount_39 ?_
  obtain ⟨i4, ei4⟩ : ∃ z, z = i3 + i3 >>> 8 := ⟨_, rfl⟩
  have Ei4 : ((nI i3) + (((nI i3).toUInt32 >>> ((8 : Int32).toUInt32 &&& Int32.toUInt32 31)).toInt32)) = nI i4 := by
    show nI i3 + ((nI i3).toUInt32 >>> ((nI 8).toUInt32 &&& Int32.toUInt32 31)).toInt32 = _
    rw [sh_n (by omega) (by decide), nI_add, ei4]
  rw [Ei4]
  have hi4 : i4 < 524288 := by
    have a2 : i3 >>> 8 ≤ i3 := Nat.shiftRight_le _ _
    omega
  refine lv_istore_n (lv' := [(0, .int (nI i4))]) hx hb d_Integer_bitCount_40 rfl hl (by decide) rfl (fun ls hl => ?_)
  refine lv_iload_n hx hb d_Integer_bitCount_41 rfl (lv_at hl 0 rfl) ?_
  refine lv_iload_n hx hb d_Integer_bitCount_42 rfl (lv_at hl 0 rfl) ?_
  refine lv_bipush (v := 16) hx hb d_Integer_bitCount_43 (by decide) ?_
  refine lv_iushr (v := ((nI i4).toUInt32 >>> ((16 : Int32).toUInt32 &&& Int32.toUInt32 31)).toInt32) hx hb d_Integer_bitCount_45 rfl ?_
  refine lv_iadd hx hb d_Integer_bitCount_46 ?_
  obtain ⟨i5, ei5⟩ : ∃ z, z = i4 + i4 >>> 16 := ⟨_, rfl⟩
  have Ei5 : ((nI i4) + (((nI i4).toUInt32 >>> ((16 : Int32).toUInt32 &&& Int32.toUInt32 31)).toInt32)) = nI i5 := by
    show nI i4 + ((nI i4).toUInt32 >>> ((nI 16).toUInt32 &&& Int32.toUInt32 31)).toInt32 = _
    rw [sh_n (by omega) (by decide), nI_add, ei5]
  rw [Ei5]
  have hi5 : i5 < 1048576 := by
    have a2 : i4 >>> 16 ≤ i4 := Nat.shiftRight_le _ _
    omega
  refine lv_istore_n (lv' := [(0, .int (nI i5))]) hx hb d_Integer_bitCount_47 rfl hl (by decide) rfl (fun ls hl => ?_)
  refine lv_iload_n hx hb d_Integer_bitCount_48 rfl (lv_at hl 0 rfl) ?_
  refine lv_bipush (v := 63) hx hb d_Integer_bitCount_49 (by decide) ?_
  refine lv_iand hx hb d_Integer_bitCount_51 ?_
  exact mq_iret hQ C X hr rfl hlk (⟨rfl, by
      show nI i5 &&& nI 63 = _
      rw [nI_and, ei5, ei4, ei3, ei2, ei1]; rfl⟩) (by omega) (by omega) d_Integer_bitCount_52
theorem d_MenuScreens_lamp_0 : decode prog_1_method_16_code 0 = .ok (.iload_n 1, 1) := by decide +kernel
theorem d_MenuScreens_lamp_1 : decode prog_1_method_16_code 1 = .ok (.ifCond .lt 9, 3) := by decide +kernel
theorem d_MenuScreens_lamp_4 : decode prog_1_method_16_code 4 = .ok (.iload_n 1, 1) := by decide +kernel
theorem d_MenuScreens_lamp_5 : decode prog_1_method_16_code 5 = .ok (.bipush 16, 2) := by decide +kernel
theorem d_MenuScreens_lamp_7 : decode prog_1_method_16_code 7 = .ok (.if_icmp .lt 5, 3) := by decide +kernel
theorem d_MenuScreens_lamp_10 : decode prog_1_method_16_code 10 = .ok (.iconst (-1), 1) := by decide +kernel
theorem d_MenuScreens_lamp_11 : decode prog_1_method_16_code 11 = .ok (.ireturn, 1) := by decide +kernel
theorem d_MenuScreens_lamp_12 : decode prog_1_method_16_code 12 = .ok (.iconst 1, 1) := by decide +kernel
theorem d_MenuScreens_lamp_13 : decode prog_1_method_16_code 13 = .ok (.iload_n 1, 1) := by decide +kernel
theorem d_MenuScreens_lamp_14 : decode prog_1_method_16_code 14 = .ok (.ishl, 1) := by decide +kernel
theorem d_MenuScreens_lamp_15 : decode prog_1_method_16_code 15 = .ok (.istore_n 3, 1) := by decide +kernel
theorem d_MenuScreens_lamp_16 : decode prog_1_method_16_code 16 = .ok (.aload_n 0, 1) := by decide +kernel
theorem d_MenuScreens_lamp_17 : decode prog_1_method_16_code 17 = .ok (.iload_n 2, 1) := by decide +kernel
theorem d_MenuScreens_lamp_18 : decode prog_1_method_16_code 18 = .ok (.ifCond .eq 14, 3) := by decide +kernel
theorem d_MenuScreens_lamp_21 : decode prog_1_method_16_code 21 = .ok (.aload_n 0, 1) := by decide +kernel
theorem d_MenuScreens_lamp_22 : decode prog_1_method_16_code 22 = .ok (.getfield 178, 3) := by decide +kernel
theorem d_MenuScreens_lamp_25 : decode prog_1_method_16_code 25 = .ok (.iload_n 3, 1) := by decide +kernel
theorem d_MenuScreens_lamp_26 : decode prog_1_method_16_code 26 = .ok (.iconst (-1), 1) := by decide +kernel
theorem d_MenuScreens_lamp_27 : decode prog_1_method_16_code 27 = .ok (.ixor, 1) := by decide +kernel
theorem d_MenuScreens_lamp_28 : decode prog_1_method_16_code 28 = .ok (.iand, 1) := by decide +kernel
theorem d_MenuScreens_lamp_29 : decode prog_1_method_16_code 29 = .ok (.goto 9, 3) := by decide +kernel
theorem d_MenuScreens_lamp_32 : decode prog_1_method_16_code 32 = .ok (.aload_n 0, 1) := by decide +kernel
theorem d_MenuScreens_lamp_33 : decode prog_1_method_16_code 33 = .ok (.getfield 178, 3) := by decide +kernel
theorem d_MenuScreens_lamp_36 : decode prog_1_method_16_code 36 = .ok (.iload_n 3, 1) := by decide +kernel
theorem d_MenuScreens_lamp_37 : decode prog_1_method_16_code 37 = .ok (.ior, 1) := by decide +kernel
theorem d_MenuScreens_lamp_38 : decode prog_1_method_16_code 38 = .ok (.putfield 178, 3) := by decide +kernel
theorem d_MenuScreens_lamp_41 : decode prog_1_method_16_code 41 = .ok (.aload_n 0, 1) := by decide +kernel
theorem d_MenuScreens_lamp_42 : decode prog_1_method_16_code 42 = .ok (.getfield 178, 3) := by decide +kernel
theorem d_MenuScreens_lamp_45 : decode prog_1_method_16_code 45 = .ok (.invokestatic 181, 3) := by decide +kernel
theorem d_MenuScreens_lamp_48 : decode prog_1_method_16_code 48 = .ok (.ireturn, 1) := by decide +kernel
set_option maxRecDepth 100000 in
set_option maxHeartbeats 4000000 in
theorem cm_MenuScreens_lamp {l : Launch} {S0 : State} {b : Nat} {D : va_G} {dT : Nat → ClassId} (hE : vEnv S0 b D dT) {dE mO : Nat} (hJ : vJ S0 dE mO) {h0 : vH} {hcv : vH} {ad : Nat → Nat → Nat} {L : vL} {cap : Nat} {x : Nat → Int32} {y : Nat → Int64} {A : Nat → Nat → Int32} {B : Nat → Nat → Int64} (xl : LH S0.heap.size hcv h0 ad L) (hC : CR dT dE h0 ad L cap x y A B) {p1 p2 : Int32} : vMi l S0 D vcl GT y_MenuScreens_lamp prog_1_method_16_code 4 (some .int) 1 20 0 0 [.ref (ad 0 0), .int p1, .int p2] h0 (fun r h' => clP dT dE S0.heap.size hcv h0 ad L cap (fun r x' y' A' B' => (x' = upd x 0 0 ∧ y' = y ∧ B' = B ∧ ((p1 < 0 ∨ 15 < p1) ∧ r = -1 ∧ A' = A ∨ ∃ j, j < 16 ∧ p1 = nI j ∧ r = nI (cnt (fun k => decide (¬ upd (A 58) j (if p2 = 0 then 1 else 0) k = 0)) 16) ∧ A' = va_up A 58 (upd (A 58) j (if p2 = 0 then 1 else 0))))) r h') := by
  unfold vMi
  refine vM_ofQ hE.1 (by decide) (Nat.le_of_ble_eq_true rfl) (fun p e s m args below meth c ls Q hQ C hr hlk hnm X hl => ?_)
  have C : vC p s m _ c _ _ "MenuScreens" GT D vcl (vty dT) := C
  have hx := C.1.1
  have hb := C.1.2.1
  obtain ⟨H, eH⟩ : ∃ z, z = s.heap := ⟨_, rfl⟩
  obtain ⟨locs, elocs⟩ : ∃ z : List Loc, z = [] := ⟨_, rfl⟩
  rw [← eH, ← elocs] at X
  rw [← eH, ← elocs]
  clear eH elocs
  have hl : lv_has ls 4 [(0, .ref (ad 0 0)), (1, .int p1), (2, .int p2)] := hl
  have hC0 := hC
  obtain ⟨⟨sp, bl, hTop, hsp, hlm⟩, hdim, ⟨n3, e3, hBld⟩, ⟨n50, e50, hWr⟩, ⟨nr, e48, hPl⟩, hRe, hLi, ⟨nv, ns, np, nc, pf, cb, ce, cs, c0, lh, hnum, hpr, hRP, hTx, hrn⟩, hkey, hsm⟩ := hC0
  have hTop2 : L 0 0 = some (.inr (3, [.int (x 1), .int (x 2), .ref (ad 1 0), .ref (ad 6 0), .ref (ad 2 0), .ref (ad 8 0), .int (x 45), .int sp, .int (x 46), .int bl, .int (x 55), .long (y 56), .long (y 57)])) := hTop
  refine lv_iload_n hx hb d_MenuScreens_lamp_0 rfl (lv_at hl 1 rfl) ?_
  refine lv_if_lt (tgt := 10) hx hb d_MenuScreens_lamp_1 (by decide) (fun c1 => ?_) (fun c1 => ?_)
  · skip
    refine lv_iconst (v := (-1)) hx hb d_MenuScreens_lamp_10 (by decide) ?_
    exact mq_iret hQ C X hr rfl hlk (⟨ad, L, LR.of xl, ⟨fun _ _ => ⟨rfl, rfl⟩, rfl⟩, fun r' x' y' A' B' hst => by
        obtain ⟨a1, a2, a3, a4⟩ := hst
        subst a1 a2 a3
        rcases a4 with ⟨b1, b2, b3⟩ | ⟨j2, b1, b2, b3, b4⟩
        · subst b2 b3; exact ⟨rfl, hC.same⟩
        · exact absurd trivial (fun _ => nI_pos (by omega) (b2 ▸ c1))⟩) (by omega) (by omega) d_MenuScreens_lamp_11
  · skip
    refine lv_iload_n hx hb d_MenuScreens_lamp_4 rfl (lv_at hl 1 rfl) ?_
    refine lv_bipush (v := 16) hx hb d_MenuScreens_lamp_5 (by decide) ?_
    refine lv_icmp_lt (tgt := 12) hx hb d_MenuScreens_lamp_7 (by decide) (fun c2 => ?_) (fun c2 => ?_)
    · skip
      obtain ⟨j, hj, ej⟩ := ix_lt (n := 16) c1 c2 (by decide)
      refine lv_iconst (v := 1) hx hb d_MenuScreens_lamp_12 (by decide) ?_
      refine lv_iload_n hx hb d_MenuScreens_lamp_13 rfl (lv_at hl 1 rfl) ?_
      refine lv_ishl hx hb d_MenuScreens_lamp_14 ?_
      have eb : (1 <<< (p1 &&& 31)) = nI (2 ^ j) := by rw [ej]; exact bit_n j hj
      rw [eb]
      refine lv_istore_n (lv' := [(3, .int (nI (2 ^ j))), (0, .ref (ad 0 0)), (1, .int p1), (2, .int p2)]) hx hb d_MenuScreens_lamp_15 rfl hl (by decide) rfl (fun ls hl => ?_)
      refine lv_aload_n hx hb d_MenuScreens_lamp_16 rfl (lv_at hl 1 rfl) ?_
      refine lv_iload_n hx hb d_MenuScreens_lamp_17 rfl (lv_at hl 3 rfl) ?_
      refine lv_if_eq (tgt := 32) hx hb d_MenuScreens_lamp_18 (by decide) (fun c3 => ?_) (fun c3 => ?_)
      · skip
        refine lv_aload_n hx hb d_MenuScreens_lamp_32 rfl (lv_at hl 1 rfl) ?_
        refine mv_get C X (xl.get (i := 0) (j := 0) hTop2) 9 f_0_178_3 (v := .int bl) rfl d_MenuScreens_lamp_33 ?_
        refine lv_iload_n hx hb d_MenuScreens_lamp_36 rfl (lv_at hl 0 rfl) ?_
        refine lv_ior hx hb d_MenuScreens_lamp_37 ?_
        refine mv_put C X (xl.get (i := 0) (j := 0) hTop2) (xl.wr (i := 0) (j := 0) hTop2) 9 p_0_178_3 rfl rfl (Nat.le_of_ble_eq_true rfl) d_MenuScreens_lamp_38 (fun H locs X => ?_)
        have X : vO S0 D vcl (vup h0 (ad 0 0) (.inr (3, [.int (x 1), .int (x 2), .ref (ad 1 0), .ref (ad 6 0), .ref (ad 2 0), .ref (ad 8 0), .int (x 45), .int sp, .int (x 46), .int (bl ||| (nI (2 ^ j))), .int (x 55), .long (y 56), .long (y 57)]))) s H locs := X
        refine lv_aload_n hx hb d_MenuScreens_lamp_41 rfl (lv_at hl 1 rfl) ?_
        refine mv_get C X (vup_s _ _ _) 9 f_0_178_3 (v := .int (bl ||| (nI (2 ^ j)))) rfl d_MenuScreens_lamp_42 ?_
        have hlm2 : lmp (bl ||| (nI (2 ^ j))) (upd (A 58) j (if p2 = 0 then 1 else 0)) := by
          rw [if_pos c3]; exact lmp_set hlm hj
        have hlm3 := hlm2
        obtain ⟨m2, hm1, hm2, hm3⟩ := hlm3
        rw [hm2]
        refine mv_bi X (mv_rS (rest := []) (As := [.int (nI m2)]) gt_good C X k_0_181 (cm_Integer_bitCount hE hm1) ⟨Nat.le_of_ble_eq_true rfl, Nat.le_of_ble_eq_true rfl⟩ rfl hl.1 rfl (Nat.le_of_ble_eq_true rfl) d_MenuScreens_lamp_45 ⟨Nat.zero_le _, Nat.zero_le _⟩) (fun r4 hN H locs hp X => ?_)
        obtain ⟨eh, er⟩ := hp
        replace eh := eh.symm
        replace er := er.symm
        subst eh er
        exact mq_iret hQ C X hr rfl hlk (⟨ad, _, (LR.of xl).put (i := 0) (j := 0) hTop2, ⟨fun i hi => ⟨lput_k _ _ (by omega), rfl⟩, rfl⟩, fun r' x' y' A' B' hst => by
            obtain ⟨a1, a2, a3, a4⟩ := hst
            subst a1 a2 a3
            rcases a4 with ⟨b1, b2, b3⟩ | ⟨j2, b1, b2, b3, b4⟩
            · exfalso
              rw [ej] at b1
              rcases b1 with z | z
              · exact nI_pos (by omega) z
              · have := (nI_ltI (a := 15) (by decide) (by omega)).mp z; omega
            · have ej2 : j2 = j := nI_eqI (by omega) (by omega) (b2.symm.trans ej)
              subst ej2
              subst b3 b4
              refine ⟨by rw [lmp_cnt hm1 hm3], ?_⟩
              exact CR.top (x' := upd x 0 0) (y' := y') hC rfl ((LR.of xl).put (i := 0) (j := 0) hTop2).2 (fun k a b c d => by rw [pk_un a]) rfl ⟨sp, _, rfl, hsp, hlm2⟩ (fun _ _ _ h => h)⟩) (by omega) (by omega) d_MenuScreens_lamp_48
      · skip
        refine lv_aload_n hx hb d_MenuScreens_lamp_21 rfl (lv_at hl 1 rfl) ?_
        refine mv_get C X (xl.get (i := 0) (j := 0) hTop2) 9 f_0_178_3 (v := .int bl) rfl d_MenuScreens_lamp_22 ?_
        refine lv_iload_n hx hb d_MenuScreens_lamp_25 rfl (lv_at hl 0 rfl) ?_
        refine lv_iconst (v := (-1)) hx hb d_MenuScreens_lamp_26 (by decide) ?_
        refine lv_ixor hx hb d_MenuScreens_lamp_27 ?_
        refine lv_iand hx hb d_MenuScreens_lamp_28 ?_
        refine lv_goto (tgt := 38) hx hb d_MenuScreens_lamp_29 (by decide) ?_
        refine mv_put C X (xl.get (i := 0) (j := 0) hTop2) (xl.wr (i := 0) (j := 0) hTop2) 9 p_0_178_3 rfl rfl (Nat.le_of_ble_eq_true rfl) d_MenuScreens_lamp_38 (fun H locs X => ?_)
        have X : vO S0 D vcl (vup h0 (ad 0 0) (.inr (3, [.int (x 1), .int (x 2), .ref (ad 1 0), .ref (ad 6 0), .ref (ad 2 0), .ref (ad 8 0), .int (x 45), .int sp, .int (x 46), .int (bl &&& ((nI (2 ^ j)) ^^^ (-1))), .int (x 55), .long (y 56), .long (y 57)]))) s H locs := X
        refine lv_aload_n hx hb d_MenuScreens_lamp_41 rfl (lv_at hl 1 rfl) ?_
        refine mv_get C X (vup_s _ _ _) 9 f_0_178_3 (v := .int (bl &&& ((nI (2 ^ j)) ^^^ (-1)))) rfl d_MenuScreens_lamp_42 ?_
        have hlm2 : lmp (bl &&& ((nI (2 ^ j)) ^^^ (-1))) (upd (A 58) j (if p2 = 0 then 1 else 0)) := by
          rw [if_neg c3]; exact lmp_clr hlm hj
        have hlm3 := hlm2
        obtain ⟨m2, hm1, hm2, hm3⟩ := hlm3
        rw [hm2]
        refine mv_bi X (mv_rS (rest := []) (As := [.int (nI m2)]) gt_good C X k_0_181 (cm_Integer_bitCount hE hm1) ⟨Nat.le_of_ble_eq_true rfl, Nat.le_of_ble_eq_true rfl⟩ rfl hl.1 rfl (Nat.le_of_ble_eq_true rfl) d_MenuScreens_lamp_45 ⟨Nat.zero_le _, Nat.zero_le _⟩) (fun r5 hN H locs hp X => ?_)
        obtain ⟨eh, er⟩ := hp
        replace eh := eh.symm
        replace er := er.symm
        subst eh er
        exact mq_iret hQ C X hr rfl hlk (⟨ad, _, (LR.of xl).put (i := 0) (j := 0) hTop2, ⟨fun i hi => ⟨lput_k _ _ (by omega), rfl⟩, rfl⟩, fun r' x' y' A' B' hst => by
            obtain ⟨a1, a2, a3, a4⟩ := hst
            subst a1 a2 a3
            rcases a4 with ⟨b1, b2, b3⟩ | ⟨j2, b1, b2, b3, b4⟩
            · exfalso
              rw [ej] at b1
              rcases b1 with z | z
              · exact nI_pos (by omega) z
              · have := (nI_ltI (a := 15) (by decide) (by omega)).mp z; omega
            · have ej2 : j2 = j := nI_eqI (by omega) (by omega) (b2.symm.trans ej)
              subst ej2
              subst b3 b4
              refine ⟨by rw [lmp_cnt hm1 hm3], ?_⟩
              exact CR.top (x' := upd x 0 0) (y' := y') hC rfl ((LR.of xl).put (i := 0) (j := 0) hTop2).2 (fun k a b c d => by rw [pk_un a]) rfl ⟨sp, _, rfl, hsp, hlm2⟩ (fun _ _ _ h => h)⟩) (by omega) (by omega) d_MenuScreens_lamp_48
    · skip
      refine lv_iconst (v := (-1)) hx hb d_MenuScreens_lamp_10 (by decide) ?_
      exact mq_iret hQ C X hr rfl hlk (⟨ad, L, LR.of xl, ⟨fun _ _ => ⟨rfl, rfl⟩, rfl⟩, fun r' x' y' A' B' hst => by
          obtain ⟨a1, a2, a3, a4⟩ := hst
          subst a1 a2 a3
          rcases a4 with ⟨b1, b2, b3⟩ | ⟨j2, b1, b2, b3, b4⟩
          · subst b2 b3; exact ⟨rfl, hC.same⟩
          · exact absurd trivial (fun _ => c2 (by rw [b2]; exact nI_lt (b := 16) b1 (by decide)))⟩) (by omega) (by omega) d_MenuScreens_lamp_11
