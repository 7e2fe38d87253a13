theorem d_Reader_takeSetting_0 : decode prog_6_method_6_code 0 = .ok (.aload_n 0, 1) := by decide +kernel
theorem d_Reader_takeSetting_1 : decode prog_6_method_6_code 1 = .ok (.getfield 21, 3) := by decide +kernel
theorem d_Reader_takeSetting_4 : decode prog_6_method_6_code 4 = .ok (.iconst 1, 1) := by decide +kernel
theorem d_Reader_takeSetting_5 : decode prog_6_method_6_code 5 = .ok (.invokevirtual 112, 3) := by decide +kernel
theorem d_Reader_takeSetting_8 : decode prog_6_method_6_code 8 = .ok (.lstore_n 1, 1) := by decide +kernel
theorem d_Reader_takeSetting_9 : decode prog_6_method_6_code 9 = .ok (.aload_n 0, 1) := by decide +kernel
theorem d_Reader_takeSetting_10 : decode prog_6_method_6_code 10 = .ok (.getfield 21, 3) := by decide +kernel
theorem d_Reader_takeSetting_13 : decode prog_6_method_6_code 13 = .ok (.iconst 2, 1) := by decide +kernel
theorem d_Reader_takeSetting_14 : decode prog_6_method_6_code 14 = .ok (.invokevirtual 134, 3) := by decide +kernel
theorem d_Reader_takeSetting_17 : decode prog_6_method_6_code 17 = .ok (.istore_n 3, 1) := by decide +kernel
theorem d_Reader_takeSetting_18 : decode prog_6_method_6_code 18 = .ok (.aload_n 0, 1) := by decide +kernel
theorem d_Reader_takeSetting_19 : decode prog_6_method_6_code 19 = .ok (.getfield 21, 3) := by decide +kernel
theorem d_Reader_takeSetting_22 : decode prog_6_method_6_code 22 = .ok (.iconst 3, 1) := by decide +kernel
theorem d_Reader_takeSetting_23 : decode prog_6_method_6_code 23 = .ok (.invokevirtual 134, 3) := by decide +kernel
theorem d_Reader_takeSetting_26 : decode prog_6_method_6_code 26 = .ok (.istore 4, 2) := by decide +kernel
theorem d_Reader_takeSetting_28 : decode prog_6_method_6_code 28 = .ok (.aload_n 0, 1) := by decide +kernel
theorem d_Reader_takeSetting_29 : decode prog_6_method_6_code 29 = .ok (.getfield 21, 3) := by decide +kernel
theorem d_Reader_takeSetting_32 : decode prog_6_method_6_code 32 = .ok (.iconst 4, 1) := by decide +kernel
theorem d_Reader_takeSetting_33 : decode prog_6_method_6_code 33 = .ok (.invokevirtual 134, 3) := by decide +kernel
theorem d_Reader_takeSetting_36 : decode prog_6_method_6_code 36 = .ok (.istore 5, 2) := by decide +kernel
theorem d_Reader_takeSetting_38 : decode prog_6_method_6_code 38 = .ok (.aload_n 0, 1) := by decide +kernel
theorem d_Reader_takeSetting_39 : decode prog_6_method_6_code 39 = .ok (.getfield 21, 3) := by decide +kernel
theorem d_Reader_takeSetting_42 : decode prog_6_method_6_code 42 = .ok (.invokevirtual 47, 3) := by decide +kernel
theorem d_Reader_takeSetting_45 : decode prog_6_method_6_code 45 = .ok (.iconst 5, 1) := by decide +kernel
theorem d_Reader_takeSetting_46 : decode prog_6_method_6_code 46 = .ok (.if_icmp .ne 11, 3) := by decide +kernel
theorem d_Reader_takeSetting_49 : decode prog_6_method_6_code 49 = .ok (.aload_n 0, 1) := by decide +kernel
theorem d_Reader_takeSetting_50 : decode prog_6_method_6_code 50 = .ok (.lload_n 1, 1) := by decide +kernel
theorem d_Reader_takeSetting_51 : decode prog_6_method_6_code 51 = .ok (.invokevirtual 116, 3) := by decide +kernel
theorem d_Reader_takeSetting_54 : decode prog_6_method_6_code 54 = .ok (.ifCond .ne 5, 3) := by decide +kernel
theorem d_Reader_takeSetting_57 : decode prog_6_method_6_code 57 = .ok (.iconst 0, 1) := by decide +kernel
theorem d_Reader_takeSetting_58 : decode prog_6_method_6_code 58 = .ok (.ireturn, 1) := by decide +kernel
theorem d_Reader_takeSetting_59 : decode prog_6_method_6_code 59 = .ok (.iload_n 3, 1) := by decide +kernel
theorem d_Reader_takeSetting_60 : decode prog_6_method_6_code 60 = .ok (.ldc 138, 2) := by decide +kernel
theorem d_Reader_takeSetting_62 : decode prog_6_method_6_code 62 = .ok (.if_icmp .eq 17, 3) := by decide +kernel
theorem d_Reader_takeSetting_65 : decode prog_6_method_6_code 65 = .ok (.iload 4, 2) := by decide +kernel
theorem d_Reader_takeSetting_67 : decode prog_6_method_6_code 67 = .ok (.ldc 138, 2) := by decide +kernel
theorem d_Reader_takeSetting_69 : decode prog_6_method_6_code 69 = .ok (.if_icmp .eq 10, 3) := by decide +kernel
theorem d_Reader_takeSetting_72 : decode prog_6_method_6_code 72 = .ok (.iload 5, 2) := by decide +kernel
theorem d_Reader_takeSetting_74 : decode prog_6_method_6_code 74 = .ok (.ldc 138, 2) := by decide +kernel
theorem d_Reader_takeSetting_76 : decode prog_6_method_6_code 76 = .ok (.if_icmp .ne 5, 3) := by decide +kernel
theorem d_Reader_takeSetting_79 : decode prog_6_method_6_code 79 = .ok (.iconst 0, 1) := by decide +kernel
theorem d_Reader_takeSetting_80 : decode prog_6_method_6_code 80 = .ok (.ireturn, 1) := by decide +kernel
theorem d_Reader_takeSetting_81 : decode prog_6_method_6_code 81 = .ok (.iload 5, 2) := by decide +kernel
theorem d_Reader_takeSetting_83 : decode prog_6_method_6_code 83 = .ok (.iload_n 3, 1) := by decide +kernel
theorem d_Reader_takeSetting_84 : decode prog_6_method_6_code 84 = .ok (.if_icmp .lt 10, 3) := by decide +kernel
theorem d_Reader_takeSetting_87 : decode prog_6_method_6_code 87 = .ok (.iload 5, 2) := by decide +kernel
theorem d_Reader_takeSetting_89 : decode prog_6_method_6_code 89 = .ok (.iload 4, 2) := by decide +kernel
theorem d_Reader_takeSetting_91 : decode prog_6_method_6_code 91 = .ok (.if_icmp .le 5, 3) := by decide +kernel
theorem d_Reader_takeSetting_94 : decode prog_6_method_6_code 94 = .ok (.iconst 0, 1) := by decide +kernel
theorem d_Reader_takeSetting_95 : decode prog_6_method_6_code 95 = .ok (.ireturn, 1) := by decide +kernel
theorem d_Reader_takeSetting_96 : decode prog_6_method_6_code 96 = .ok (.aload_n 0, 1) := by decide +kernel
theorem d_Reader_takeSetting_97 : decode prog_6_method_6_code 97 = .ok (.getfield 12, 3) := by decide +kernel
theorem d_Reader_takeSetting_100 : decode prog_6_method_6_code 100 = .ok (.getfield 120, 3) := by decide +kernel
theorem d_Reader_takeSetting_103 : decode prog_6_method_6_code 103 = .ok (.new 124, 3) := by decide +kernel
theorem d_Reader_takeSetting_106 : decode prog_6_method_6_code 106 = .ok (.dup, 1) := by decide +kernel
theorem d_Reader_takeSetting_107 : decode prog_6_method_6_code 107 = .ok (.lload_n 1, 1) := by decide +kernel
theorem d_Reader_takeSetting_108 : decode prog_6_method_6_code 108 = .ok (.iload_n 3, 1) := by decide +kernel
theorem d_Reader_takeSetting_109 : decode prog_6_method_6_code 109 = .ok (.i2l, 1) := by decide +kernel
theorem d_Reader_takeSetting_110 : decode prog_6_method_6_code 110 = .ok (.iload 4, 2) := by decide +kernel
theorem d_Reader_takeSetting_112 : decode prog_6_method_6_code 112 = .ok (.i2l, 1) := by decide +kernel
theorem d_Reader_takeSetting_113 : decode prog_6_method_6_code 113 = .ok (.iload 5, 2) := by decide +kernel
theorem d_Reader_takeSetting_115 : decode prog_6_method_6_code 115 = .ok (.i2l, 1) := by decide +kernel
theorem d_Reader_takeSetting_116 : decode prog_6_method_6_code 116 = .ok (.invokespecial 139, 3) := by decide +kernel
theorem d_Reader_takeSetting_119 : decode prog_6_method_6_code 119 = .ok (.invokevirtual 129, 3) := by decide +kernel
theorem d_Reader_takeSetting_122 : decode prog_6_method_6_code 122 = .ok (.pop, 1) := by decide +kernel
theorem d_Reader_takeSetting_123 : decode prog_6_method_6_code 123 = .ok (.iconst 1, 1) := by decide +kernel
theorem d_Reader_takeSetting_124 : decode prog_6_method_6_code 124 = .ok (.ireturn, 1) := by decide +kernel
set_option maxRecDepth 100000 in
set_option maxHeartbeats 4000000 in
theorem cm_Reader_takeSetting {l : Launch} {S0 : State} {b : Nat} {D : va_G} {dT : Nat → ClassId} (hE : vEnv S0 b D dT) {dE mO : Nat} (hJ : vJ S0 dE mO) {h0 : vH} {hcv : vH} {ad : Nat → Nat → Nat} {L : vL} {rc : Int32} {A : Nat → Nat → Int32} {B : Nat → Nat → Int64} {nv ns np nc : Nat} {pf cb ce cs : Nat → Nat} {c0 : Nat} (x : LH S0.heap.size hcv h0 ad L) (hcE : ∃ fE, hcv dE = some (aR dT 0 fE)) (hR : PR dT dE h0 ad L A B nv ns np nc pf cb ce cs c0 rc) (hnv : nv ≤ 40) (hns : ns ≤ 30) (hnp : np ≤ 600) (hnc : nc ≤ 600) {f : Nat → Int32} {N en bg cw : Nat} (hT : PT dT S0.heap.size h0 ad L f N en bg cw) (hf6 : A 6 = f) : vMi l S0 D vcl GT y_Reader_takeSetting prog_6_method_6_code 6 (some .boolean) 7 161 2 (16 + 2 * nv) [.ref (ad 6 0)] h0 (fun r h' => tkP dT dE S0.heap.size hcv h0 ad L rc A B nv ns np nc pf cb ce cs c0 (okVa A en (wP f en bg 1) nv 1) (vaA A en (wP f en bg 1) nv 1) (vaB A B en (wP f en bg 1) nv 1) (nv + 1) ns np nc r h') := by
  unfold vMi
  refine vM_ofQ hE.1 (by decide) (Nat.le_of_ble_eq_true rfl) (fun p e s m args below meth c ls Q hQ C hr hlk hnm X hl => ?_)
  have C : vC p s m _ c _ _ "MenuScreens$Reader" GT D vcl (vty dT) := C
  have hx := C.1.1
  have hb := C.1.2.1
  obtain ⟨H, eH⟩ : ∃ z, z = s.heap := ⟨_, rfl⟩
  obtain ⟨locs, elocs⟩ : ∃ z : List Loc, z = [] := ⟨_, rfl⟩
  rw [← eH, ← elocs] at X
  rw [← eH, ← elocs]
  clear eH elocs
  have hl : lv_has ls 6 [(0, .ref (ad 6 0))] := hl
  have hR0 := hR
  obtain ⟨hRP, h20, h60⟩ := hR0
  obtain ⟨t, tv, z2, z3, f8, fs, fe, ⟨kt, ot⟩, ⟨ktv, otv⟩, wtv, h70, h71, h72, hW, hb0, he, hN, hg⟩ := hT
  refine lv_aload_n hx hb d_Reader_takeSetting_0 rfl (lv_at hl 0 rfl) ?_
  refine mv_get C X (x.get (i := 6) (j := 0) h60) 1 f_5_21_5 (v := .ref (ad 7 0)) rfl d_Reader_takeSetting_1 ?_
  refine lv_iconst (v := 1) hx hb d_Reader_takeSetting_4 (by decide) ?_
  refine mv_bl X (mv_rV (rest := []) (As := [.int 1]) gt_good C X k_5_112 (cm_Line_nameAt hE hJ hW hb0 he hN hg (j := 1) (by decide) (x.get (i := 7) (j := 0) h70) (x.get (i := 7) (j := 1) h71) (x.get (i := 7) (j := 2) h72) kt ktv) (x.get (i := 7) (j := 0) h70) rfl rfl ⟨Nat.le_of_ble_eq_true rfl, Nat.le_of_ble_eq_true rfl⟩ rfl hl.1 rfl (Nat.le_of_ble_eq_true rfl) d_Reader_takeSetting_5 ⟨Nat.zero_le _, Nat.zero_le _⟩) (fun r1 hN H locs hp X => ?_)
  obtain ⟨eh, er⟩ := hp
  replace eh := eh.symm
  replace er := er.symm
  subst eh er
  refine lv_lstore_n (lv' := [(1, .long (cNa f en bg cw 1)), (0, .ref (ad 6 0))]) hx hb d_Reader_takeSetting_8 rfl hl (by decide) rfl (fun ls hl => ?_)
  refine lv_aload_n hx hb d_Reader_takeSetting_9 rfl (lv_at hl 1 rfl) ?_
  refine mv_get C X (x.get (i := 6) (j := 0) h60) 1 f_5_21_5 (v := .ref (ad 7 0)) rfl d_Reader_takeSetting_10 ?_
  refine lv_iconst (v := 2) hx hb d_Reader_takeSetting_13 (by decide) ?_
  refine mv_bi X (mv_rV (rest := []) (As := [.int 2]) gt_good C X k_5_134 (cm_Line_numberAt hE hJ hW hb0 he hN hg (j := 2) (by decide) (x.get (i := 7) (j := 0) h70) (x.get (i := 7) (j := 1) h71) (x.get (i := 7) (j := 2) h72) kt ktv) (x.get (i := 7) (j := 0) h70) rfl rfl ⟨Nat.le_of_ble_eq_true rfl, Nat.le_of_ble_eq_true rfl⟩ rfl hl.1 rfl (Nat.le_of_ble_eq_true rfl) d_Reader_takeSetting_14 ⟨Nat.zero_le _, Nat.zero_le _⟩) (fun r2 hN H locs hp X => ?_)
  obtain ⟨eh, er⟩ := hp
  replace eh := eh.symm
  replace er := er.symm
  subst eh er
  refine lv_istore_n (lv' := [(3, .int (cNi f en bg cw 2)), (1, .long (cNa f en bg cw 1)), (0, .ref (ad 6 0))]) hx hb d_Reader_takeSetting_17 rfl hl (by decide) rfl (fun ls hl => ?_)
  refine lv_aload_n hx hb d_Reader_takeSetting_18 rfl (lv_at hl 2 rfl) ?_
  refine mv_get C X (x.get (i := 6) (j := 0) h60) 1 f_5_21_5 (v := .ref (ad 7 0)) rfl d_Reader_takeSetting_19 ?_
  refine lv_iconst (v := 3) hx hb d_Reader_takeSetting_22 (by decide) ?_
  refine mv_bi X (mv_rV (rest := []) (As := [.int 3]) gt_good C X k_5_134 (cm_Line_numberAt hE hJ hW hb0 he hN hg (j := 3) (by decide) (x.get (i := 7) (j := 0) h70) (x.get (i := 7) (j := 1) h71) (x.get (i := 7) (j := 2) h72) kt ktv) (x.get (i := 7) (j := 0) h70) rfl rfl ⟨Nat.le_of_ble_eq_true rfl, Nat.le_of_ble_eq_true rfl⟩ rfl hl.1 rfl (Nat.le_of_ble_eq_true rfl) d_Reader_takeSetting_23 ⟨Nat.zero_le _, Nat.zero_le _⟩) (fun r3 hN H locs hp X => ?_)
  obtain ⟨eh, er⟩ := hp
  replace eh := eh.symm
  replace er := er.symm
  subst eh er
  refine lv_istore (lv' := [(4, .int (cNi f en bg cw 3)), (3, .int (cNi f en bg cw 2)), (1, .long (cNa f en bg cw 1)), (0, .ref (ad 6 0))]) hx hb d_Reader_takeSetting_26 hl (by decide) rfl (fun ls hl => ?_)
  refine lv_aload_n hx hb d_Reader_takeSetting_28 rfl (lv_at hl 3 rfl) ?_
  refine mv_get C X (x.get (i := 6) (j := 0) h60) 1 f_5_21_5 (v := .ref (ad 7 0)) rfl d_Reader_takeSetting_29 ?_
  refine lv_iconst (v := 4) hx hb d_Reader_takeSetting_32 (by decide) ?_
  refine mv_bi X (mv_rV (rest := []) (As := [.int 4]) gt_good C X k_5_134 (cm_Line_numberAt hE hJ hW hb0 he hN hg (j := 4) (by decide) (x.get (i := 7) (j := 0) h70) (x.get (i := 7) (j := 1) h71) (x.get (i := 7) (j := 2) h72) kt ktv) (x.get (i := 7) (j := 0) h70) rfl rfl ⟨Nat.le_of_ble_eq_true rfl, Nat.le_of_ble_eq_true rfl⟩ rfl hl.1 rfl (Nat.le_of_ble_eq_true rfl) d_Reader_takeSetting_33 ⟨Nat.zero_le _, Nat.zero_le _⟩) (fun r4 hN H locs hp X => ?_)
  obtain ⟨eh, er⟩ := hp
  replace eh := eh.symm
  replace er := er.symm
  subst eh er
  refine lv_istore (lv' := [(5, .int (cNi f en bg cw 4)), (4, .int (cNi f en bg cw 3)), (3, .int (cNi f en bg cw 2)), (1, .long (cNa f en bg cw 1)), (0, .ref (ad 6 0))]) hx hb d_Reader_takeSetting_36 hl (by decide) rfl (fun ls hl => ?_)
  refine lv_aload_n hx hb d_Reader_takeSetting_38 rfl (lv_at hl 4 rfl) ?_
  refine mv_get C X (x.get (i := 6) (j := 0) h60) 1 f_5_21_5 (v := .ref (ad 7 0)) rfl d_Reader_takeSetting_39 ?_
  refine mv_bi X (mv_rV (rest := []) (As := []) gt_good C X k_5_47 (cm_Line_wordCount hE (x.get (i := 7) (j := 0) h70)) (x.get (i := 7) (j := 0) h70) rfl rfl ⟨Nat.le_of_ble_eq_true rfl, Nat.le_of_ble_eq_true rfl⟩ rfl hl.1 rfl (Nat.le_of_ble_eq_true rfl) d_Reader_takeSetting_42 ⟨Nat.zero_le _, Nat.zero_le _⟩) (fun r5 hN H locs hp X => ?_)
  obtain ⟨eh, er⟩ := hp
  replace eh := eh.symm
  replace er := er.symm
  subst eh er
  refine lv_iconst (v := 5) hx hb d_Reader_takeSetting_45 (by decide) ?_
  refine lv_icmp_ne (tgt := 57) hx hb d_Reader_takeSetting_46 (by decide) (fun c6 => ?_) (fun c6 => ?_)
  · skip
    refine lv_iconst (v := 0) hx hb d_Reader_takeSetting_57 (by decide) ?_
    exact mq_iret hQ C X hr rfl hlk (tkP_no x hR vfx.rf (Bool.eq_false_iff.mpr (fun z => absurd ((okVa1_c hf6 hW hb0 hRP.2.2.2.2.2.1 hnv).mp z).1 (fun y => c6 (by rw [y]; rfl))))) (by omega) (by omega) d_Reader_takeSetting_58
  · skip
    refine lv_aload_n hx hb d_Reader_takeSetting_49 rfl (lv_at hl 4 rfl) ?_
    refine lv_lload_n hx hb d_Reader_takeSetting_50 rfl (lv_at hl 3 rfl) ?_
    refine mv_bi X (mv_rV (rest := []) (As := [.long (cNa f en bg cw 1)]) gt_good C X k_5_116 (cm_Reader_isFreeForValue hE hJ x hcE hR hnv hns hnp hnc) (x.get (i := 6) (j := 0) h60) rfl rfl ⟨Nat.le_of_ble_eq_true rfl, Nat.le_of_ble_eq_true rfl⟩ rfl hl.1 rfl (Nat.le_of_ble_eq_true rfl) d_Reader_takeSetting_51 ⟨Nat.zero_le _, Nat.zero_le _⟩) (fun r7 hN H locs hp X => ?_)
    obtain ⟨eh, er⟩ := hp
    replace eh := eh.symm
    subst eh
    refine lv_if_ne (tgt := 59) hx hb d_Reader_takeSetting_54 (by decide) (fun c8 => ?_) (fun c8 => ?_)
    · skip
      have er0 := er
      refine lv_iload_n hx hb d_Reader_takeSetting_59 rfl (lv_at hl 2 rfl) ?_
      refine lv_ldc (v := (-1000000)) hx hb C.1.2.2.2.1 (C.1.2.2.2.2 _ (gt_3 155 (by decide +kernel) rfl)) d_Reader_takeSetting_60 ?_
      refine lv_icmp_eq (tgt := 79) hx hb d_Reader_takeSetting_62 (by decide) (fun c9 => ?_) (fun c9 => ?_)
      · skip
        refine lv_iconst (v := 0) hx hb d_Reader_takeSetting_79 (by decide) ?_
        exact mq_iret hQ C X hr rfl hlk (tkP_no x hR vfx.rf (Bool.eq_false_iff.mpr (fun z => absurd c9 ((okVa1_c hf6 hW hb0 hRP.2.2.2.2.2.1 hnv).mp z).2.2.1.1))) (by omega) (by omega) d_Reader_takeSetting_80
      · skip
        refine lv_iload hx hb d_Reader_takeSetting_65 (lv_at hl 1 rfl) ?_
        refine lv_ldc (v := (-1000000)) hx hb C.1.2.2.2.1 (C.1.2.2.2.2 _ (gt_3 155 (by decide +kernel) rfl)) d_Reader_takeSetting_67 ?_
        refine lv_icmp_eq (tgt := 79) hx hb d_Reader_takeSetting_69 (by decide) (fun c10 => ?_) (fun c10 => ?_)
        · skip
          refine lv_iconst (v := 0) hx hb d_Reader_takeSetting_79 (by decide) ?_
          exact mq_iret hQ C X hr rfl hlk (tkP_no x hR vfx.rf (Bool.eq_false_iff.mpr (fun z => absurd c10 ((okVa1_c hf6 hW hb0 hRP.2.2.2.2.2.1 hnv).mp z).2.2.1.2.1))) (by omega) (by omega) d_Reader_takeSetting_80
        · skip
          refine lv_iload hx hb d_Reader_takeSetting_72 (lv_at hl 0 rfl) ?_
          refine lv_ldc (v := (-1000000)) hx hb C.1.2.2.2.1 (C.1.2.2.2.2 _ (gt_3 155 (by decide +kernel) rfl)) d_Reader_takeSetting_74 ?_
          refine lv_icmp_ne (tgt := 81) hx hb d_Reader_takeSetting_76 (by decide) (fun c11 => ?_) (fun c11 => ?_)
          · skip
            refine lv_iload hx hb d_Reader_takeSetting_81 (lv_at hl 0 rfl) ?_
            refine lv_iload_n hx hb d_Reader_takeSetting_83 rfl (lv_at hl 2 rfl) ?_
            refine lv_icmp_lt (tgt := 94) hx hb d_Reader_takeSetting_84 (by decide) (fun c12 => ?_) (fun c12 => ?_)
            · skip
              refine lv_iconst (v := 0) hx hb d_Reader_takeSetting_94 (by decide) ?_
              exact mq_iret hQ C X hr rfl hlk (tkP_no x hR vfx.rf (Bool.eq_false_iff.mpr (fun z => absurd (Int32.lt_iff_toInt_lt.mp c12) (Int.not_lt.mpr ((okVa1_c hf6 hW hb0 hRP.2.2.2.2.2.1 hnv).mp z).2.2.2.1)))) (by omega) (by omega) d_Reader_takeSetting_95
            · skip
              refine lv_iload hx hb d_Reader_takeSetting_87 (lv_at hl 0 rfl) ?_
              refine lv_iload hx hb d_Reader_takeSetting_89 (lv_at hl 1 rfl) ?_
              refine lv_icmp_le (tgt := 96) hx hb d_Reader_takeSetting_91 (by decide) (fun c13 => ?_) (fun c13 => ?_)
              · skip
                refine lv_aload_n hx hb d_Reader_takeSetting_96 rfl (lv_at hl 4 rfl) ?_
                refine mv_get C X (x.get (i := 6) (j := 0) h60) 0 f_5_12_5 (v := .ref (ad 2 0)) rfl d_Reader_takeSetting_97 ?_
                refine mv_get C X (x.get (i := 2) (j := 0) h20) 0 f_5_120_4 (v := .ref (ad 3 0)) rfl d_Reader_takeSetting_100 ?_
                refine mv_new C X n_5_124 (by show 0 + 1 ≤ 2; omega) (by show 0 + 6 ≤ (16 + 2 * nv); omega) d_Reader_takeSetting_103 (fun q14 H z_q14 w_q14 X => ?_)
                have n_t_q14 : t ≠ q14 := vnf kt z_q14
                have n_tv_q14 : tv ≠ q14 := vnf ktv z_q14
                have n__ad_2_0__q14 : (ad 2 0) ≠ q14 := vnf (x.get (i := 2) (j := 0) h20) z_q14
                have n__ad_6_0__q14 : (ad 6 0) ≠ q14 := vnf (x.get (i := 6) (j := 0) h60) z_q14
                have n__ad_7_0__q14 : (ad 7 0) ≠ q14 := vnf (x.get (i := 7) (j := 0) h70) z_q14
                have n__ad_7_1__q14 : (ad 7 1) ≠ q14 := vnf (x.get (i := 7) (j := 1) h71) z_q14
                have n__ad_7_2__q14 : (ad 7 2) ≠ q14 := vnf (x.get (i := 7) (j := 2) h72) z_q14
                have X : vO S0 D vcl (vup h0 q14 (.inr (8, [.long 0, .int 0, .long 0, .long 0, .long 0, .int 0]))) s H locs := X
                change W _ _ _ _ _ _ _ _ _ _ _ _ (0 + 1) (0 + 6) _ _
                refine lv_dup hx hb d_Reader_takeSetting_106 rfl ?_
                refine lv_lload_n hx hb d_Reader_takeSetting_107 rfl (lv_at hl 3 rfl) ?_
                refine lv_iload_n hx hb d_Reader_takeSetting_108 rfl (lv_at hl 2 rfl) ?_
                refine lv_i2l (v := ((cNi f en bg cw 2) : Int32).toInt64) hx hb d_Reader_takeSetting_109 rfl ?_
                refine lv_iload hx hb d_Reader_takeSetting_110 (lv_at hl 1 rfl) ?_
                refine lv_i2l (v := ((cNi f en bg cw 3) : Int32).toInt64) hx hb d_Reader_takeSetting_112 rfl ?_
                refine lv_iload hx hb d_Reader_takeSetting_113 (lv_at hl 0 rfl) ?_
                refine lv_i2l (v := ((cNi f en bg cw 4) : Int32).toInt64) hx hb d_Reader_takeSetting_115 rfl ?_
                refine mv_bv X (mv_rI (rest := [.ref q14, .ref (ad 3 0)]) (As := [.long (cNa f en bg cw 1), .long (((cNi f en bg cw 2) : Int32).toInt64), .long (((cNi f en bg cw 3) : Int32).toInt64), .long (((cNi f en bg cw 4) : Int32).toInt64)]) gt_good C X k_5_139 (cm_Value_init4 hE (vup_s _ _ _) w_q14) ⟨Nat.le_of_ble_eq_true rfl, Nat.le_of_ble_eq_true rfl⟩ rfl hl.1 rfl (Nat.le_of_ble_eq_true rfl) d_Reader_takeSetting_116 ⟨by show (0 + 1) + 0 ≤ 2; omega, by show (0 + 6) + 0 ≤ (16 + 2 * nv); omega⟩) (fun hN H locs hp X => ?_)
                replace hp := hp.symm
                subst hp
                rw [vup_u] at X
                have X : vO S0 D vcl (vup h0 q14 (.inr (8, [.long (cNa f en bg cw 1), .int 1, .long (((cNi f en bg cw 2) : Int32).toInt64), .long (((cNi f en bg cw 3) : Int32).toInt64), .long (((cNi f en bg cw 4) : Int32).toInt64), .int 1]))) s H locs := X
                have x2 : LR S0.heap.size hcv h0 ad L (vup h0 q14 (.inr (8, [.long (cNa f en bg cw 1), .int 1, .long (((cNi f en bg cw 2) : Int32).toInt64), .long (((cNi f en bg cw 3) : Int32).toInt64), .long (((cNi f en bg cw 4) : Int32).toInt64), .int 1]))) (lput ad 10 nv q14) (lput L 10 nv (some (.inr (8, [.long (cNa f en bg cw 1), .int 1, .long (((cNi f en bg cw 2) : Int32).toInt64), .long (((cNi f en bg cw 3) : Int32).toInt64), .long (((cNi f en bg cw 4) : Int32).toInt64), .int 1])))) := (LR.of x).new 10 nv z_q14 w_q14
                obtain ⟨fE, hcE2⟩ := hcE
                have hr2 : rLst dT dE (lput ad 10 nv q14) (lput L 10 nv (some (.inr (8, [.long (cNa f en bg cw 1), .int 1, .long (((cNi f en bg cw 2) : Int32).toInt64), .long (((cNi f en bg cw 3) : Int32).toInt64), .long (((cNi f en bg cw 4) : Int32).toInt64), .int 1])))) 3 30 0 nv (ad 10) := hRP.1.1.kept rfl rfl rfl (fun _ _ => rfl)
                obtain ⟨ea, cap, fl, md, hL2, hfl, hLL, hea⟩ := hr2.hp x2.1 hcE2
                have hel : elO (vup h0 q14 (.inr (8, [.long (cNa f en bg cw 1), .int 1, .long (((cNi f en bg cw 2) : Int32).toInt64), .long (((cNi f en bg cw 3) : Int32).toInt64), .long (((cNi f en bg cw 4) : Int32).toInt64), .int 1]))) fl nv := elO_of hfl (fun k hk => ⟨8, _, (vup_n _ _ (vnf (x.get (hRP.1.2 k hk)) z_q14)).trans (x.get (hRP.1.2 k hk)), Or.inl rfl⟩)
                refine mv_bi X (mv_rV (rest := []) (As := [.ref q14]) gt_good C X k_5_129 (cm_AL_add_8 hE hJ hL2 hel (vup_s _ _ _)) hL2.1 rfl rfl ⟨Nat.le_of_ble_eq_true rfl, Nat.le_of_ble_eq_true rfl⟩ rfl hl.1 rfl (Nat.le_of_ble_eq_true rfl) d_Reader_takeSetting_119 ⟨by show ((0 + 1) + 0) + 1 ≤ 2; omega, by show ((0 + 6) + 0) + (10 + 2 * nv) ≤ (16 + 2 * nv); omega⟩) (fun r16 hN H locs hp X => ?_)
                obtain ⟨er, hadd⟩ := hp
                subst er
                obtain ⟨bq, e1, e2, x3, kx⟩ := lst_add x2 (by decide) hLL hea hL2.2.2.1 hL2.2.2.2.1.2 (by omega) (x.1 _ _ hcE2).1 hfl hadd
                refine lv_pop hx hb d_Reader_takeSetting_122 rfl ?_
                refine lv_iconst (v := 1) hx hb d_Reader_takeSetting_123 (by decide) ?_
                exact mq_iret hQ C X hr rfl hlk (by
                    have hfr := bI_n (fun z => c8 (er0.trans z))
                    rw [Bool.and_eq_true, Bool.and_eq_true, decide_eq_true_iff, decide_eq_true_iff, decide_eq_true_iff] at hfr
                    have hcw : cw = 5 := nI_eqI (b := 5) (by have := hW.1; omega) (by decide) c6
                    obtain ⟨-, hnm, eNa⟩ := cNa_lt hfr.1
                    have hwi := wP_in (f := f) hb0 1
                    have hti := nT_in f hwi.2
                    have g2 : cNi f en bg cw 2 ≠ -1000000 := c9
                    have g3 : cNi f en bg cw 3 ≠ -1000000 := c10
                    have g4 : cNi f en bg cw 4 ≠ -1000000 := c11
                    have l1 := Int.not_lt.mp (fun y => c12 (Int32.lt_iff_toInt_lt.mpr y))
                    have l2 := Int32.le_iff_toInt_le.mp c13
                    have q2 := (cNi_lt g2).2.2.2.1
                    have q3 := (cNi_lt g3).2.2.2.1
                    have q4 := (cNi_lt g4).2.2.2.1
                    subst hf6
                    have ev : eVal (nmL (A 6) (nF (A 6) en (wP (A 6) en bg 1)) (nT (A 6) en (wP (A 6) en bg 1))) 1 (if (1 : Int32) = 0 then -999999 else vNu (A 6) en (nT (A 6) en (wP (A 6) en bg 1))) (if (1 : Int32) = 0 then 999999 else vNu (A 6) en (nT2 (A 6) en (wP (A 6) en bg 1))) (if (1 : Int32) = 0 then 0 else vNu (A 6) en (nT3 (A 6) en (wP (A 6) en bg 1))) 1 = eVal (cNa (A 6) en bg cw 1) 1 (cNi (A 6) en bg cw 2).toInt64 (cNi (A 6) en bg cw 3).toInt64 (cNi (A 6) en bg cw 4).toInt64 1 := by
                      rw [if_neg (by decide), if_neg (by decide), if_neg (by decide), ← q2, ← q3, ← q4, eNa]; rfl
                    have r2 := RP_va (p1 := 1) (e := en) (T := wP (A 6) en bg 1) (q := q14) (b := bq) (e1 := e1) (e2 := e2) hRP hnv hnm (by omega) (by omega) (by rw [ev]; exact x3.2) kx
                    rw [ev] at r2
                    exact ⟨_, _, x3, fun i => ⟨fun hi => by rw [lput_k _ _ (kK_n hi (n := 30) (by decide)), lput_k _ _ (kK_n hi (n := 3) (by decide)), lput_k _ _ (kK_n hi (n := 10) (by decide))], fun hi => by rw [lput_k _ _ (kA_n hi (n := 30) (by decide)), lput_k _ _ (kA_n hi (n := 10) (by decide))]⟩, Or.inl ⟨(okVa1_c rfl hW hb0 hRP.2.2.2.2.2.1 hnv).mpr ⟨hcw, hfr, ⟨g2, g3, g4⟩, l1, l2⟩, rfl, pf, cb, ce, cs, c0, r2, h20, h60⟩⟩) (by omega) (by omega) d_Reader_takeSetting_124
              · skip
                refine lv_iconst (v := 0) hx hb d_Reader_takeSetting_94 (by decide) ?_
                exact mq_iret hQ C X hr rfl hlk (tkP_no x hR vfx.rf (Bool.eq_false_iff.mpr (fun z => absurd (Int32.le_iff_toInt_le.mpr ((okVa1_c hf6 hW hb0 hRP.2.2.2.2.2.1 hnv).mp z).2.2.2.2) c13))) (by omega) (by omega) d_Reader_takeSetting_95
          · skip
            refine lv_iconst (v := 0) hx hb d_Reader_takeSetting_79 (by decide) ?_
            exact mq_iret hQ C X hr rfl hlk (tkP_no x hR vfx.rf (Bool.eq_false_iff.mpr (fun z => absurd c11 ((okVa1_c hf6 hW hb0 hRP.2.2.2.2.2.1 hnv).mp z).2.2.1.2.2))) (by omega) (by omega) d_Reader_takeSetting_80
    · skip
      refine lv_iconst (v := 0) hx hb d_Reader_takeSetting_57 (by decide) ?_
      exact mq_iret hQ C X hr rfl hlk (tkP_no x hR vfx.rf (Bool.eq_false_iff.mpr (fun z => by
          obtain ⟨-, ⟨a1, a2, a3⟩, -⟩ := ((okVa1_c hf6 hW hb0 hRP.2.2.2.2.2.1 hnv).mp z)
          rw [decide_eq_true a1, decide_eq_true a2, decide_eq_true a3] at er
          exact absurd (er.symm.trans c8) (by decide)))) (by omega) (by omega) d_Reader_takeSetting_58
theorem d_Reader_takeBar_0 : decode prog_6_method_15_code 0 = .ok (.aload_n 0, 1) := by decide +kernel
theorem d_Reader_takeBar_1 : decode prog_6_method_15_code 1 = .ok (.getfield 21, 3) := by decide +kernel
theorem d_Reader_takeBar_4 : decode prog_6_method_15_code 4 = .ok (.iconst 1, 1) := by decide +kernel
theorem d_Reader_takeBar_5 : decode prog_6_method_15_code 5 = .ok (.invokevirtual 134, 3) := by decide +kernel
theorem d_Reader_takeBar_8 : decode prog_6_method_15_code 8 = .ok (.istore_n 2, 1) := by decide +kernel
theorem d_Reader_takeBar_9 : decode prog_6_method_15_code 9 = .ok (.aload_n 0, 1) := by decide +kernel
theorem d_Reader_takeBar_10 : decode prog_6_method_15_code 10 = .ok (.getfield 21, 3) := by decide +kernel
theorem d_Reader_takeBar_13 : decode prog_6_method_15_code 13 = .ok (.invokevirtual 47, 3) := by decide +kernel
theorem d_Reader_takeBar_16 : decode prog_6_method_15_code 16 = .ok (.iconst 2, 1) := by decide +kernel
theorem d_Reader_takeBar_17 : decode prog_6_method_15_code 17 = .ok (.if_icmp .ne 14, 3) := by decide +kernel
theorem d_Reader_takeBar_20 : decode prog_6_method_15_code 20 = .ok (.iload_n 2, 1) := by decide +kernel
theorem d_Reader_takeBar_21 : decode prog_6_method_15_code 21 = .ok (.ifCond .lt 10, 3) := by decide +kernel
theorem d_Reader_takeBar_24 : decode prog_6_method_15_code 24 = .ok (.iload_n 2, 1) := by decide +kernel
theorem d_Reader_takeBar_25 : decode prog_6_method_15_code 25 = .ok (.sipush 999, 3) := by decide +kernel
theorem d_Reader_takeBar_28 : decode prog_6_method_15_code 28 = .ok (.if_icmp .le 5, 3) := by decide +kernel
theorem d_Reader_takeBar_31 : decode prog_6_method_15_code 31 = .ok (.iconst 0, 1) := by decide +kernel
theorem d_Reader_takeBar_32 : decode prog_6_method_15_code 32 = .ok (.ireturn, 1) := by decide +kernel
theorem d_Reader_takeBar_33 : decode prog_6_method_15_code 33 = .ok (.aload_n 1, 1) := by decide +kernel
theorem d_Reader_takeBar_34 : decode prog_6_method_15_code 34 = .ok (.iload_n 2, 1) := by decide +kernel
theorem d_Reader_takeBar_35 : decode prog_6_method_15_code 35 = .ok (.putfield 204, 3) := by decide +kernel
theorem d_Reader_takeBar_38 : decode prog_6_method_15_code 38 = .ok (.iconst 1, 1) := by decide +kernel
theorem d_Reader_takeBar_39 : decode prog_6_method_15_code 39 = .ok (.ireturn, 1) := by decide +kernel
set_option maxRecDepth 100000 in
set_option maxHeartbeats 4000000 in
theorem cm_Reader_takeBar {l : Launch} {S0 : State} {b : Nat} {D : va_G} {dT : Nat → ClassId} (hE : vEnv S0 b D dT) {dE mO : Nat} (hJ : vJ S0 dE mO) {h0 : vH} {hcv : vH} {ad : Nat → Nat → Nat} {L : vL} {rc : Int32} {A : Nat → Nat → Int32} {B : Nat → Nat → Int64} {nv ns np nc : Nat} {pf cb ce cs : Nat → Nat} {c0 : Nat} (x : LH S0.heap.size hcv h0 ad L) (hcE : ∃ fE, hcv dE = some (aR dT 0 fE)) (hR : PR dT dE h0 ad L A B nv ns np nc pf cb ce cs c0 rc) (hnv : nv ≤ 40) (hns : ns ≤ 30) (hnp : np ≤ 600) (hnc : nc ≤ 600) {f : Nat → Int32} {N en bg cw : Nat} (hT : PT dT S0.heap.size h0 ad L f N en bg cw) (hf6 : A 6 = f) (hns0 : 0 < ns) : vMi l S0 D vcl GT y_Reader_takeBar prog_6_method_15_code 3 (some .boolean) 5 112 0 0 [.ref (ad 6 0), .ref (ad 11 (ns - 1))] h0 (fun r h' => tkP dT dE S0.heap.size hcv h0 ad L rc A B nv ns np nc pf cb ce cs c0 (cNu (A 6) en (wP f en bg 1) 0 999 && cEnd (A 6) en (nT (A 6) en (wP f en bg 1))) (A) (va_up B 24 (vp_updL (B 24) ns (vNu (A 6) en (wP f en bg 1)))) nv ns np nc r h') := by
  unfold vMi
  refine vM_ofQ hE.1 (by decide) (Nat.le_of_ble_eq_true rfl) (fun p e s m args below meth c ls Q hQ C hr hlk hnm X hl => ?_)
  have C : vC p s m _ c _ _ "MenuScreens$Reader" GT D vcl (vty dT) := C
  have hx := C.1.1
  have hb := C.1.2.1
  obtain ⟨H, eH⟩ : ∃ z, z = s.heap := ⟨_, rfl⟩
  obtain ⟨locs, elocs⟩ : ∃ z : List Loc, z = [] := ⟨_, rfl⟩
  rw [← eH, ← elocs] at X
  rw [← eH, ← elocs]
  clear eH elocs
  have hl : lv_has ls 3 [(0, .ref (ad 6 0)), (1, .ref (ad 11 (ns - 1)))] := hl
  have hR0 := hR
  obtain ⟨hRP, h20, h60⟩ := hR0
  obtain ⟨t, tv, z2, z3, f8, fs, fe, ⟨kt, ot⟩, ⟨ktv, otv⟩, wtv, h70, h71, h72, hW, hb0, he, hN, hg⟩ := hT
  obtain ⟨hS, hps, ⟨gk, hkn, hgk⟩, -, -⟩ := hRP.2.1.2 (ns - 1) (by omega)
  have en1 : ns - 1 + 1 = ns := by omega
  rw [en1] at hS hgk
  refine lv_aload_n hx hb d_Reader_takeBar_0 rfl (lv_at hl 0 rfl) ?_
  refine mv_get C X (x.get (i := 6) (j := 0) h60) 1 f_5_21_5 (v := .ref (ad 7 0)) rfl d_Reader_takeBar_1 ?_
  refine lv_iconst (v := 1) hx hb d_Reader_takeBar_4 (by decide) ?_
  refine mv_bi X (mv_rV (rest := []) (As := [.int 1]) gt_good C X k_5_134 (cm_Line_numberAt hE hJ hW hb0 he hN hg (j := 1) (by decide) (x.get (i := 7) (j := 0) h70) (x.get (i := 7) (j := 1) h71) (x.get (i := 7) (j := 2) h72) kt ktv) (x.get (i := 7) (j := 0) h70) rfl rfl ⟨Nat.le_of_ble_eq_true rfl, Nat.le_of_ble_eq_true rfl⟩ rfl hl.1 rfl (Nat.le_of_ble_eq_true rfl) d_Reader_takeBar_5 ⟨Nat.zero_le _, Nat.zero_le _⟩) (fun r1 hN H locs hp X => ?_)
  obtain ⟨eh, er⟩ := hp
  replace eh := eh.symm
  replace er := er.symm
  subst eh er
  refine lv_istore_n (lv' := [(2, .int (cNi f en bg cw 1)), (0, .ref (ad 6 0)), (1, .ref (ad 11 (ns - 1)))]) hx hb d_Reader_takeBar_8 rfl hl (by decide) rfl (fun ls hl => ?_)
  refine lv_aload_n hx hb d_Reader_takeBar_9 rfl (lv_at hl 1 rfl) ?_
  refine mv_get C X (x.get (i := 6) (j := 0) h60) 1 f_5_21_5 (v := .ref (ad 7 0)) rfl d_Reader_takeBar_10 ?_
  refine mv_bi X (mv_rV (rest := []) (As := []) gt_good C X k_5_47 (cm_Line_wordCount hE (x.get (i := 7) (j := 0) h70)) (x.get (i := 7) (j := 0) h70) rfl rfl ⟨Nat.le_of_ble_eq_true rfl, Nat.le_of_ble_eq_true rfl⟩ rfl hl.1 rfl (Nat.le_of_ble_eq_true rfl) d_Reader_takeBar_13 ⟨Nat.zero_le _, Nat.zero_le _⟩) (fun r2 hN H locs hp X => ?_)
  obtain ⟨eh, er⟩ := hp
  replace eh := eh.symm
  replace er := er.symm
  subst eh er
  refine lv_iconst (v := 2) hx hb d_Reader_takeBar_16 (by decide) ?_
  refine lv_icmp_ne (tgt := 31) hx hb d_Reader_takeBar_17 (by decide) (fun c3 => ?_) (fun c3 => ?_)
  · skip
    refine lv_iconst (v := 0) hx hb d_Reader_takeBar_31 (by decide) ?_
    exact mq_iret hQ C X hr rfl hlk (tkP_no x hR vfx.rf (Bool.eq_false_iff.mpr (fun z => absurd ((okBa_c hf6 hW hb0).mp z).1 (fun y => c3 (by rw [y]; rfl))))) (by omega) (by omega) d_Reader_takeBar_32
  · skip
    refine lv_iload_n hx hb d_Reader_takeBar_20 rfl (lv_at hl 0 rfl) ?_
    refine lv_if_lt (tgt := 31) hx hb d_Reader_takeBar_21 (by decide) (fun c4 => ?_) (fun c4 => ?_)
    · skip
      refine lv_iconst (v := 0) hx hb d_Reader_takeBar_31 (by decide) ?_
      exact mq_iret hQ C X hr rfl hlk (tkP_no x hR vfx.rf (Bool.eq_false_iff.mpr (fun z => absurd (Int32.lt_iff_toInt_lt.mp c4) (Int.not_lt.mpr ((okBa_c hf6 hW hb0).mp z).2.1)))) (by omega) (by omega) d_Reader_takeBar_32
    · skip
      refine lv_iload_n hx hb d_Reader_takeBar_24 rfl (lv_at hl 0 rfl) ?_
      refine lv_sipush (v := 999) hx hb d_Reader_takeBar_25 (by decide) ?_
      refine lv_icmp_le (tgt := 33) hx hb d_Reader_takeBar_28 (by decide) (fun c5 => ?_) (fun c5 => ?_)
      · skip
        refine lv_aload_n hx hb d_Reader_takeBar_33 rfl (lv_at hl 2 rfl) ?_
        refine lv_iload_n hx hb d_Reader_takeBar_34 rfl (lv_at hl 0 rfl) ?_
        refine mv_put C X (x.get (i := 11) (j := (ns - 1)) hS) (x.wr (i := 11) (j := (ns - 1)) hS) 5 p_5_204_9 rfl rfl (Nat.le_of_ble_eq_true rfl) d_Reader_takeBar_35 (fun H locs X => ?_)
        have X : vO S0 D vcl (vup h0 (ad 11 (ns - 1)) (.inr (9, [.long (nmV A 21 22 ns), .int (A 23 ns), .ref (ad 12 (ns - 1)), .ref (ad 14 (ns - 1)), .ref (ad 15 (ns - 1)), .int (cNi f en bg cw 1), .int (bI false)]))) s H locs := X
        refine lv_iconst (v := 1) hx hb d_Reader_takeBar_38 (by decide) ?_
        exact mq_iret hQ C X hr rfl hlk (by
            have hcw : cw = 2 := nI_eqI (b := 2) (by have := hW.1; omega) (by decide) c3
            have l1 := i32_0 c4
            have l2 : (cNi f en bg cw 1).toInt ≤ 999 := Int32.le_iff_toInt_le.mp c5
            have g1 : cNi f en bg cw 1 ≠ -1000000 := fun z => by rw [z] at l1; exact absurd l1 (by decide)
            have q1 := (cNi_lt g1).2.2.2
            have x3 := (LR.of x).put (e' := .inr (9, [.long (nmV A 21 22 ns), .int (A 23 ns), .ref (ad 12 (ns - 1)), .ref (ad 14 (ns - 1)), .ref (ad 15 (ns - 1)), .int (cNi f en bg cw 1), .int (bI false)])) hS
            subst hf6
            have r2 := RP_ba (v := vNu (A 6) en (wP (A 6) en bg 1)) hRP hns0 (by rw [q1.1, Int32.toInt_toInt64]; exact l1) (by rw [q1.1, Int32.toInt_toInt64]; exact l2) (by rw [q1.2]) x3.2
            exact ⟨_, _, x3, fun i => ⟨fun hi => lput_k _ _ (kK_n hi (n := 11) (by decide)), fun hi => rfl⟩, Or.inl ⟨(okBa_c rfl hW hb0).mpr ⟨hcw, l1, l2⟩, rfl, pf, cb, ce, cs, c0, r2, h20, h60⟩⟩) (by omega) (by omega) d_Reader_takeBar_39
      · skip
        refine lv_iconst (v := 0) hx hb d_Reader_takeBar_31 (by decide) ?_
        exact mq_iret hQ C X hr rfl hlk (tkP_no x hR vfx.rf (Bool.eq_false_iff.mpr (fun z => absurd (Int32.le_iff_toInt_le.mpr ((okBa_c hf6 hW hb0).mp z).2.2) c5))) (by omega) (by omega) d_Reader_takeBar_32
theorem d_Reader_takeKey_0 : decode prog_6_method_14_code 0 = .ok (.aload_n 0, 1) := by decide +kernel
theorem d_Reader_takeKey_1 : decode prog_6_method_14_code 1 = .ok (.getfield 21, 3) := by decide +kernel
theorem d_Reader_takeKey_4 : decode prog_6_method_14_code 4 = .ok (.iconst 1, 1) := by decide +kernel
theorem d_Reader_takeKey_5 : decode prog_6_method_14_code 5 = .ok (.invokevirtual 134, 3) := by decide +kernel
theorem d_Reader_takeKey_8 : decode prog_6_method_14_code 8 = .ok (.istore_n 2, 1) := by decide +kernel
theorem d_Reader_takeKey_9 : decode prog_6_method_14_code 9 = .ok (.aload_n 0, 1) := by decide +kernel
theorem d_Reader_takeKey_10 : decode prog_6_method_14_code 10 = .ok (.getfield 21, 3) := by decide +kernel
theorem d_Reader_takeKey_13 : decode prog_6_method_14_code 13 = .ok (.iconst 2, 1) := by decide +kernel
theorem d_Reader_takeKey_14 : decode prog_6_method_14_code 14 = .ok (.invokevirtual 112, 3) := by decide +kernel
theorem d_Reader_takeKey_17 : decode prog_6_method_14_code 17 = .ok (.lstore_n 3, 1) := by decide +kernel
theorem d_Reader_takeKey_18 : decode prog_6_method_14_code 18 = .ok (.aload_n 0, 1) := by decide +kernel
theorem d_Reader_takeKey_19 : decode prog_6_method_14_code 19 = .ok (.getfield 21, 3) := by decide +kernel
theorem d_Reader_takeKey_22 : decode prog_6_method_14_code 22 = .ok (.invokevirtual 47, 3) := by decide +kernel
theorem d_Reader_takeKey_25 : decode prog_6_method_14_code 25 = .ok (.iconst 3, 1) := by decide +kernel
theorem d_Reader_takeKey_26 : decode prog_6_method_14_code 26 = .ok (.if_icmp .ne 20, 3) := by decide +kernel
theorem d_Reader_takeKey_29 : decode prog_6_method_14_code 29 = .ok (.iload_n 2, 1) := by decide +kernel
theorem d_Reader_takeKey_30 : decode prog_6_method_14_code 30 = .ok (.iconst 1, 1) := by decide +kernel
theorem d_Reader_takeKey_31 : decode prog_6_method_14_code 31 = .ok (.if_icmp .lt 15, 3) := by decide +kernel
theorem d_Reader_takeKey_34 : decode prog_6_method_14_code 34 = .ok (.iload_n 2, 1) := by decide +kernel
theorem d_Reader_takeKey_35 : decode prog_6_method_14_code 35 = .ok (.bipush 9, 2) := by decide +kernel
theorem d_Reader_takeKey_37 : decode prog_6_method_14_code 37 = .ok (.if_icmp .gt 9, 3) := by decide +kernel
theorem d_Reader_takeKey_40 : decode prog_6_method_14_code 40 = .ok (.lload_n 3, 1) := by decide +kernel
theorem d_Reader_takeKey_41 : decode prog_6_method_14_code 41 = .ok (.lconst 0, 1) := by decide +kernel
theorem d_Reader_takeKey_42 : decode prog_6_method_14_code 42 = .ok (.lcmp, 1) := by decide +kernel
theorem d_Reader_takeKey_43 : decode prog_6_method_14_code 43 = .ok (.ifCond .ne 5, 3) := by decide +kernel
theorem d_Reader_takeKey_46 : decode prog_6_method_14_code 46 = .ok (.iconst 0, 1) := by decide +kernel
theorem d_Reader_takeKey_47 : decode prog_6_method_14_code 47 = .ok (.ireturn, 1) := by decide +kernel
theorem d_Reader_takeKey_48 : decode prog_6_method_14_code 48 = .ok (.aload_n 1, 1) := by decide +kernel
theorem d_Reader_takeKey_49 : decode prog_6_method_14_code 49 = .ok (.getfield 200, 3) := by decide +kernel
theorem d_Reader_takeKey_52 : decode prog_6_method_14_code 52 = .ok (.iload_n 2, 1) := by decide +kernel
theorem d_Reader_takeKey_53 : decode prog_6_method_14_code 53 = .ok (.laload, 1) := by decide +kernel
theorem d_Reader_takeKey_54 : decode prog_6_method_14_code 54 = .ok (.lconst 0, 1) := by decide +kernel
theorem d_Reader_takeKey_55 : decode prog_6_method_14_code 55 = .ok (.lcmp, 1) := by decide +kernel
theorem d_Reader_takeKey_56 : decode prog_6_method_14_code 56 = .ok (.ifCond .eq 5, 3) := by decide +kernel
theorem d_Reader_takeKey_59 : decode prog_6_method_14_code 59 = .ok (.iconst 0, 1) := by decide +kernel
theorem d_Reader_takeKey_60 : decode prog_6_method_14_code 60 = .ok (.ireturn, 1) := by decide +kernel
theorem d_Reader_takeKey_61 : decode prog_6_method_14_code 61 = .ok (.aload_n 1, 1) := by decide +kernel
theorem d_Reader_takeKey_62 : decode prog_6_method_14_code 62 = .ok (.getfield 200, 3) := by decide +kernel
theorem d_Reader_takeKey_65 : decode prog_6_method_14_code 65 = .ok (.iload_n 2, 1) := by decide +kernel
theorem d_Reader_takeKey_66 : decode prog_6_method_14_code 66 = .ok (.lload_n 3, 1) := by decide +kernel
theorem d_Reader_takeKey_67 : decode prog_6_method_14_code 67 = .ok (.lastore, 1) := by decide +kernel
theorem d_Reader_takeKey_68 : decode prog_6_method_14_code 68 = .ok (.iconst 1, 1) := by decide +kernel
theorem d_Reader_takeKey_69 : decode prog_6_method_14_code 69 = .ok (.ireturn, 1) := by decide +kernel
set_option maxRecDepth 100000 in
set_option maxHeartbeats 4000000 in
theorem cm_Reader_takeKey {l : Launch} {S0 : State} {b : Nat} {D : va_G} {dT : Nat → ClassId} (hE : vEnv S0 b D dT) {dE mO : Nat} (hJ : vJ S0 dE mO) {h0 : vH} {hcv : vH} {ad : Nat → Nat → Nat} {L : vL} {rc : Int32} {A : Nat → Nat → Int32} {B : Nat → Nat → Int64} {nv ns np nc : Nat} {pf cb ce cs : Nat → Nat} {c0 : Nat} (x : LH S0.heap.size hcv h0 ad L) (hcE : ∃ fE, hcv dE = some (aR dT 0 fE)) (hR : PR dT dE h0 ad L A B nv ns np nc pf cb ce cs c0 rc) (hnv : nv ≤ 40) (hns : ns ≤ 30) (hnp : np ≤ 600) (hnc : nc ≤ 600) {f : Nat → Int32} {N en bg cw : Nat} (hT : PT dT S0.heap.size h0 ad L f N en bg cw) (hf6 : A 6 = f) (hns0 : 0 < ns) : vMi l S0 D vcl GT y_Reader_takeKey prog_6_method_14_code 5 (some .boolean) 5 112 0 0 [.ref (ad 6 0), .ref (ad 11 (ns - 1))] h0 (fun r h' => tkP dT dE S0.heap.size hcv h0 ad L rc A B nv ns np nc pf cb ce cs c0 (okKe A en (wP f en bg 1) ns) (keA A en (wP f en bg 1) ns) (B) nv ns np nc r h') := by
  unfold vMi
  refine vM_ofQ hE.1 (by decide) (Nat.le_of_ble_eq_true rfl) (fun p e s m args below meth c ls Q hQ C hr hlk hnm X hl => ?_)
  have C : vC p s m _ c _ _ "MenuScreens$Reader" GT D vcl (vty dT) := C
  have hx := C.1.1
  have hb := C.1.2.1
  obtain ⟨H, eH⟩ : ∃ z, z = s.heap := ⟨_, rfl⟩
  obtain ⟨locs, elocs⟩ : ∃ z : List Loc, z = [] := ⟨_, rfl⟩
  rw [← eH, ← elocs] at X
  rw [← eH, ← elocs]
  clear eH elocs
  have hl : lv_has ls 5 [(0, .ref (ad 6 0)), (1, .ref (ad 11 (ns - 1)))] := hl
  have hR0 := hR
  obtain ⟨hRP, h20, h60⟩ := hR0
  obtain ⟨t, tv, z2, z3, f8, fs, fe, ⟨kt, ot⟩, ⟨ktv, otv⟩, wtv, h70, h71, h72, hW, hb0, he, hN, hg⟩ := hT
  obtain ⟨hS, hps, ⟨gk, hkn, hgk⟩, -, -⟩ := hRP.2.1.2 (ns - 1) (by omega)
  have en1 : ns - 1 + 1 = ns := by omega
  rw [en1] at hS hgk
  refine lv_aload_n hx hb d_Reader_takeKey_0 rfl (lv_at hl 0 rfl) ?_
  refine mv_get C X (x.get (i := 6) (j := 0) h60) 1 f_5_21_5 (v := .ref (ad 7 0)) rfl d_Reader_takeKey_1 ?_
  refine lv_iconst (v := 1) hx hb d_Reader_takeKey_4 (by decide) ?_
  refine mv_bi X (mv_rV (rest := []) (As := [.int 1]) gt_good C X k_5_134 (cm_Line_numberAt hE hJ hW hb0 he hN hg (j := 1) (by decide) (x.get (i := 7) (j := 0) h70) (x.get (i := 7) (j := 1) h71) (x.get (i := 7) (j := 2) h72) kt ktv) (x.get (i := 7) (j := 0) h70) rfl rfl ⟨Nat.le_of_ble_eq_true rfl, Nat.le_of_ble_eq_true rfl⟩ rfl hl.1 rfl (Nat.le_of_ble_eq_true rfl) d_Reader_takeKey_5 ⟨Nat.zero_le _, Nat.zero_le _⟩) (fun r1 hN H locs hp X => ?_)
  obtain ⟨eh, er⟩ := hp
  replace eh := eh.symm
  replace er := er.symm
  subst eh er
  refine lv_istore_n (lv' := [(2, .int (cNi f en bg cw 1)), (0, .ref (ad 6 0)), (1, .ref (ad 11 (ns - 1)))]) hx hb d_Reader_takeKey_8 rfl hl (by decide) rfl (fun ls hl => ?_)
  refine lv_aload_n hx hb d_Reader_takeKey_9 rfl (lv_at hl 1 rfl) ?_
  refine mv_get C X (x.get (i := 6) (j := 0) h60) 1 f_5_21_5 (v := .ref (ad 7 0)) rfl d_Reader_takeKey_10 ?_
  refine lv_iconst (v := 2) hx hb d_Reader_takeKey_13 (by decide) ?_
  refine mv_bl X (mv_rV (rest := []) (As := [.int 2]) gt_good C X k_5_112 (cm_Line_nameAt hE hJ hW hb0 he hN hg (j := 2) (by decide) (x.get (i := 7) (j := 0) h70) (x.get (i := 7) (j := 1) h71) (x.get (i := 7) (j := 2) h72) kt ktv) (x.get (i := 7) (j := 0) h70) rfl rfl ⟨Nat.le_of_ble_eq_true rfl, Nat.le_of_ble_eq_true rfl⟩ rfl hl.1 rfl (Nat.le_of_ble_eq_true rfl) d_Reader_takeKey_14 ⟨Nat.zero_le _, Nat.zero_le _⟩) (fun r2 hN H locs hp X => ?_)
  obtain ⟨eh, er⟩ := hp
  replace eh := eh.symm
  replace er := er.symm
  subst eh er
  refine lv_lstore_n (lv' := [(3, .long (cNa f en bg cw 2)), (2, .int (cNi f en bg cw 1)), (0, .ref (ad 6 0)), (1, .ref (ad 11 (ns - 1)))]) hx hb d_Reader_takeKey_17 rfl hl (by decide) rfl (fun ls hl => ?_)
  refine lv_aload_n hx hb d_Reader_takeKey_18 rfl (lv_at hl 2 rfl) ?_
  refine mv_get C X (x.get (i := 6) (j := 0) h60) 1 f_5_21_5 (v := .ref (ad 7 0)) rfl d_Reader_takeKey_19 ?_
  refine mv_bi X (mv_rV (rest := []) (As := []) gt_good C X k_5_47 (cm_Line_wordCount hE (x.get (i := 7) (j := 0) h70)) (x.get (i := 7) (j := 0) h70) rfl rfl ⟨Nat.le_of_ble_eq_true rfl, Nat.le_of_ble_eq_true rfl⟩ rfl hl.1 rfl (Nat.le_of_ble_eq_true rfl) d_Reader_takeKey_22 ⟨Nat.zero_le _, Nat.zero_le _⟩) (fun r3 hN H locs hp X => ?_)
  obtain ⟨eh, er⟩ := hp
  replace eh := eh.symm
  replace er := er.symm
  subst eh er
  refine lv_iconst (v := 3) hx hb d_Reader_takeKey_25 (by decide) ?_
  refine lv_icmp_ne (tgt := 46) hx hb d_Reader_takeKey_26 (by decide) (fun c4 => ?_) (fun c4 => ?_)
  · skip
    refine lv_iconst (v := 0) hx hb d_Reader_takeKey_46 (by decide) ?_
    exact mq_iret hQ C X hr rfl hlk (tkP_no x hR vfx.rf (Bool.eq_false_iff.mpr (fun z => absurd ((okKe_c hf6 hW hb0).mp z).1 (fun y => c4 (by rw [y]; rfl))))) (by omega) (by omega) d_Reader_takeKey_47
  · skip
    refine lv_iload_n hx hb d_Reader_takeKey_29 rfl (lv_at hl 1 rfl) ?_
    refine lv_iconst (v := 1) hx hb d_Reader_takeKey_30 (by decide) ?_
    refine lv_icmp_lt (tgt := 46) hx hb d_Reader_takeKey_31 (by decide) (fun c5 => ?_) (fun c5 => ?_)
    · skip
      refine lv_iconst (v := 0) hx hb d_Reader_takeKey_46 (by decide) ?_
      exact mq_iret hQ C X hr rfl hlk (tkP_no x hR vfx.rf (Bool.eq_false_iff.mpr (fun z => absurd (Int32.lt_iff_toInt_lt.mp c5) (Int.not_lt.mpr ((okKe_c hf6 hW hb0).mp z).2.1.1)))) (by omega) (by omega) d_Reader_takeKey_47
    · skip
      refine lv_iload_n hx hb d_Reader_takeKey_34 rfl (lv_at hl 1 rfl) ?_
      refine lv_bipush (v := 9) hx hb d_Reader_takeKey_35 (by decide) ?_
      refine lv_icmp_gt (tgt := 46) hx hb d_Reader_takeKey_37 (by decide) (fun c6 => ?_) (fun c6 => ?_)
      · skip
        refine lv_iconst (v := 0) hx hb d_Reader_takeKey_46 (by decide) ?_
        exact mq_iret hQ C X hr rfl hlk (tkP_no x hR vfx.rf (Bool.eq_false_iff.mpr (fun z => absurd (Int32.lt_iff_toInt_lt.mp c6) (Int.not_lt.mpr ((okKe_c hf6 hW hb0).mp z).2.1.2)))) (by omega) (by omega) d_Reader_takeKey_47
      · skip
        refine lv_lload_n hx hb d_Reader_takeKey_40 rfl (lv_at hl 0 rfl) ?_
        refine lv_lconst (v := 0) hx hb d_Reader_takeKey_41 (by decide) ?_
        refine W.lcmp hx hb d_Reader_takeKey_42 ?_
        refine lv_if_ne (tgt := 48) hx hb d_Reader_takeKey_43 (by decide) (fun c7 => ?_) (fun c7 => ?_)
        · skip
          obtain ⟨K, hK1, hK2, eK⟩ := ix_le1 (n := 9) c5 (Int32.not_lt.mp c6) (by decide)
          refine lv_aload_n hx hb d_Reader_takeKey_48 rfl (lv_at hl 3 rfl) ?_
          refine mv_get C X (x.get (i := 11) (j := (ns - 1)) hS) 3 f_5_200_9 (v := .ref (ad 14 (ns - 1))) rfl d_Reader_takeKey_49 ?_
          refine lv_iload_n hx hb d_Reader_takeKey_52 rfl (lv_at hl 1 rfl) ?_
          refine mv_lald C X (x.get (i := 14) (j := (ns - 1)) hkn) 1 rfl K eK (by omega) (by decide) d_Reader_takeKey_53 ?_
          refine lv_lconst (v := 0) hx hb d_Reader_takeKey_54 (by decide) ?_
          refine W.lcmp hx hb d_Reader_takeKey_55 ?_
          refine lv_if_eq (tgt := 61) hx hb d_Reader_takeKey_56 (by decide) (fun c8 => ?_) (fun c8 => ?_)
          · skip
            refine lv_aload_n hx hb d_Reader_takeKey_61 rfl (lv_at hl 3 rfl) ?_
            refine mv_get C X (x.get (i := 11) (j := (ns - 1)) hS) 3 f_5_200_9 (v := .ref (ad 14 (ns - 1))) rfl d_Reader_takeKey_62 ?_
            refine lv_iload_n hx hb d_Reader_takeKey_65 rfl (lv_at hl 1 rfl) ?_
            refine lv_lload_n hx hb d_Reader_takeKey_66 rfl (lv_at hl 0 rfl) ?_
            refine mv_last C X (x.get (i := 14) (j := (ns - 1)) hkn) (x.wr (i := 14) (j := (ns - 1)) hkn) 1 rfl K eK (by omega) (by omega) d_Reader_takeKey_67 (fun H locs X => ?_)
            have X : vO S0 D vcl (vup h0 (ad 14 (ns - 1)) (.inl (dT 1, 10, .inr (.inl (vp_updL gk K (cNa f en bg cw 2)))))) s H locs := X
            refine lv_iconst (v := 1) hx hb d_Reader_takeKey_68 (by decide) ?_
            exact mq_iret hQ C X hr rfl hlk (by
                have hcw : cw = 3 := nI_eqI (b := 3) (by have := hW.1; omega) (by decide) c4
                have l1 : 1 ≤ (cNi f en bg cw 1).toInt := Int.not_lt.mp (fun y => c5 (Int32.lt_iff_toInt_lt.mpr y))
                have l2 : (cNi f en bg cw 1).toInt ≤ 9 := Int.not_lt.mp (fun y => c6 (Int32.lt_iff_toInt_lt.mpr y))
                have g1 : cNi f en bg cw 1 ≠ -1000000 := fun z => by rw [z] at l1; exact absurd l1 (by decide)
                have q1 := (cNi_lt g1).2.2.2.2
                have n2 : cNa f en bg cw 2 ≠ 0 := fun z => c7 ((lg_cmp_eq _ _).mpr z)
                obtain ⟨-, hnm, eNa⟩ := cNa_lt n2
                have g27 : A 27 (10 * ns + (cNi f en bg cw 1).toNatClampNeg) ≤ 0 := by
                  rw [eK, nI_clamp (by omega), a27_le hRP.2.2.2.2.2 (by omega) (by omega), ← kyV_0 hRP.2.2.2.2.2 (by omega) (by omega), ← hgk K hK1 hK2]
                  exact (lg_cmp_eq _ _).mp c8
                have hwi := wP_in (f := f) hb0 3
                have x3 := (LR.of x).put (e' := .inl (dT 1, 10, .inr (.inl (vp_updL gk K (cNa f en bg cw 2))))) hkn
                subst hf6
                have r2 := RP_ke (e := en) (T := wP (A 6) en bg 1) (K := K) hRP hns0 (by rw [← eK]; exact q1) hK1 hK2 hnm (by have := hwi.2; exact Nat.le_trans this (by omega)) hkn (by rw [eNa]; rfl) x3.2
                exact ⟨_, _, x3, fun i => ⟨fun hi => lput_k _ _ (kK_n hi (n := 14) (by decide)), fun hi => rfl⟩, Or.inl ⟨(okKe_c rfl hW hb0).mpr ⟨hcw, ⟨l1, l2⟩, n2, g27⟩, rfl, pf, cb, ce, cs, c0, r2, h20, h60⟩⟩) (by omega) (by omega) d_Reader_takeKey_69
          · skip
            refine lv_iconst (v := 0) hx hb d_Reader_takeKey_59 (by decide) ?_
            exact mq_iret hQ C X hr rfl hlk (tkP_no x hR vfx.rf (Bool.eq_false_iff.mpr (fun z => by
                have y := ((okKe_c hf6 hW hb0).mp z).2.2.2
                rw [eK, nI_clamp (by omega), a27_le hRP.2.2.2.2.2 (by omega) (by omega), ← kyV_0 hRP.2.2.2.2.2 (by omega) (by omega), ← hgk K hK1 hK2] at y
                exact c8 ((lg_cmp_eq _ _).mpr y)))) (by omega) (by omega) d_Reader_takeKey_60
        · skip
          refine lv_iconst (v := 0) hx hb d_Reader_takeKey_46 (by decide) ?_
          exact mq_iret hQ C X hr rfl hlk (tkP_no x hR vfx.rf (Bool.eq_false_iff.mpr (fun z => absurd ((lg_cmp_eq _ _).mp c7) ((okKe_c hf6 hW hb0).mp z).2.2.1))) (by omega) (by omega) d_Reader_takeKey_47
