theorem d_law2_162 : decode code 162 = .ok (.aload_n 1, 1) := by decide +kernel
theorem d_law2_163 : decode code 163 = .ok (.aload_n 0, 1) := by decide +kernel
theorem d_law2_164 : decode code 164 = .ok (.iload_n 3, 1) := by decide +kernel
theorem d_law2_165 : decode code 165 = .ok (.iconst 1, 1) := by decide +kernel
theorem d_law2_166 : decode code 166 = .ok (.iadd, 1) := by decide +kernel
theorem d_law2_167 : decode code 167 = .ok (.iaload, 1) := by decide +kernel
theorem d_law2_168 : decode code 168 = .ok (.aload_n 0, 1) := by decide +kernel
theorem d_law2_169 : decode code 169 = .ok (.iload_n 3, 1) := by decide +kernel
theorem d_law2_170 : decode code 170 = .ok (.iconst 2, 1) := by decide +kernel
theorem d_law2_171 : decode code 171 = .ok (.iadd, 1) := by decide +kernel
theorem d_law2_172 : decode code 172 = .ok (.iaload, 1) := by decide +kernel
theorem d_law2_173 : decode code 173 = .ok (.i2l, 1) := by decide +kernel
theorem d_law2_174 : decode code 174 = .ok (.bipush 32, 2) := by decide +kernel
theorem d_law2_176 : decode code 176 = .ok (.lshl, 1) := by decide +kernel
theorem d_law2_177 : decode code 177 = .ok (.aload_n 0, 1) := by decide +kernel
theorem d_law2_178 : decode code 178 = .ok (.iload_n 3, 1) := by decide +kernel
theorem d_law2_179 : decode code 179 = .ok (.iconst 3, 1) := by decide +kernel
theorem d_law2_180 : decode code 180 = .ok (.iadd, 1) := by decide +kernel
theorem d_law2_181 : decode code 181 = .ok (.iaload, 1) := by decide +kernel
theorem d_law2_182 : decode code 182 = .ok (.i2l, 1) := by decide +kernel
theorem d_law2_183 : decode code 183 = .ok (.ldc2_w 31, 3) := by decide +kernel
theorem d_law2_186 : decode code 186 = .ok (.land, 1) := by decide +kernel
theorem d_law2_187 : decode code 187 = .ok (.lor, 1) := by decide +kernel
theorem d_law2_188 : decode code 188 = .ok (.aload_n 0, 1) := by decide +kernel
theorem d_law2_189 : decode code 189 = .ok (.iload_n 3, 1) := by decide +kernel
theorem d_law2_190 : decode code 190 = .ok (.iconst 4, 1) := by decide +kernel
theorem d_law2_191 : decode code 191 = .ok (.iadd, 1) := by decide +kernel
theorem d_law2_192 : decode code 192 = .ok (.iaload, 1) := by decide +kernel
theorem d_law2_193 : decode code 193 = .ok (.ifCond .eq 7, 3) := by decide +kernel
theorem d_law2_196 : decode code 196 = .ok (.iconst 1, 1) := by decide +kernel
theorem d_law2_197 : decode code 197 = .ok (.goto 4, 3) := by decide +kernel
theorem d_law2_200 : decode code 200 = .ok (.iconst 0, 1) := by decide +kernel
theorem d_law2_201 : decode code 201 = .ok (.invokevirtual 33, 3) := by decide +kernel
theorem d_law2_204 : decode code 204 = .ok (.aload_n 2, 1) := by decide +kernel
theorem d_law2_205 : decode code 205 = .ok (.aload_n 0, 1) := by decide +kernel
theorem d_law2_206 : decode code 206 = .ok (.iload_n 3, 1) := by decide +kernel
theorem d_law2_207 : decode code 207 = .ok (.iconst 1, 1) := by decide +kernel
theorem d_law2_208 : decode code 208 = .ok (.iadd, 1) := by decide +kernel
theorem d_law2_209 : decode code 209 = .ok (.iaload, 1) := by decide +kernel
theorem d_law2_210 : decode code 210 = .ok (.aload_n 0, 1) := by decide +kernel
theorem d_law2_211 : decode code 211 = .ok (.iload_n 3, 1) := by decide +kernel
theorem d_law2_212 : decode code 212 = .ok (.iconst 2, 1) := by decide +kernel
theorem d_law2_213 : decode code 213 = .ok (.iadd, 1) := by decide +kernel
theorem d_law2_214 : decode code 214 = .ok (.iaload, 1) := by decide +kernel
theorem d_law2_215 : decode code 215 = .ok (.i2l, 1) := by decide +kernel
theorem d_law2_216 : decode code 216 = .ok (.bipush 32, 2) := by decide +kernel
theorem d_law2_218 : decode code 218 = .ok (.lshl, 1) := by decide +kernel
theorem d_law2_219 : decode code 219 = .ok (.aload_n 0, 1) := by decide +kernel
theorem d_law2_220 : decode code 220 = .ok (.iload_n 3, 1) := by decide +kernel
theorem d_law2_221 : decode code 221 = .ok (.iconst 3, 1) := by decide +kernel
theorem d_law2_222 : decode code 222 = .ok (.iadd, 1) := by decide +kernel
theorem d_law2_223 : decode code 223 = .ok (.iaload, 1) := by decide +kernel
theorem d_law2_224 : decode code 224 = .ok (.i2l, 1) := by decide +kernel
theorem d_law2_225 : decode code 225 = .ok (.ldc2_w 31, 3) := by decide +kernel
theorem d_law2_228 : decode code 228 = .ok (.land, 1) := by decide +kernel
theorem d_law2_229 : decode code 229 = .ok (.lor, 1) := by decide +kernel
theorem d_law2_230 : decode code 230 = .ok (.aload_n 0, 1) := by decide +kernel
theorem d_law2_231 : decode code 231 = .ok (.iload_n 3, 1) := by decide +kernel
theorem d_law2_232 : decode code 232 = .ok (.iconst 4, 1) := by decide +kernel
theorem d_law2_233 : decode code 233 = .ok (.iadd, 1) := by decide +kernel
theorem d_law2_234 : decode code 234 = .ok (.iaload, 1) := by decide +kernel
theorem d_law2_235 : decode code 235 = .ok (.ifCond .eq 7, 3) := by decide +kernel
theorem d_law2_238 : decode code 238 = .ok (.iconst 1, 1) := by decide +kernel
theorem d_law2_239 : decode code 239 = .ok (.goto 4, 3) := by decide +kernel
theorem d_law2_242 : decode code 242 = .ok (.iconst 0, 1) := by decide +kernel
theorem d_law2_243 : decode code 243 = .ok (.invokevirtual 37, 3) := by decide +kernel
theorem d_law2_246 : decode code 246 = .ok (.if_icmp .eq 508, 3) := by decide +kernel
set_option maxRecDepth 100000 in
set_option maxHeartbeats 4000000 in
theorem lw_value {p : Program} {l : Launch} {e : Env} {S0 s : State} {m : MethodId} {args : Array Value} {below : List Frame} {meth : Method} {c : Code} {H : Heap} {locs : List Loc} {Q : State → Prop} {ls : Array Slot} {b n : Nat} {D : va_G} {dT : Nat → ClassId} {dE mO : Nat} {hcv h : vH} {xs : Nat → Int32} {ad : Nat → Nat → Nat} {L : vL} {cap : Nat} {x : Nat → Int32} {y : Nat → Int64} {A : Nat → Nat → Int32} {B : Nat → Nat → Int64} {k i0 cu su : Nat} (hE : vEnv S0 b D dT) (hJ : vJ S0 dE mO) (hcE : ∃ fE, hcv dE = some (aR dT 0 fE)) (C : vC p s m args c code 4 "MenuScreensLaw" GT D vcl (vty dT)) (hsc : hcv b = some (.inl (dT 0, n, .inl xs))) (hn9 : n ≤ 2562) (hk9 : k ≤ 511) (hi9 : i0 + 5 ≤ n) (I : lwI S0.heap.size dT dE hcv h ad L cap x y A B k cu su) (X : vO S0 D vcl h s H locs) (hl : lv_has ls 4 [(0, .ref b), (1, .ref (ad 0 0)), (2, .ref (ad 50 0)), (3, .int (nI i0))]) (K : ∀ (h' : vH) (ad' : Nat → Nat → Nat) (L' : vL) (cap' : Nat) (x' : Nat → Int32) (y' : Nat → Int64) (A' : Nat → Nat → Int32) (B' : Nat → Nat → Int64) (cu' su' : Nat) (H' : Heap) (locs' : List Loc) (ls' : Array Slot), ad' 0 0 = ad 0 0 → ad' 50 0 = ad 50 0 → lwI S0.heap.size dT dE hcv h' ad' L' cap' x' y' A' B' (k + 1) cu' su' → vO S0 D vcl h' s H' locs' → lv_has ls' 4 [(0, .ref b), (1, .ref (ad 0 0)), (2, .ref (ad 50 0)), (3, .int (nI i0))] → W p l e room_1 s m args below meth c H' locs' cu' su' Q (F0 m 754 ls' [])) : W p l e room_1 s m args below meth c H locs cu su Q (F0 m 162 ls []) := by
  have hx := C.1.1
  have hb := C.1.2.1
  obtain ⟨xl, hC, hM, ⟨n0, e30, hn4, hnc, hcap, hcu, hsu⟩, me, ce0, hme, hce, hme2, hce2⟩ := id I
  obtain ⟨⟨sp, bl, hTop, -⟩, -⟩ := id hC
  have hTop2 : L 0 0 = some (.inr (3, [.int (x 1), .int (x 2), .ref (ad 1 0), .ref (ad 6 0), .ref (ad 2 0), .ref (ad 8 0), .int (x 45), .int sp, .int (x 46), .int bl, .int (x 55), .long (y 56), .long (y 57)])) := hTop
  have hu1 : cu ≤ 18500 := by omega
  have hu2 : su ≤ 2600000 := by omega
  obtain ⟨-, -, -, ⟨n50, e50, hWr⟩, ⟨nr, e48, hPl⟩, -, -, ⟨nv, ns, np, nc, pf, cb, ce, cs, c0, lh, hnum, ⟨pr, e45, hpr1, hpr2⟩, hRP, hTx, hrn⟩, hkey, hsm⟩ := id hC
  refine lv_aload_n hx hb d_law2_162 rfl (lv_at hl 1 rfl) ?_
  refine lv_aload_n hx hb d_law2_163 rfl (lv_at hl 0 rfl) ?_
  refine lv_iload_n hx hb d_law2_164 rfl (lv_at hl 3 rfl) ?_
  refine lv_iconst (v := 1) hx hb d_law2_165 (by decide) ?_
  refine lv_iadd hx hb d_law2_166 ?_
  refine mv_iald C X (xl.old hsc) 0 rfl (i0 + 1) (nI_add i0 1) (by omega) (by omega) d_law2_167 ?_
  refine lv_aload_n hx hb d_law2_168 rfl (lv_at hl 0 rfl) ?_
  refine lv_iload_n hx hb d_law2_169 rfl (lv_at hl 3 rfl) ?_
  refine lv_iconst (v := 2) hx hb d_law2_170 (by decide) ?_
  refine lv_iadd hx hb d_law2_171 ?_
  refine mv_iald C X (xl.old hsc) 0 rfl (i0 + 2) (nI_add i0 2) (by omega) (by omega) d_law2_172 ?_
  refine lv_i2l (v := ((xs (i0 + 2)) : Int32).toInt64) hx hb d_law2_173 rfl ?_
  refine lv_bipush (v := 32) hx hb d_law2_174 (by decide) ?_
  refine lv_lshl (v := ((((xs (i0 + 2)) : Int32).toInt64) <<< ((32 : Int32).toInt64 &&& 63))) hx hb d_law2_176 rfl ?_
  refine lv_aload_n hx hb d_law2_177 rfl (lv_at hl 0 rfl) ?_
  refine lv_iload_n hx hb d_law2_178 rfl (lv_at hl 3 rfl) ?_
  refine lv_iconst (v := 3) hx hb d_law2_179 (by decide) ?_
  refine lv_iadd hx hb d_law2_180 ?_
  refine mv_iald C X (xl.old hsc) 0 rfl (i0 + 3) (nI_add i0 3) (by omega) (by omega) d_law2_181 ?_
  refine lv_i2l (v := ((xs (i0 + 3)) : Int32).toInt64) hx hb d_law2_182 rfl ?_
  refine lv_ldc2 (v := 4294967295) hx hb C.1.2.2.2.1 (C.1.2.2.2.2 _ (gt_6 138 (by decide +kernel) rfl)) d_law2_183 ?_
  refine lv_land hx hb d_law2_186 ?_
  refine lv_lor hx hb d_law2_187 ?_
  refine lv_aload_n hx hb d_law2_188 rfl (lv_at hl 0 rfl) ?_
  refine lv_iload_n hx hb d_law2_189 rfl (lv_at hl 3 rfl) ?_
  refine lv_iconst (v := 4) hx hb d_law2_190 (by decide) ?_
  refine lv_iadd hx hb d_law2_191 ?_
  refine mv_iald C X (xl.old hsc) 0 rfl (i0 + 4) (nI_add i0 4) (by omega) (by omega) d_law2_192 ?_
  refine lv_if_eq (tgt := 200) hx hb d_law2_193 (by decide) (fun c1 => ?_) (fun c1 => ?_)
  · skip
    refine lv_iconst (v := 0) hx hb d_law2_200 (by decide) ?_
    refine mv_bi X (mv_rV (rest := []) (As := [.int (xs (i0 + 1)), .long (((((xs (i0 + 2)) : Int32).toInt64) <<< ((32 : Int32).toInt64 &&& 63)) ||| ((((xs (i0 + 3)) : Int32).toInt64) &&& 4294967295)), .int 0]) gt_good C X k_11_33 (cm_MenuScreens_value hE hJ xl hC hcE rfl rfl) (xl.get (i := 0) (j := 0) hTop2) rfl rfl ⟨Nat.le_of_ble_eq_true rfl, Nat.le_of_ble_eq_true rfl⟩ rfl hl.1 rfl (Nat.le_of_ble_eq_true rfl) d_law2_201 ⟨by show cu + 0 ≤ 600000; omega, by show su + 0 ≤ 7302250; omega⟩) (fun r2 hN H locs hp X => ?_)
    obtain ⟨ad1, L1, q1, kp1, hst⟩ := hp
    have M1 := lw_mid hM q1 kp1
    refine lv_aload_n hx hb d_law2_204 rfl (lv_at hl 2 rfl) ?_
    refine lv_aload_n hx hb d_law2_205 rfl (lv_at hl 0 rfl) ?_
    refine lv_iload_n hx hb d_law2_206 rfl (lv_at hl 3 rfl) ?_
    refine lv_iconst (v := 1) hx hb d_law2_207 (by decide) ?_
    refine lv_iadd hx hb d_law2_208 ?_
    refine mv_iald C X (q1.1.old hsc) 0 rfl (i0 + 1) (nI_add i0 1) (by omega) (by omega) d_law2_209 ?_
    refine lv_aload_n hx hb d_law2_210 rfl (lv_at hl 0 rfl) ?_
    refine lv_iload_n hx hb d_law2_211 rfl (lv_at hl 3 rfl) ?_
    refine lv_iconst (v := 2) hx hb d_law2_212 (by decide) ?_
    refine lv_iadd hx hb d_law2_213 ?_
    refine mv_iald C X (q1.1.old hsc) 0 rfl (i0 + 2) (nI_add i0 2) (by omega) (by omega) d_law2_214 ?_
    refine lv_i2l (v := ((xs (i0 + 2)) : Int32).toInt64) hx hb d_law2_215 rfl ?_
    refine lv_bipush (v := 32) hx hb d_law2_216 (by decide) ?_
    refine lv_lshl (v := ((((xs (i0 + 2)) : Int32).toInt64) <<< ((32 : Int32).toInt64 &&& 63))) hx hb d_law2_218 rfl ?_
    refine lv_aload_n hx hb d_law2_219 rfl (lv_at hl 0 rfl) ?_
    refine lv_iload_n hx hb d_law2_220 rfl (lv_at hl 3 rfl) ?_
    refine lv_iconst (v := 3) hx hb d_law2_221 (by decide) ?_
    refine lv_iadd hx hb d_law2_222 ?_
    refine mv_iald C X (q1.1.old hsc) 0 rfl (i0 + 3) (nI_add i0 3) (by omega) (by omega) d_law2_223 ?_
    refine lv_i2l (v := ((xs (i0 + 3)) : Int32).toInt64) hx hb d_law2_224 rfl ?_
    refine lv_ldc2 (v := 4294967295) hx hb C.1.2.2.2.1 (C.1.2.2.2.2 _ (gt_6 138 (by decide +kernel) rfl)) d_law2_225 ?_
    refine lv_land hx hb d_law2_228 ?_
    refine lv_lor hx hb d_law2_229 ?_
    refine lv_aload_n hx hb d_law2_230 rfl (lv_at hl 0 rfl) ?_
    refine lv_iload_n hx hb d_law2_231 rfl (lv_at hl 3 rfl) ?_
    refine lv_iconst (v := 4) hx hb d_law2_232 (by decide) ?_
    refine lv_iadd hx hb d_law2_233 ?_
    refine mv_iald C X (q1.1.old hsc) 0 rfl (i0 + 4) (nI_add i0 4) (by omega) (by omega) d_law2_234 ?_
    refine lv_if_eq (tgt := 242) hx hb d_law2_235 (by decide) (fun c3 => ?_) (fun z => absurd c1 z)
    refine lv_iconst (v := 0) hx hb d_law2_242 (by decide) ?_
    refine mv_bi X (mv_rV (rest := [.int r2]) (As := [.int (xs (i0 + 1)), .long (((((xs (i0 + 2)) : Int32).toInt64) <<< ((32 : Int32).toInt64 &&& 63)) ||| ((((xs (i0 + 3)) : Int32).toInt64) &&& 4294967295)), .int 0]) gt_good C X k_11_37 (cm_MenuScreensModel_value hE M1 _ _ _ hnum.1 hnum.2.1 rfl) M1.1 rfl rfl ⟨Nat.le_of_ble_eq_true rfl, Nat.le_of_ble_eq_true rfl⟩ rfl hl.1 rfl (Nat.le_of_ble_eq_true rfl) d_law2_243 ⟨by show (cu + 0) + 0 ≤ 600000; omega, by show (su + 0) + 0 ≤ 7302250; omega⟩) (fun r4 hN H locs hp X => ?_)
    obtain ⟨x', y', A', B', M2, hs1, hs2, hs⟩ := hp
    obtain ⟨er, hC2⟩ := hst _ x' y' A' B' ⟨hs1, hs2, nv, hnum.1, hnum.2.1, hs⟩
    obtain ⟨L2, hz⟩ := lw_end hM q1 kp1 M2 hC2
    refine lv_icmp_eq (tgt := 754) hx hb d_law2_246 (by decide) (fun c5 => ?_) (fun z => absurd er z)
    exact K _ _ _ _ _ _ _ _ _ _ _ _ _ kp1.2 (congrFun (kp1.1 50 (by decide)).2 0) (I.nx hz (by rw [hs1]; rfl) (by rw [hs2]) (by rw [hs2])) X (lv_sub hl [0, 1, 2, 3] rfl)
  · skip
    refine lv_iconst (v := 1) hx hb d_law2_196 (by decide) ?_
    refine lv_goto (tgt := 201) hx hb d_law2_197 (by decide) ?_
    refine mv_bi X (mv_rV (rest := []) (As := [.int (xs (i0 + 1)), .long (((((xs (i0 + 2)) : Int32).toInt64) <<< ((32 : Int32).toInt64 &&& 63)) ||| ((((xs (i0 + 3)) : Int32).toInt64) &&& 4294967295)), .int 1]) gt_good C X k_11_33 (cm_MenuScreens_value hE hJ xl hC hcE rfl rfl) (xl.get (i := 0) (j := 0) hTop2) rfl rfl ⟨Nat.le_of_ble_eq_true rfl, Nat.le_of_ble_eq_true rfl⟩ rfl hl.1 rfl (Nat.le_of_ble_eq_true rfl) d_law2_201 ⟨by show cu + 0 ≤ 600000; omega, by show su + 0 ≤ 7302250; omega⟩) (fun r6 hN H locs hp X => ?_)
    obtain ⟨ad1, L1, q1, kp1, hst⟩ := hp
    have M1 := lw_mid hM q1 kp1
    refine lv_aload_n hx hb d_law2_204 rfl (lv_at hl 2 rfl) ?_
    refine lv_aload_n hx hb d_law2_205 rfl (lv_at hl 0 rfl) ?_
    refine lv_iload_n hx hb d_law2_206 rfl (lv_at hl 3 rfl) ?_
    refine lv_iconst (v := 1) hx hb d_law2_207 (by decide) ?_
    refine lv_iadd hx hb d_law2_208 ?_
    refine mv_iald C X (q1.1.old hsc) 0 rfl (i0 + 1) (nI_add i0 1) (by omega) (by omega) d_law2_209 ?_
    refine lv_aload_n hx hb d_law2_210 rfl (lv_at hl 0 rfl) ?_
    refine lv_iload_n hx hb d_law2_211 rfl (lv_at hl 3 rfl) ?_
    refine lv_iconst (v := 2) hx hb d_law2_212 (by decide) ?_
    refine lv_iadd hx hb d_law2_213 ?_
    refine mv_iald C X (q1.1.old hsc) 0 rfl (i0 + 2) (nI_add i0 2) (by omega) (by omega) d_law2_214 ?_
    refine lv_i2l (v := ((xs (i0 + 2)) : Int32).toInt64) hx hb d_law2_215 rfl ?_
    refine lv_bipush (v := 32) hx hb d_law2_216 (by decide) ?_
    refine lv_lshl (v := ((((xs (i0 + 2)) : Int32).toInt64) <<< ((32 : Int32).toInt64 &&& 63))) hx hb d_law2_218 rfl ?_
    refine lv_aload_n hx hb d_law2_219 rfl (lv_at hl 0 rfl) ?_
    refine lv_iload_n hx hb d_law2_220 rfl (lv_at hl 3 rfl) ?_
    refine lv_iconst (v := 3) hx hb d_law2_221 (by decide) ?_
    refine lv_iadd hx hb d_law2_222 ?_
    refine mv_iald C X (q1.1.old hsc) 0 rfl (i0 + 3) (nI_add i0 3) (by omega) (by omega) d_law2_223 ?_
    refine lv_i2l (v := ((xs (i0 + 3)) : Int32).toInt64) hx hb d_law2_224 rfl ?_
    refine lv_ldc2 (v := 4294967295) hx hb C.1.2.2.2.1 (C.1.2.2.2.2 _ (gt_6 138 (by decide +kernel) rfl)) d_law2_225 ?_
    refine lv_land hx hb d_law2_228 ?_
    refine lv_lor hx hb d_law2_229 ?_
    refine lv_aload_n hx hb d_law2_230 rfl (lv_at hl 0 rfl) ?_
    refine lv_iload_n hx hb d_law2_231 rfl (lv_at hl 3 rfl) ?_
    refine lv_iconst (v := 4) hx hb d_law2_232 (by decide) ?_
    refine lv_iadd hx hb d_law2_233 ?_
    refine mv_iald C X (q1.1.old hsc) 0 rfl (i0 + 4) (nI_add i0 4) (by omega) (by omega) d_law2_234 ?_
    refine lv_if_eq (tgt := 242) hx hb d_law2_235 (by decide) (fun z => absurd z c1) (fun c7 => ?_)
    refine lv_iconst (v := 1) hx hb d_law2_238 (by decide) ?_
    refine lv_goto (tgt := 243) hx hb d_law2_239 (by decide) ?_
    refine mv_bi X (mv_rV (rest := [.int r6]) (As := [.int (xs (i0 + 1)), .long (((((xs (i0 + 2)) : Int32).toInt64) <<< ((32 : Int32).toInt64 &&& 63)) ||| ((((xs (i0 + 3)) : Int32).toInt64) &&& 4294967295)), .int 1]) gt_good C X k_11_37 (cm_MenuScreensModel_value hE M1 _ _ _ hnum.1 hnum.2.1 rfl) M1.1 rfl rfl ⟨Nat.le_of_ble_eq_true rfl, Nat.le_of_ble_eq_true rfl⟩ rfl hl.1 rfl (Nat.le_of_ble_eq_true rfl) d_law2_243 ⟨by show (cu + 0) + 0 ≤ 600000; omega, by show (su + 0) + 0 ≤ 7302250; omega⟩) (fun r8 hN H locs hp X => ?_)
    obtain ⟨x', y', A', B', M2, hs1, hs2, hs⟩ := hp
    obtain ⟨er, hC2⟩ := hst _ x' y' A' B' ⟨hs1, hs2, nv, hnum.1, hnum.2.1, hs⟩
    obtain ⟨L2, hz⟩ := lw_end hM q1 kp1 M2 hC2
    refine lv_icmp_eq (tgt := 754) hx hb d_law2_246 (by decide) (fun c9 => ?_) (fun z => absurd er z)
    exact K _ _ _ _ _ _ _ _ _ _ _ _ _ kp1.2 (congrFun (kp1.1 50 (by decide)).2 0) (I.nx hz (by rw [hs1]; rfl) (by rw [hs2]) (by rw [hs2])) X (lv_sub hl [0, 1, 2, 3] rfl)
theorem d_law4_274 : decode code 274 = .ok (.aload_n 1, 1) := by decide +kernel
theorem d_law4_275 : decode code 275 = .ok (.aload_n 0, 1) := by decide +kernel
theorem d_law4_276 : decode code 276 = .ok (.iload_n 3, 1) := by decide +kernel
theorem d_law4_277 : decode code 277 = .ok (.iconst 1, 1) := by decide +kernel
theorem d_law4_278 : decode code 278 = .ok (.iadd, 1) := by decide +kernel
theorem d_law4_279 : decode code 279 = .ok (.iaload, 1) := by decide +kernel
theorem d_law4_280 : decode code 280 = .ok (.aload_n 0, 1) := by decide +kernel
theorem d_law4_281 : decode code 281 = .ok (.iload_n 3, 1) := by decide +kernel
theorem d_law4_282 : decode code 282 = .ok (.iconst 2, 1) := by decide +kernel
theorem d_law4_283 : decode code 283 = .ok (.iadd, 1) := by decide +kernel
theorem d_law4_284 : decode code 284 = .ok (.iaload, 1) := by decide +kernel
theorem d_law4_285 : decode code 285 = .ok (.invokevirtual 43, 3) := by decide +kernel
theorem d_law4_288 : decode code 288 = .ok (.aload_n 2, 1) := by decide +kernel
theorem d_law4_289 : decode code 289 = .ok (.aload_n 0, 1) := by decide +kernel
theorem d_law4_290 : decode code 290 = .ok (.iload_n 3, 1) := by decide +kernel
theorem d_law4_291 : decode code 291 = .ok (.iconst 1, 1) := by decide +kernel
theorem d_law4_292 : decode code 292 = .ok (.iadd, 1) := by decide +kernel
theorem d_law4_293 : decode code 293 = .ok (.iaload, 1) := by decide +kernel
theorem d_law4_294 : decode code 294 = .ok (.aload_n 0, 1) := by decide +kernel
theorem d_law4_295 : decode code 295 = .ok (.iload_n 3, 1) := by decide +kernel
theorem d_law4_296 : decode code 296 = .ok (.iconst 2, 1) := by decide +kernel
theorem d_law4_297 : decode code 297 = .ok (.iadd, 1) := by decide +kernel
theorem d_law4_298 : decode code 298 = .ok (.iaload, 1) := by decide +kernel
theorem d_law4_299 : decode code 299 = .ok (.invokevirtual 47, 3) := by decide +kernel
theorem d_law4_302 : decode code 302 = .ok (.if_icmp .eq 452, 3) := by decide +kernel
set_option maxRecDepth 100000 in
set_option maxHeartbeats 4000000 in
theorem lw_shown {p : Program} {l : Launch} {e : Env} {S0 s : State} {m : MethodId} {args : Array Value} {below : List Frame} {meth : Method} {c : Code} {H : Heap} {locs : List Loc} {Q : State → Prop} {ls : Array Slot} {b n : Nat} {D : va_G} {dT : Nat → ClassId} {dE mO : Nat} {hcv h : vH} {xs : Nat → Int32} {ad : Nat → Nat → Nat} {L : vL} {cap : Nat} {x : Nat → Int32} {y : Nat → Int64} {A : Nat → Nat → Int32} {B : Nat → Nat → Int64} {k i0 cu su : Nat} (hE : vEnv S0 b D dT) (hJ : vJ S0 dE mO) (hcE : ∃ fE, hcv dE = some (aR dT 0 fE)) (C : vC p s m args c code 4 "MenuScreensLaw" GT D vcl (vty dT)) (hsc : hcv b = some (.inl (dT 0, n, .inl xs))) (hn9 : n ≤ 2562) (hk9 : k ≤ 511) (hi9 : i0 + 5 ≤ n) (I : lwI S0.heap.size dT dE hcv h ad L cap x y A B k cu su) (X : vO S0 D vcl h s H locs) (hl : lv_has ls 4 [(0, .ref b), (1, .ref (ad 0 0)), (2, .ref (ad 50 0)), (3, .int (nI i0))]) (K : ∀ (h' : vH) (ad' : Nat → Nat → Nat) (L' : vL) (cap' : Nat) (x' : Nat → Int32) (y' : Nat → Int64) (A' : Nat → Nat → Int32) (B' : Nat → Nat → Int64) (cu' su' : Nat) (H' : Heap) (locs' : List Loc) (ls' : Array Slot), ad' 0 0 = ad 0 0 → ad' 50 0 = ad 50 0 → lwI S0.heap.size dT dE hcv h' ad' L' cap' x' y' A' B' (k + 1) cu' su' → vO S0 D vcl h' s H' locs' → lv_has ls' 4 [(0, .ref b), (1, .ref (ad 0 0)), (2, .ref (ad 50 0)), (3, .int (nI i0))] → W p l e room_1 s m args below meth c H' locs' cu' su' Q (F0 m 754 ls' [])) : W p l e room_1 s m args below meth c H locs cu su Q (F0 m 274 ls []) := by
  have hx := C.1.1
  have hb := C.1.2.1
  obtain ⟨xl, hC, hM, ⟨n0, e30, hn4, hnc, hcap, hcu, hsu⟩, me, ce0, hme, hce, hme2, hce2⟩ := id I
  obtain ⟨⟨sp, bl, hTop, -⟩, -⟩ := id hC
  have hTop2 : L 0 0 = some (.inr (3, [.int (x 1), .int (x 2), .ref (ad 1 0), .ref (ad 6 0), .ref (ad 2 0), .ref (ad 8 0), .int (x 45), .int sp, .int (x 46), .int bl, .int (x 55), .long (y 56), .long (y 57)])) := hTop
  have hu1 : cu ≤ 18500 := by omega
  have hu2 : su ≤ 2600000 := by omega
  obtain ⟨n5, la, hh, wd0, pr, np, nc, a1, a2, a3, a4, a5, a6, a7, a8, a9, a10⟩ := hC.shw
  refine lv_aload_n hx hb d_law4_274 rfl (lv_at hl 1 rfl) ?_
  refine lv_aload_n hx hb d_law4_275 rfl (lv_at hl 0 rfl) ?_
  refine lv_iload_n hx hb d_law4_276 rfl (lv_at hl 3 rfl) ?_
  refine lv_iconst (v := 1) hx hb d_law4_277 (by decide) ?_
  refine lv_iadd hx hb d_law4_278 ?_
  refine mv_iald C X (xl.old hsc) 0 rfl (i0 + 1) (nI_add i0 1) (by omega) (by omega) d_law4_279 ?_
  refine lv_aload_n hx hb d_law4_280 rfl (lv_at hl 0 rfl) ?_
  refine lv_iload_n hx hb d_law4_281 rfl (lv_at hl 3 rfl) ?_
  refine lv_iconst (v := 2) hx hb d_law4_282 (by decide) ?_
  refine lv_iadd hx hb d_law4_283 ?_
  refine mv_iald C X (xl.old hsc) 0 rfl (i0 + 2) (nI_add i0 2) (by omega) (by omega) d_law4_284 ?_
  refine mv_bi X (mv_rV (rest := []) (As := [.int (xs (i0 + 1)), .int (xs (i0 + 2))]) gt_good C X k_11_43 (cm_MenuScreens_shown hE hJ xl hC hcE) (xl.get (i := 0) (j := 0) hTop2) rfl rfl ⟨Nat.le_of_ble_eq_true rfl, Nat.le_of_ble_eq_true rfl⟩ rfl hl.1 rfl (Nat.le_of_ble_eq_true rfl) d_law4_285 ⟨by show cu + 0 ≤ 600000; omega, by show su + 0 ≤ 7302250; omega⟩) (fun r1 hN H locs hp X => ?_)
  obtain ⟨ad1, L1, q1, kp1, hst⟩ := hp
  have M1 := lw_mid hM q1 kp1
  refine lv_aload_n hx hb d_law4_288 rfl (lv_at hl 2 rfl) ?_
  refine lv_aload_n hx hb d_law4_289 rfl (lv_at hl 0 rfl) ?_
  refine lv_iload_n hx hb d_law4_290 rfl (lv_at hl 3 rfl) ?_
  refine lv_iconst (v := 1) hx hb d_law4_291 (by decide) ?_
  refine lv_iadd hx hb d_law4_292 ?_
  refine mv_iald C X (q1.1.old hsc) 0 rfl (i0 + 1) (nI_add i0 1) (by omega) (by omega) d_law4_293 ?_
  refine lv_aload_n hx hb d_law4_294 rfl (lv_at hl 0 rfl) ?_
  refine lv_iload_n hx hb d_law4_295 rfl (lv_at hl 3 rfl) ?_
  refine lv_iconst (v := 2) hx hb d_law4_296 (by decide) ?_
  refine lv_iadd hx hb d_law4_297 ?_
  refine mv_iald C X (q1.1.old hsc) 0 rfl (i0 + 2) (nI_add i0 2) (by omega) (by omega) d_law4_298 ?_
  refine mv_bi X (mv_rV (rest := [.int r1]) (As := [.int (xs (i0 + 1)), .int (xs (i0 + 2))]) gt_good C X k_11_47 (cm_MenuScreensModel_shown hE M1 _ _ a1.1 a1.2.1 a1.2.2.1 a1.2.2.2 a2 a3 a4.1 a4.2.1 a4.2.2.1 a4.2.2.2.1 a4.2.2.2.2.1 a4.2.2.2.2.2 a5 a6 a7 a8 a9 a10) M1.1 rfl rfl ⟨Nat.le_of_ble_eq_true rfl, Nat.le_of_ble_eq_true rfl⟩ rfl hl.1 rfl (Nat.le_of_ble_eq_true rfl) d_law4_299 ⟨by show (cu + 0) + 0 ≤ 600000; omega, by show (su + 0) + 0 ≤ 7302250; omega⟩) (fun r2 hN H locs hp X => ?_)
  obtain ⟨x', M2, hs1, hs⟩ := hp
  obtain ⟨er, hC2⟩ := hst _ x' y A B ⟨hs1, rfl, rfl, rfl, n5, hh, wd0, pr, np, nc, ⟨a1.1, a1.2.1, a4.1, a4.2.1, a4.2.2.1, a4.2.2.2.1, a4.2.2.2.2.1, a4.2.2.2.2.2, fun q => ⟨a5 q, a8 q, a6, a9⟩⟩, hs⟩
  obtain ⟨L2, hz⟩ := lw_end hM q1 kp1 M2 hC2
  refine lv_icmp_eq (tgt := 754) hx hb d_law4_302 (by decide) (fun c3 => ?_) (fun z => absurd er z)
  exact K _ _ _ _ _ _ _ _ _ _ _ _ _ kp1.2 (congrFun (kp1.1 50 (by decide)).2 0) (I.nx hz (by rw [hs1]; rfl) rfl rfl) X (lv_sub hl [0, 1, 2, 3] rfl)
theorem d_law5_307 : decode code 307 = .ok (.aload_n 1, 1) := by decide +kernel
theorem d_law5_308 : decode code 308 = .ok (.aload_n 0, 1) := by decide +kernel
theorem d_law5_309 : decode code 309 = .ok (.iload_n 3, 1) := by decide +kernel
theorem d_law5_310 : decode code 310 = .ok (.iconst 1, 1) := by decide +kernel
theorem d_law5_311 : decode code 311 = .ok (.iadd, 1) := by decide +kernel
theorem d_law5_312 : decode code 312 = .ok (.iaload, 1) := by decide +kernel
theorem d_law5_313 : decode code 313 = .ok (.aload_n 0, 1) := by decide +kernel
theorem d_law5_314 : decode code 314 = .ok (.iload_n 3, 1) := by decide +kernel
theorem d_law5_315 : decode code 315 = .ok (.iconst 2, 1) := by decide +kernel
theorem d_law5_316 : decode code 316 = .ok (.iadd, 1) := by decide +kernel
theorem d_law5_317 : decode code 317 = .ok (.iaload, 1) := by decide +kernel
theorem d_law5_318 : decode code 318 = .ok (.i2l, 1) := by decide +kernel
theorem d_law5_319 : decode code 319 = .ok (.bipush 32, 2) := by decide +kernel
theorem d_law5_321 : decode code 321 = .ok (.lshl, 1) := by decide +kernel
theorem d_law5_322 : decode code 322 = .ok (.aload_n 0, 1) := by decide +kernel
theorem d_law5_323 : decode code 323 = .ok (.iload_n 3, 1) := by decide +kernel
theorem d_law5_324 : decode code 324 = .ok (.iconst 3, 1) := by decide +kernel
theorem d_law5_325 : decode code 325 = .ok (.iadd, 1) := by decide +kernel
theorem d_law5_326 : decode code 326 = .ok (.iaload, 1) := by decide +kernel
theorem d_law5_327 : decode code 327 = .ok (.i2l, 1) := by decide +kernel
theorem d_law5_328 : decode code 328 = .ok (.ldc2_w 31, 3) := by decide +kernel
theorem d_law5_331 : decode code 331 = .ok (.land, 1) := by decide +kernel
theorem d_law5_332 : decode code 332 = .ok (.lor, 1) := by decide +kernel
theorem d_law5_333 : decode code 333 = .ok (.invokevirtual 48, 3) := by decide +kernel
theorem d_law5_336 : decode code 336 = .ok (.aload_n 2, 1) := by decide +kernel
theorem d_law5_337 : decode code 337 = .ok (.aload_n 0, 1) := by decide +kernel
theorem d_law5_338 : decode code 338 = .ok (.iload_n 3, 1) := by decide +kernel
theorem d_law5_339 : decode code 339 = .ok (.iconst 1, 1) := by decide +kernel
theorem d_law5_340 : decode code 340 = .ok (.iadd, 1) := by decide +kernel
theorem d_law5_341 : decode code 341 = .ok (.iaload, 1) := by decide +kernel
theorem d_law5_342 : decode code 342 = .ok (.aload_n 0, 1) := by decide +kernel
theorem d_law5_343 : decode code 343 = .ok (.iload_n 3, 1) := by decide +kernel
theorem d_law5_344 : decode code 344 = .ok (.iconst 2, 1) := by decide +kernel
theorem d_law5_345 : decode code 345 = .ok (.iadd, 1) := by decide +kernel
theorem d_law5_346 : decode code 346 = .ok (.iaload, 1) := by decide +kernel
theorem d_law5_347 : decode code 347 = .ok (.i2l, 1) := by decide +kernel
theorem d_law5_348 : decode code 348 = .ok (.bipush 32, 2) := by decide +kernel
theorem d_law5_350 : decode code 350 = .ok (.lshl, 1) := by decide +kernel
theorem d_law5_351 : decode code 351 = .ok (.aload_n 0, 1) := by decide +kernel
theorem d_law5_352 : decode code 352 = .ok (.iload_n 3, 1) := by decide +kernel
theorem d_law5_353 : decode code 353 = .ok (.iconst 3, 1) := by decide +kernel
theorem d_law5_354 : decode code 354 = .ok (.iadd, 1) := by decide +kernel
theorem d_law5_355 : decode code 355 = .ok (.iaload, 1) := by decide +kernel
theorem d_law5_356 : decode code 356 = .ok (.i2l, 1) := by decide +kernel
theorem d_law5_357 : decode code 357 = .ok (.ldc2_w 31, 3) := by decide +kernel
theorem d_law5_360 : decode code 360 = .ok (.land, 1) := by decide +kernel
theorem d_law5_361 : decode code 361 = .ok (.lor, 1) := by decide +kernel
theorem d_law5_362 : decode code 362 = .ok (.invokevirtual 52, 3) := by decide +kernel
theorem d_law5_365 : decode code 365 = .ok (.if_icmp .eq 389, 3) := by decide +kernel
set_option maxRecDepth 100000 in
set_option maxHeartbeats 4000000 in
theorem lw_warn {p : Program} {l : Launch} {e : Env} {S0 s : State} {m : MethodId} {args : Array Value} {below : List Frame} {meth : Method} {c : Code} {H : Heap} {locs : List Loc} {Q : State → Prop} {ls : Array Slot} {b n : Nat} {D : va_G} {dT : Nat → ClassId} {dE mO : Nat} {hcv h : vH} {xs : Nat → Int32} {ad : Nat → Nat → Nat} {L : vL} {cap : Nat} {x : Nat → Int32} {y : Nat → Int64} {A : Nat → Nat → Int32} {B : Nat → Nat → Int64} {k i0 cu su : Nat} (hE : vEnv S0 b D dT) (hJ : vJ S0 dE mO) (hcE : ∃ fE, hcv dE = some (aR dT 0 fE)) (C : vC p s m args c code 4 "MenuScreensLaw" GT D vcl (vty dT)) (hsc : hcv b = some (.inl (dT 0, n, .inl xs))) (hn9 : n ≤ 2562) (hk9 : k ≤ 511) (hi9 : i0 + 5 ≤ n) (I : lwI S0.heap.size dT dE hcv h ad L cap x y A B k cu su) (X : vO S0 D vcl h s H locs) (hl : lv_has ls 4 [(0, .ref b), (1, .ref (ad 0 0)), (2, .ref (ad 50 0)), (3, .int (nI i0))]) (K : ∀ (h' : vH) (ad' : Nat → Nat → Nat) (L' : vL) (cap' : Nat) (x' : Nat → Int32) (y' : Nat → Int64) (A' : Nat → Nat → Int32) (B' : Nat → Nat → Int64) (cu' su' : Nat) (H' : Heap) (locs' : List Loc) (ls' : Array Slot), ad' 0 0 = ad 0 0 → ad' 50 0 = ad 50 0 → lwI S0.heap.size dT dE hcv h' ad' L' cap' x' y' A' B' (k + 1) cu' su' → vO S0 D vcl h' s H' locs' → lv_has ls' 4 [(0, .ref b), (1, .ref (ad 0 0)), (2, .ref (ad 50 0)), (3, .int (nI i0))] → W p l e room_1 s m args below meth c H' locs' cu' su' Q (F0 m 754 ls' [])) : W p l e room_1 s m args below meth c H locs cu su Q (F0 m 307 ls []) := by
  have hx := C.1.1
  have hb := C.1.2.1
  obtain ⟨xl, hC, hM, ⟨n0, e30, hn4, hnc, hcap, hcu, hsu⟩, me, ce0, hme, hce, hme2, hce2⟩ := id I
  obtain ⟨⟨sp, bl, hTop, -⟩, -⟩ := id hC
  have hTop2 : L 0 0 = some (.inr (3, [.int (x 1), .int (x 2), .ref (ad 1 0), .ref (ad 6 0), .ref (ad 2 0), .ref (ad 8 0), .int (x 45), .int sp, .int (x 46), .int bl, .int (x 55), .long (y 56), .long (y 57)])) := hTop
  have hu1 : cu ≤ 18500 := by omega
  have hu2 : su ≤ 2600000 := by omega
  obtain ⟨-, -, -, ⟨n50, e50, hWr⟩, ⟨nr, e48, hPl⟩, -, -, ⟨nv, ns, np, nc, pf, cb, ce, cs, c0, lh, hnum, ⟨pr, e45, hpr1, hpr2⟩, hRP, hTx, hrn⟩, hkey, hsm⟩ := id hC
  have hn200 : n50 ≤ 200 := by obtain ⟨_, _, _, _, _, _, _, _, _, _, _, _, _, _, q, _⟩ := hWr; exact q
  refine lv_aload_n hx hb d_law5_307 rfl (lv_at hl 1 rfl) ?_
  refine lv_aload_n hx hb d_law5_308 rfl (lv_at hl 0 rfl) ?_
  refine lv_iload_n hx hb d_law5_309 rfl (lv_at hl 3 rfl) ?_
  refine lv_iconst (v := 1) hx hb d_law5_310 (by decide) ?_
  refine lv_iadd hx hb d_law5_311 ?_
  refine mv_iald C X (xl.old hsc) 0 rfl (i0 + 1) (nI_add i0 1) (by omega) (by omega) d_law5_312 ?_
  refine lv_aload_n hx hb d_law5_313 rfl (lv_at hl 0 rfl) ?_
  refine lv_iload_n hx hb d_law5_314 rfl (lv_at hl 3 rfl) ?_
  refine lv_iconst (v := 2) hx hb d_law5_315 (by decide) ?_
  refine lv_iadd hx hb d_law5_316 ?_
  refine mv_iald C X (xl.old hsc) 0 rfl (i0 + 2) (nI_add i0 2) (by omega) (by omega) d_law5_317 ?_
  refine lv_i2l (v := ((xs (i0 + 2)) : Int32).toInt64) hx hb d_law5_318 rfl ?_
  refine lv_bipush (v := 32) hx hb d_law5_319 (by decide) ?_
  refine lv_lshl (v := ((((xs (i0 + 2)) : Int32).toInt64) <<< ((32 : Int32).toInt64 &&& 63))) hx hb d_law5_321 rfl ?_
  refine lv_aload_n hx hb d_law5_322 rfl (lv_at hl 0 rfl) ?_
  refine lv_iload_n hx hb d_law5_323 rfl (lv_at hl 3 rfl) ?_
  refine lv_iconst (v := 3) hx hb d_law5_324 (by decide) ?_
  refine lv_iadd hx hb d_law5_325 ?_
  refine mv_iald C X (xl.old hsc) 0 rfl (i0 + 3) (nI_add i0 3) (by omega) (by omega) d_law5_326 ?_
  refine lv_i2l (v := ((xs (i0 + 3)) : Int32).toInt64) hx hb d_law5_327 rfl ?_
  refine lv_ldc2 (v := 4294967295) hx hb C.1.2.2.2.1 (C.1.2.2.2.2 _ (gt_6 138 (by decide +kernel) rfl)) d_law5_328 ?_
  refine lv_land hx hb d_law5_331 ?_
  refine lv_lor hx hb d_law5_332 ?_
  refine mv_bi X (mv_rV (rest := []) (As := [.int (xs (i0 + 1)), .long (((((xs (i0 + 2)) : Int32).toInt64) <<< ((32 : Int32).toInt64 &&& 63)) ||| ((((xs (i0 + 3)) : Int32).toInt64) &&& 4294967295))]) gt_good C X k_11_48 (cm_MenuScreens_warn hE hJ xl hC) (xl.get (i := 0) (j := 0) hTop2) rfl rfl ⟨Nat.le_of_ble_eq_true rfl, Nat.le_of_ble_eq_true rfl⟩ rfl hl.1 rfl (Nat.le_of_ble_eq_true rfl) d_law5_333 ⟨by show cu + 0 ≤ 600000; omega, by show su + 0 ≤ 7302250; omega⟩) (fun r1 hN H locs hp X => ?_)
  obtain ⟨ad1, L1, q1, kp1, hst⟩ := hp
  have M1 := lw_mid hM q1 kp1
  refine lv_aload_n hx hb d_law5_336 rfl (lv_at hl 2 rfl) ?_
  refine lv_aload_n hx hb d_law5_337 rfl (lv_at hl 0 rfl) ?_
  refine lv_iload_n hx hb d_law5_338 rfl (lv_at hl 3 rfl) ?_
  refine lv_iconst (v := 1) hx hb d_law5_339 (by decide) ?_
  refine lv_iadd hx hb d_law5_340 ?_
  refine mv_iald C X (q1.1.old hsc) 0 rfl (i0 + 1) (nI_add i0 1) (by omega) (by omega) d_law5_341 ?_
  refine lv_aload_n hx hb d_law5_342 rfl (lv_at hl 0 rfl) ?_
  refine lv_iload_n hx hb d_law5_343 rfl (lv_at hl 3 rfl) ?_
  refine lv_iconst (v := 2) hx hb d_law5_344 (by decide) ?_
  refine lv_iadd hx hb d_law5_345 ?_
  refine mv_iald C X (q1.1.old hsc) 0 rfl (i0 + 2) (nI_add i0 2) (by omega) (by omega) d_law5_346 ?_
  refine lv_i2l (v := ((xs (i0 + 2)) : Int32).toInt64) hx hb d_law5_347 rfl ?_
  refine lv_bipush (v := 32) hx hb d_law5_348 (by decide) ?_
  refine lv_lshl (v := ((((xs (i0 + 2)) : Int32).toInt64) <<< ((32 : Int32).toInt64 &&& 63))) hx hb d_law5_350 rfl ?_
  refine lv_aload_n hx hb d_law5_351 rfl (lv_at hl 0 rfl) ?_
  refine lv_iload_n hx hb d_law5_352 rfl (lv_at hl 3 rfl) ?_
  refine lv_iconst (v := 3) hx hb d_law5_353 (by decide) ?_
  refine lv_iadd hx hb d_law5_354 ?_
  refine mv_iald C X (q1.1.old hsc) 0 rfl (i0 + 3) (nI_add i0 3) (by omega) (by omega) d_law5_355 ?_
  refine lv_i2l (v := ((xs (i0 + 3)) : Int32).toInt64) hx hb d_law5_356 rfl ?_
  refine lv_ldc2 (v := 4294967295) hx hb C.1.2.2.2.1 (C.1.2.2.2.2 _ (gt_6 138 (by decide +kernel) rfl)) d_law5_357 ?_
  refine lv_land hx hb d_law5_360 ?_
  refine lv_lor hx hb d_law5_361 ?_
  refine mv_bi X (mv_rV (rest := [.int r1]) (As := [.int (xs (i0 + 1)), .long (((((xs (i0 + 2)) : Int32).toInt64) <<< ((32 : Int32).toInt64 &&& 63)) ||| ((((xs (i0 + 3)) : Int32).toInt64) &&& 4294967295))]) gt_good C X k_11_52 (cm_MenuScreensModel_warn hE M1 _ _ e50 hn200) M1.1 rfl rfl ⟨Nat.le_of_ble_eq_true rfl, Nat.le_of_ble_eq_true rfl⟩ rfl hl.1 rfl (Nat.le_of_ble_eq_true rfl) d_law5_362 ⟨by show (cu + 0) + 0 ≤ 600000; omega, by show (su + 0) + 0 ≤ 7302250; omega⟩) (fun r2 hN H locs hp X => ?_)
  obtain ⟨x', y', A', B', M2, hs⟩ := hp
  obtain ⟨er, hC2⟩ := hst _ x' y' A' B' (hs.imp id (fun q => ⟨n50, e50, hn200, q⟩))
  have ex3 : x' 3 = x 3 := by
    rcases hs with ⟨_, _, w, _⟩ | ⟨_, _, _, _, _, w, _⟩ | ⟨_, _, _, _, _, w, _⟩ <;> rw [w] <;> rfl
  have ey : ∀ j, j ≠ 54 → y' j = y j := by
    intro j hj
    rcases hs with ⟨_, _, _, w, _⟩ | ⟨_, _, _, _, _, _, w, _⟩ | ⟨_, _, _, _, _, _, w, _⟩
    · rw [w]
    · rw [w]
    · rw [w]; exact pk_uLn hj
  obtain ⟨L2, hz⟩ := lw_end hM q1 kp1 M2 hC2
  refine lv_icmp_eq (tgt := 754) hx hb d_law5_365 (by decide) (fun c3 => ?_) (fun z => absurd er z)
  exact K _ _ _ _ _ _ _ _ _ _ _ _ _ kp1.2 (congrFun (kp1.1 50 (by decide)).2 0) (I.nx hz ex3 (ey 56 (by decide)) (ey 57 (by decide))) X (lv_sub hl [0, 1, 2, 3] rfl)
theorem d_law6_370 : decode code 370 = .ok (.aload_n 1, 1) := by decide +kernel
theorem d_law6_371 : decode code 371 = .ok (.aload_n 0, 1) := by decide +kernel
theorem d_law6_372 : decode code 372 = .ok (.iload_n 3, 1) := by decide +kernel
theorem d_law6_373 : decode code 373 = .ok (.iconst 1, 1) := by decide +kernel
theorem d_law6_374 : decode code 374 = .ok (.iadd, 1) := by decide +kernel
theorem d_law6_375 : decode code 375 = .ok (.iaload, 1) := by decide +kernel
theorem d_law6_376 : decode code 376 = .ok (.invokevirtual 53, 3) := by decide +kernel
theorem d_law6_379 : decode code 379 = .ok (.aload_n 2, 1) := by decide +kernel
theorem d_law6_380 : decode code 380 = .ok (.aload_n 0, 1) := by decide +kernel
theorem d_law6_381 : decode code 381 = .ok (.iload_n 3, 1) := by decide +kernel
theorem d_law6_382 : decode code 382 = .ok (.iconst 1, 1) := by decide +kernel
theorem d_law6_383 : decode code 383 = .ok (.iadd, 1) := by decide +kernel
theorem d_law6_384 : decode code 384 = .ok (.iaload, 1) := by decide +kernel
theorem d_law6_385 : decode code 385 = .ok (.invokevirtual 56, 3) := by decide +kernel
theorem d_law6_388 : decode code 388 = .ok (.if_icmp .eq 366, 3) := by decide +kernel
set_option maxRecDepth 100000 in
set_option maxHeartbeats 4000000 in
theorem lw_warning {p : Program} {l : Launch} {e : Env} {S0 s : State} {m : MethodId} {args : Array Value} {below : List Frame} {meth : Method} {c : Code} {H : Heap} {locs : List Loc} {Q : State → Prop} {ls : Array Slot} {b n : Nat} {D : va_G} {dT : Nat → ClassId} {dE mO : Nat} {hcv h : vH} {xs : Nat → Int32} {ad : Nat → Nat → Nat} {L : vL} {cap : Nat} {x : Nat → Int32} {y : Nat → Int64} {A : Nat → Nat → Int32} {B : Nat → Nat → Int64} {k i0 cu su : Nat} (hE : vEnv S0 b D dT) (hJ : vJ S0 dE mO) (hcE : ∃ fE, hcv dE = some (aR dT 0 fE)) (C : vC p s m args c code 4 "MenuScreensLaw" GT D vcl (vty dT)) (hsc : hcv b = some (.inl (dT 0, n, .inl xs))) (hn9 : n ≤ 2562) (hk9 : k ≤ 511) (hi9 : i0 + 5 ≤ n) (I : lwI S0.heap.size dT dE hcv h ad L cap x y A B k cu su) (X : vO S0 D vcl h s H locs) (hl : lv_has ls 4 [(0, .ref b), (1, .ref (ad 0 0)), (2, .ref (ad 50 0)), (3, .int (nI i0))]) (K : ∀ (h' : vH) (ad' : Nat → Nat → Nat) (L' : vL) (cap' : Nat) (x' : Nat → Int32) (y' : Nat → Int64) (A' : Nat → Nat → Int32) (B' : Nat → Nat → Int64) (cu' su' : Nat) (H' : Heap) (locs' : List Loc) (ls' : Array Slot), ad' 0 0 = ad 0 0 → ad' 50 0 = ad 50 0 → lwI S0.heap.size dT dE hcv h' ad' L' cap' x' y' A' B' (k + 1) cu' su' → vO S0 D vcl h' s H' locs' → lv_has ls' 4 [(0, .ref b), (1, .ref (ad 0 0)), (2, .ref (ad 50 0)), (3, .int (nI i0))] → W p l e room_1 s m args below meth c H' locs' cu' su' Q (F0 m 754 ls' [])) : W p l e room_1 s m args below meth c H locs cu su Q (F0 m 370 ls []) := by
  have hx := C.1.1
  have hb := C.1.2.1
  obtain ⟨xl, hC, hM, ⟨n0, e30, hn4, hnc, hcap, hcu, hsu⟩, me, ce0, hme, hce, hme2, hce2⟩ := id I
  obtain ⟨⟨sp, bl, hTop, -⟩, -⟩ := id hC
  have hTop2 : L 0 0 = some (.inr (3, [.int (x 1), .int (x 2), .ref (ad 1 0), .ref (ad 6 0), .ref (ad 2 0), .ref (ad 8 0), .int (x 45), .int sp, .int (x 46), .int bl, .int (x 55), .long (y 56), .long (y 57)])) := hTop
  have hu1 : cu ≤ 18500 := by omega
  have hu2 : su ≤ 2600000 := by omega
  obtain ⟨-, -, -, ⟨n50, e50, hWr⟩, ⟨nr, e48, hPl⟩, -, -, ⟨nv, ns, np, nc, pf, cb, ce, cs, c0, lh, hnum, ⟨pr, e45, hpr1, hpr2⟩, hRP, hTx, hrn⟩, hkey, hsm⟩ := id hC
  have hn200 : n50 ≤ 200 := by obtain ⟨_, _, _, _, _, _, _, _, _, _, _, _, _, _, q, _⟩ := hWr; exact q
  refine lv_aload_n hx hb d_law6_370 rfl (lv_at hl 1 rfl) ?_
  refine lv_aload_n hx hb d_law6_371 rfl (lv_at hl 0 rfl) ?_
  refine lv_iload_n hx hb d_law6_372 rfl (lv_at hl 3 rfl) ?_
  refine lv_iconst (v := 1) hx hb d_law6_373 (by decide) ?_
  refine lv_iadd hx hb d_law6_374 ?_
  refine mv_iald C X (xl.old hsc) 0 rfl (i0 + 1) (nI_add i0 1) (by omega) (by omega) d_law6_375 ?_
  refine mv_bi X (mv_rV (rest := []) (As := [.int (xs (i0 + 1))]) gt_good C X k_11_53 (cm_MenuScreens_warning hE hJ xl hC) (xl.get (i := 0) (j := 0) hTop2) rfl rfl ⟨Nat.le_of_ble_eq_true rfl, Nat.le_of_ble_eq_true rfl⟩ rfl hl.1 rfl (Nat.le_of_ble_eq_true rfl) d_law6_376 ⟨by show cu + 0 ≤ 600000; omega, by show su + 0 ≤ 7302250; omega⟩) (fun r1 hN H locs hp X => ?_)
  obtain ⟨ad1, L1, q1, kp1, hst⟩ := hp
  have M1 := lw_mid hM q1 kp1
  refine lv_aload_n hx hb d_law6_379 rfl (lv_at hl 2 rfl) ?_
  refine lv_aload_n hx hb d_law6_380 rfl (lv_at hl 0 rfl) ?_
  refine lv_iload_n hx hb d_law6_381 rfl (lv_at hl 3 rfl) ?_
  refine lv_iconst (v := 1) hx hb d_law6_382 (by decide) ?_
  refine lv_iadd hx hb d_law6_383 ?_
  refine mv_iald C X (q1.1.old hsc) 0 rfl (i0 + 1) (nI_add i0 1) (by omega) (by omega) d_law6_384 ?_
  refine mv_bi X (mv_rV (rest := [.int r1]) (As := [.int (xs (i0 + 1))]) gt_good C X k_11_56 (cm_MenuScreensModel_warning hE M1 _ e50 hn200) M1.1 rfl rfl ⟨Nat.le_of_ble_eq_true rfl, Nat.le_of_ble_eq_true rfl⟩ rfl hl.1 rfl (Nat.le_of_ble_eq_true rfl) d_law6_385 ⟨by show (cu + 0) + 0 ≤ 600000; omega, by show (su + 0) + 0 ≤ 7302250; omega⟩) (fun r2 hN H locs hp X => ?_)
  obtain ⟨x', M2, hs1, hs⟩ := hp
  obtain ⟨er, hC2⟩ := hst _ x' y A B ⟨hs1, rfl, rfl, rfl, n50, e50, hn200, hs⟩
  obtain ⟨L2, hz⟩ := lw_end hM q1 kp1 M2 hC2
  refine lv_icmp_eq (tgt := 754) hx hb d_law6_388 (by decide) (fun c3 => ?_) (fun z => absurd er z)
  exact K _ _ _ _ _ _ _ _ _ _ _ _ _ kp1.2 (congrFun (kp1.1 50 (by decide)).2 0) (I.nx hz (by rw [hs1]; rfl) rfl rfl) X (lv_sub hl [0, 1, 2, 3] rfl)
