theorem d_MenuScreensModel_line_0 : decode prog_13_method_14_code 0 = .ok (.aload_n 0, 1) := by decide +kernel
theorem d_MenuScreensModel_line_1 : decode prog_13_method_14_code 1 = .ok (.invokevirtual 172, 3) := by decide +kernel
theorem d_MenuScreensModel_line_4 : decode prog_13_method_14_code 4 = .ok (.lstore_n 2, 1) := by decide +kernel
theorem d_MenuScreensModel_line_5 : decode prog_13_method_14_code 5 = .ok (.lload_n 2, 1) := by decide +kernel
theorem d_MenuScreensModel_line_6 : decode prog_13_method_14_code 6 = .ok (.bipush 110, 2) := by decide +kernel
theorem d_MenuScreensModel_line_8 : decode prog_13_method_14_code 8 = .ok (.bipush 97, 2) := by decide +kernel
theorem d_MenuScreensModel_line_10 : decode prog_13_method_14_code 10 = .ok (.bipush 109, 2) := by decide +kernel
theorem d_MenuScreensModel_line_12 : decode prog_13_method_14_code 12 = .ok (.bipush 101, 2) := by decide +kernel
theorem d_MenuScreensModel_line_14 : decode prog_13_method_14_code 14 = .ok (.iconst 0, 1) := by decide +kernel
theorem d_MenuScreensModel_line_15 : decode prog_13_method_14_code 15 = .ok (.iconst 0, 1) := by decide +kernel
theorem d_MenuScreensModel_line_16 : decode prog_13_method_14_code 16 = .ok (.iconst 0, 1) := by decide +kernel
theorem d_MenuScreensModel_line_17 : decode prog_13_method_14_code 17 = .ok (.invokestatic 176, 3) := by decide +kernel
theorem d_MenuScreensModel_line_20 : decode prog_13_method_14_code 20 = .ok (.lcmp, 1) := by decide +kernel
theorem d_MenuScreensModel_line_21 : decode prog_13_method_14_code 21 = .ok (.ifCond .ne 9, 3) := by decide +kernel
theorem d_MenuScreensModel_line_24 : decode prog_13_method_14_code 24 = .ok (.aload_n 0, 1) := by decide +kernel
theorem d_MenuScreensModel_line_25 : decode prog_13_method_14_code 25 = .ok (.iconst 0, 1) := by decide +kernel
theorem d_MenuScreensModel_line_26 : decode prog_13_method_14_code 26 = .ok (.invokevirtual 180, 3) := by decide +kernel
theorem d_MenuScreensModel_line_29 : decode prog_13_method_14_code 29 = .ok (.ireturn, 1) := by decide +kernel
theorem d_MenuScreensModel_line_30 : decode prog_13_method_14_code 30 = .ok (.lload_n 2, 1) := by decide +kernel
theorem d_MenuScreensModel_line_31 : decode prog_13_method_14_code 31 = .ok (.bipush 115, 2) := by decide +kernel
theorem d_MenuScreensModel_line_33 : decode prog_13_method_14_code 33 = .ok (.bipush 101, 2) := by decide +kernel
theorem d_MenuScreensModel_line_35 : decode prog_13_method_14_code 35 = .ok (.bipush 116, 2) := by decide +kernel
theorem d_MenuScreensModel_line_37 : decode prog_13_method_14_code 37 = .ok (.bipush 116, 2) := by decide +kernel
theorem d_MenuScreensModel_line_39 : decode prog_13_method_14_code 39 = .ok (.bipush 105, 2) := by decide +kernel
theorem d_MenuScreensModel_line_41 : decode prog_13_method_14_code 41 = .ok (.bipush 110, 2) := by decide +kernel
theorem d_MenuScreensModel_line_43 : decode prog_13_method_14_code 43 = .ok (.bipush 103, 2) := by decide +kernel
theorem d_MenuScreensModel_line_45 : decode prog_13_method_14_code 45 = .ok (.invokestatic 176, 3) := by decide +kernel
theorem d_MenuScreensModel_line_48 : decode prog_13_method_14_code 48 = .ok (.lcmp, 1) := by decide +kernel
theorem d_MenuScreensModel_line_49 : decode prog_13_method_14_code 49 = .ok (.ifCond .ne 9, 3) := by decide +kernel
theorem d_MenuScreensModel_line_52 : decode prog_13_method_14_code 52 = .ok (.aload_n 0, 1) := by decide +kernel
theorem d_MenuScreensModel_line_53 : decode prog_13_method_14_code 53 = .ok (.iconst 1, 1) := by decide +kernel
theorem d_MenuScreensModel_line_54 : decode prog_13_method_14_code 54 = .ok (.invokevirtual 180, 3) := by decide +kernel
theorem d_MenuScreensModel_line_57 : decode prog_13_method_14_code 57 = .ok (.ireturn, 1) := by decide +kernel
theorem d_MenuScreensModel_line_58 : decode prog_13_method_14_code 58 = .ok (.lload_n 2, 1) := by decide +kernel
theorem d_MenuScreensModel_line_59 : decode prog_13_method_14_code 59 = .ok (.bipush 115, 2) := by decide +kernel
theorem d_MenuScreensModel_line_61 : decode prog_13_method_14_code 61 = .ok (.bipush 99, 2) := by decide +kernel
theorem d_MenuScreensModel_line_63 : decode prog_13_method_14_code 63 = .ok (.bipush 114, 2) := by decide +kernel
theorem d_MenuScreensModel_line_65 : decode prog_13_method_14_code 65 = .ok (.bipush 101, 2) := by decide +kernel
theorem d_MenuScreensModel_line_67 : decode prog_13_method_14_code 67 = .ok (.bipush 101, 2) := by decide +kernel
theorem d_MenuScreensModel_line_69 : decode prog_13_method_14_code 69 = .ok (.bipush 110, 2) := by decide +kernel
theorem d_MenuScreensModel_line_71 : decode prog_13_method_14_code 71 = .ok (.iconst 0, 1) := by decide +kernel
theorem d_MenuScreensModel_line_72 : decode prog_13_method_14_code 72 = .ok (.invokestatic 176, 3) := by decide +kernel
theorem d_MenuScreensModel_line_75 : decode prog_13_method_14_code 75 = .ok (.lcmp, 1) := by decide +kernel
theorem d_MenuScreensModel_line_76 : decode prog_13_method_14_code 76 = .ok (.ifCond .ne 9, 3) := by decide +kernel
theorem d_MenuScreensModel_line_79 : decode prog_13_method_14_code 79 = .ok (.aload_n 0, 1) := by decide +kernel
theorem d_MenuScreensModel_line_80 : decode prog_13_method_14_code 80 = .ok (.iload_n 1, 1) := by decide +kernel
theorem d_MenuScreensModel_line_81 : decode prog_13_method_14_code 81 = .ok (.invokevirtual 184, 3) := by decide +kernel
theorem d_MenuScreensModel_line_84 : decode prog_13_method_14_code 84 = .ok (.ireturn, 1) := by decide +kernel
theorem d_MenuScreensModel_line_85 : decode prog_13_method_14_code 85 = .ok (.aload_n 0, 1) := by decide +kernel
theorem d_MenuScreensModel_line_86 : decode prog_13_method_14_code 86 = .ok (.getfield 169, 3) := by decide +kernel
theorem d_MenuScreensModel_line_89 : decode prog_13_method_14_code 89 = .ok (.ifCond .ne 5, 3) := by decide +kernel
theorem d_MenuScreensModel_line_92 : decode prog_13_method_14_code 92 = .ok (.iconst 0, 1) := by decide +kernel
theorem d_MenuScreensModel_line_93 : decode prog_13_method_14_code 93 = .ok (.ireturn, 1) := by decide +kernel
theorem d_MenuScreensModel_line_94 : decode prog_13_method_14_code 94 = .ok (.lload_n 2, 1) := by decide +kernel
theorem d_MenuScreensModel_line_95 : decode prog_13_method_14_code 95 = .ok (.bipush 112, 2) := by decide +kernel
theorem d_MenuScreensModel_line_97 : decode prog_13_method_14_code 97 = .ok (.bipush 117, 2) := by decide +kernel
theorem d_MenuScreensModel_line_99 : decode prog_13_method_14_code 99 = .ok (.bipush 116, 2) := by decide +kernel
theorem d_MenuScreensModel_line_101 : decode prog_13_method_14_code 101 = .ok (.iconst 0, 1) := by decide +kernel
theorem d_MenuScreensModel_line_102 : decode prog_13_method_14_code 102 = .ok (.iconst 0, 1) := by decide +kernel
theorem d_MenuScreensModel_line_103 : decode prog_13_method_14_code 103 = .ok (.iconst 0, 1) := by decide +kernel
theorem d_MenuScreensModel_line_104 : decode prog_13_method_14_code 104 = .ok (.iconst 0, 1) := by decide +kernel
theorem d_MenuScreensModel_line_105 : decode prog_13_method_14_code 105 = .ok (.invokestatic 176, 3) := by decide +kernel
theorem d_MenuScreensModel_line_108 : decode prog_13_method_14_code 108 = .ok (.lcmp, 1) := by decide +kernel
theorem d_MenuScreensModel_line_109 : decode prog_13_method_14_code 109 = .ok (.ifCond .ne 9, 3) := by decide +kernel
theorem d_MenuScreensModel_line_112 : decode prog_13_method_14_code 112 = .ok (.aload_n 0, 1) := by decide +kernel
theorem d_MenuScreensModel_line_113 : decode prog_13_method_14_code 113 = .ok (.iconst 0, 1) := by decide +kernel
theorem d_MenuScreensModel_line_114 : decode prog_13_method_14_code 114 = .ok (.invokevirtual 188, 3) := by decide +kernel
theorem d_MenuScreensModel_line_117 : decode prog_13_method_14_code 117 = .ok (.ireturn, 1) := by decide +kernel
theorem d_MenuScreensModel_line_118 : decode prog_13_method_14_code 118 = .ok (.lload_n 2, 1) := by decide +kernel
theorem d_MenuScreensModel_line_119 : decode prog_13_method_14_code 119 = .ok (.bipush 115, 2) := by decide +kernel
theorem d_MenuScreensModel_line_121 : decode prog_13_method_14_code 121 = .ok (.bipush 97, 2) := by decide +kernel
theorem d_MenuScreensModel_line_123 : decode prog_13_method_14_code 123 = .ok (.bipush 121, 2) := by decide +kernel
theorem d_MenuScreensModel_line_125 : decode prog_13_method_14_code 125 = .ok (.iconst 0, 1) := by decide +kernel
theorem d_MenuScreensModel_line_126 : decode prog_13_method_14_code 126 = .ok (.iconst 0, 1) := by decide +kernel
theorem d_MenuScreensModel_line_127 : decode prog_13_method_14_code 127 = .ok (.iconst 0, 1) := by decide +kernel
theorem d_MenuScreensModel_line_128 : decode prog_13_method_14_code 128 = .ok (.iconst 0, 1) := by decide +kernel
theorem d_MenuScreensModel_line_129 : decode prog_13_method_14_code 129 = .ok (.invokestatic 176, 3) := by decide +kernel
theorem d_MenuScreensModel_line_132 : decode prog_13_method_14_code 132 = .ok (.lcmp, 1) := by decide +kernel
theorem d_MenuScreensModel_line_133 : decode prog_13_method_14_code 133 = .ok (.ifCond .ne 9, 3) := by decide +kernel
theorem d_MenuScreensModel_line_136 : decode prog_13_method_14_code 136 = .ok (.aload_n 0, 1) := by decide +kernel
theorem d_MenuScreensModel_line_137 : decode prog_13_method_14_code 137 = .ok (.iconst 1, 1) := by decide +kernel
theorem d_MenuScreensModel_line_138 : decode prog_13_method_14_code 138 = .ok (.invokevirtual 188, 3) := by decide +kernel
theorem d_MenuScreensModel_line_141 : decode prog_13_method_14_code 141 = .ok (.ireturn, 1) := by decide +kernel
theorem d_MenuScreensModel_line_142 : decode prog_13_method_14_code 142 = .ok (.lload_n 2, 1) := by decide +kernel
theorem d_MenuScreensModel_line_143 : decode prog_13_method_14_code 143 = .ok (.bipush 115, 2) := by decide +kernel
theorem d_MenuScreensModel_line_145 : decode prog_13_method_14_code 145 = .ok (.bipush 104, 2) := by decide +kernel
theorem d_MenuScreensModel_line_147 : decode prog_13_method_14_code 147 = .ok (.bipush 111, 2) := by decide +kernel
theorem d_MenuScreensModel_line_149 : decode prog_13_method_14_code 149 = .ok (.bipush 119, 2) := by decide +kernel
theorem d_MenuScreensModel_line_151 : decode prog_13_method_14_code 151 = .ok (.iconst 0, 1) := by decide +kernel
theorem d_MenuScreensModel_line_152 : decode prog_13_method_14_code 152 = .ok (.iconst 0, 1) := by decide +kernel
theorem d_MenuScreensModel_line_153 : decode prog_13_method_14_code 153 = .ok (.iconst 0, 1) := by decide +kernel
theorem d_MenuScreensModel_line_154 : decode prog_13_method_14_code 154 = .ok (.invokestatic 176, 3) := by decide +kernel
theorem d_MenuScreensModel_line_157 : decode prog_13_method_14_code 157 = .ok (.lcmp, 1) := by decide +kernel
theorem d_MenuScreensModel_line_158 : decode prog_13_method_14_code 158 = .ok (.ifCond .ne 9, 3) := by decide +kernel
theorem d_MenuScreensModel_line_161 : decode prog_13_method_14_code 161 = .ok (.aload_n 0, 1) := by decide +kernel
theorem d_MenuScreensModel_line_162 : decode prog_13_method_14_code 162 = .ok (.iconst 2, 1) := by decide +kernel
theorem d_MenuScreensModel_line_163 : decode prog_13_method_14_code 163 = .ok (.invokevirtual 188, 3) := by decide +kernel
theorem d_MenuScreensModel_line_166 : decode prog_13_method_14_code 166 = .ok (.ireturn, 1) := by decide +kernel
theorem d_MenuScreensModel_line_167 : decode prog_13_method_14_code 167 = .ok (.lload_n 2, 1) := by decide +kernel
theorem d_MenuScreensModel_line_168 : decode prog_13_method_14_code 168 = .ok (.bipush 105, 2) := by decide +kernel
theorem d_MenuScreensModel_line_170 : decode prog_13_method_14_code 170 = .ok (.bipush 102, 2) := by decide +kernel
theorem d_MenuScreensModel_line_172 : decode prog_13_method_14_code 172 = .ok (.iconst 0, 1) := by decide +kernel
theorem d_MenuScreensModel_line_173 : decode prog_13_method_14_code 173 = .ok (.iconst 0, 1) := by decide +kernel
theorem d_MenuScreensModel_line_174 : decode prog_13_method_14_code 174 = .ok (.iconst 0, 1) := by decide +kernel
theorem d_MenuScreensModel_line_175 : decode prog_13_method_14_code 175 = .ok (.iconst 0, 1) := by decide +kernel
theorem d_MenuScreensModel_line_176 : decode prog_13_method_14_code 176 = .ok (.iconst 0, 1) := by decide +kernel
theorem d_MenuScreensModel_line_177 : decode prog_13_method_14_code 177 = .ok (.invokestatic 176, 3) := by decide +kernel
theorem d_MenuScreensModel_line_180 : decode prog_13_method_14_code 180 = .ok (.lcmp, 1) := by decide +kernel
theorem d_MenuScreensModel_line_181 : decode prog_13_method_14_code 181 = .ok (.ifCond .ne 8, 3) := by decide +kernel
theorem d_MenuScreensModel_line_184 : decode prog_13_method_14_code 184 = .ok (.aload_n 0, 1) := by decide +kernel
theorem d_MenuScreensModel_line_185 : decode prog_13_method_14_code 185 = .ok (.invokevirtual 191, 3) := by decide +kernel
theorem d_MenuScreensModel_line_188 : decode prog_13_method_14_code 188 = .ok (.ireturn, 1) := by decide +kernel
theorem d_MenuScreensModel_line_189 : decode prog_13_method_14_code 189 = .ok (.lload_n 2, 1) := by decide +kernel
theorem d_MenuScreensModel_line_190 : decode prog_13_method_14_code 190 = .ok (.bipush 107, 2) := by decide +kernel
theorem d_MenuScreensModel_line_192 : decode prog_13_method_14_code 192 = .ok (.bipush 101, 2) := by decide +kernel
theorem d_MenuScreensModel_line_194 : decode prog_13_method_14_code 194 = .ok (.bipush 121, 2) := by decide +kernel
theorem d_MenuScreensModel_line_196 : decode prog_13_method_14_code 196 = .ok (.iconst 0, 1) := by decide +kernel
theorem d_MenuScreensModel_line_197 : decode prog_13_method_14_code 197 = .ok (.iconst 0, 1) := by decide +kernel
theorem d_MenuScreensModel_line_198 : decode prog_13_method_14_code 198 = .ok (.iconst 0, 1) := by decide +kernel
theorem d_MenuScreensModel_line_199 : decode prog_13_method_14_code 199 = .ok (.iconst 0, 1) := by decide +kernel
theorem d_MenuScreensModel_line_200 : decode prog_13_method_14_code 200 = .ok (.invokestatic 176, 3) := by decide +kernel
theorem d_MenuScreensModel_line_203 : decode prog_13_method_14_code 203 = .ok (.lcmp, 1) := by decide +kernel
theorem d_MenuScreensModel_line_204 : decode prog_13_method_14_code 204 = .ok (.ifCond .ne 8, 3) := by decide +kernel
theorem d_MenuScreensModel_line_207 : decode prog_13_method_14_code 207 = .ok (.aload_n 0, 1) := by decide +kernel
theorem d_MenuScreensModel_line_208 : decode prog_13_method_14_code 208 = .ok (.invokevirtual 194, 3) := by decide +kernel
theorem d_MenuScreensModel_line_211 : decode prog_13_method_14_code 211 = .ok (.ireturn, 1) := by decide +kernel
theorem d_MenuScreensModel_line_212 : decode prog_13_method_14_code 212 = .ok (.lload_n 2, 1) := by decide +kernel
theorem d_MenuScreensModel_line_213 : decode prog_13_method_14_code 213 = .ok (.bipush 98, 2) := by decide +kernel
theorem d_MenuScreensModel_line_215 : decode prog_13_method_14_code 215 = .ok (.bipush 97, 2) := by decide +kernel
theorem d_MenuScreensModel_line_217 : decode prog_13_method_14_code 217 = .ok (.bipush 114, 2) := by decide +kernel
theorem d_MenuScreensModel_line_219 : decode prog_13_method_14_code 219 = .ok (.iconst 0, 1) := by decide +kernel
theorem d_MenuScreensModel_line_220 : decode prog_13_method_14_code 220 = .ok (.iconst 0, 1) := by decide +kernel
theorem d_MenuScreensModel_line_221 : decode prog_13_method_14_code 221 = .ok (.iconst 0, 1) := by decide +kernel
theorem d_MenuScreensModel_line_222 : decode prog_13_method_14_code 222 = .ok (.iconst 0, 1) := by decide +kernel
theorem d_MenuScreensModel_line_223 : decode prog_13_method_14_code 223 = .ok (.invokestatic 176, 3) := by decide +kernel
theorem d_MenuScreensModel_line_226 : decode prog_13_method_14_code 226 = .ok (.lcmp, 1) := by decide +kernel
theorem d_MenuScreensModel_line_227 : decode prog_13_method_14_code 227 = .ok (.ifCond .ne 21, 3) := by decide +kernel
theorem d_MenuScreensModel_line_230 : decode prog_13_method_14_code 230 = .ok (.aload_n 0, 1) := by decide +kernel
theorem d_MenuScreensModel_line_231 : decode prog_13_method_14_code 231 = .ok (.lconst 0, 1) := by decide +kernel
theorem d_MenuScreensModel_line_232 : decode prog_13_method_14_code 232 = .ok (.ldc2_w 197, 3) := by decide +kernel
theorem d_MenuScreensModel_line_235 : decode prog_13_method_14_code 235 = .ok (.invokevirtual 199, 3) := by decide +kernel
theorem d_MenuScreensModel_line_238 : decode prog_13_method_14_code 238 = .ok (.ifCond .eq 10, 3) := by decide +kernel
theorem d_MenuScreensModel_line_241 : decode prog_13_method_14_code 241 = .ok (.aload_n 0, 1) := by decide +kernel
theorem d_MenuScreensModel_line_242 : decode prog_13_method_14_code 242 = .ok (.invokevirtual 202, 3) := by decide +kernel
theorem d_MenuScreensModel_line_245 : decode prog_13_method_14_code 245 = .ok (.ifCond .ne 5, 3) := by decide +kernel
theorem d_MenuScreensModel_line_248 : decode prog_13_method_14_code 248 = .ok (.iconst 0, 1) := by decide +kernel
theorem d_MenuScreensModel_line_249 : decode prog_13_method_14_code 249 = .ok (.ireturn, 1) := by decide +kernel
theorem d_MenuScreensModel_line_250 : decode prog_13_method_14_code 250 = .ok (.aload_n 0, 1) := by decide +kernel
theorem d_MenuScreensModel_line_251 : decode prog_13_method_14_code 251 = .ok (.getfield 48, 3) := by decide +kernel
theorem d_MenuScreensModel_line_254 : decode prog_13_method_14_code 254 = .ok (.aload_n 0, 1) := by decide +kernel
theorem d_MenuScreensModel_line_255 : decode prog_13_method_14_code 255 = .ok (.getfield 169, 3) := by decide +kernel
theorem d_MenuScreensModel_line_258 : decode prog_13_method_14_code 258 = .ok (.aload_n 0, 1) := by decide +kernel
theorem d_MenuScreensModel_line_259 : decode prog_13_method_14_code 259 = .ok (.getfield 152, 3) := by decide +kernel
theorem d_MenuScreensModel_line_262 : decode prog_13_method_14_code 262 = .ok (.lastore, 1) := by decide +kernel
theorem d_MenuScreensModel_line_263 : decode prog_13_method_14_code 263 = .ok (.iconst 1, 1) := by decide +kernel
theorem d_MenuScreensModel_line_264 : decode prog_13_method_14_code 264 = .ok (.ireturn, 1) := by decide +kernel
set_option maxRecDepth 100000 in
set_option maxHeartbeats 4000000 in
theorem cm_MenuScreensModel_line {l : Launch} {S0 : State} {b : Nat} {D : va_G} {dT : Nat → ClassId} (hE : vEnv S0 b D dT) {h0 : vH} {a : Nat} {ar : Nat → Nat} {x : Nat → Int32} {y : Nat → Int64} {A : Nat → Nat → Int32} {B : Nat → Nat → Int64} (M : MV S0 dT h0 a ar x y A B) (p1 : Int32) {F T e0 : Nat} (hF : x 9 = nI F) (hT : x 10 = nI T) (hat : x 7 = nI T) (hFT : F < T) (hend : x 8 = nI e0) (hTe : T ≤ e0) (he : e0 ≤ 4000) (hT4 : T ≤ 4000) {nv ns np nc : Nat} (hnv : x 12 = nI nv) (hnv2 : nv ≤ 40) (hns : x 20 = nI ns) (hns2 : ns ≤ 30) (hnp : x 28 = nI np) (hnp2 : np < 512) (hnc : x 39 = nI nc) (hnc2 : nc < 512) (hRV : ∀ v, 1 ≤ v → v ≤ nv → ∃ p q, A 13 v = nI p ∧ A 14 v = nI q ∧ p ≤ q ∧ q ≤ 4000) (hR : ∀ v, 1 ≤ v → v ≤ ns → ∃ p q, A 21 v = nI p ∧ A 22 v = nI q ∧ p ≤ q ∧ q ≤ 4000) : vMi l S0 D vcl GT y_MenuScreensModel_line prog_13_method_14_code 4 (some .boolean) 4 140 0 0 [.ref a, .int p1] h0 (fun r h' => ∃ x' y' A' B', MR S0 dT h0 h' a ar x' y' A' B' ∧ (∀ k, k ≠ 7 → k ≠ 9 → k ≠ 10 → k ≠ 12 → k ≠ 20 → k ≠ 28 → k ≠ 39 → x' k = x k) ∧ (∀ k, k ≠ 11 → y' k = y k) ∧ (okLn A e0 T nv ns (lkd (wV (A 6) F T)) = true ∧ r = 1 ∧ x' 12 = nI (lnV nv (lkd (wV (A 6) F T))) ∧ x' 20 = nI (lnSc ns (lkd (wV (A 6) F T))) ∧ x' 28 = nI (lnP np (lkd (wV (A 6) F T))) ∧ x' 39 = nI (lnC nc (lkd (wV (A 6) F T))) ∧ A' = lnA A e0 T nv ns np nc p1 (lkd (wV (A 6) F T)) ∧ B' = lnB A B e0 T nv ns nc (lkd (wV (A 6) F T)) ∨ okLn A e0 T nv ns (lkd (wV (A 6) F T)) = false ∧ r = 0 ∧ lKeep A A' B B')) := by
  unfold vMi
  refine vM_ofQ hE.1 (by decide) (Nat.le_of_ble_eq_true rfl) (fun p e s m args below meth c ls Q hQ C hr hlk hnm X hl => ?_)
  have C : vC p s m _ c _ _ "MenuScreensModel" GT D vcl (vty dT) := C
  have hx := C.1.1
  have hb := C.1.2.1
  replace M := MR.of M
  obtain ⟨H, eH⟩ : ∃ z, z = s.heap := ⟨_, rfl⟩
  obtain ⟨locs, elocs⟩ : ∃ z : List Loc, z = [] := ⟨_, rfl⟩
  rw [← eH, ← elocs] at X
  rw [← eH, ← elocs]
  clear eH elocs
  have hl : lv_has ls 4 [(0, .ref a), (1, .int p1)] := hl
  refine lv_aload_n hx hb d_MenuScreensModel_line_0 rfl (lv_at hl 0 rfl) ?_
  refine mv_bl X (mv_rV (rest := []) (As := []) gt_good C X k_12_172 (cm_MenuScreensModel_word hE M.1 (F := F) (T := T) hF hT (by omega) hT4) M.1.1 rfl rfl ⟨by decide, by decide⟩ rfl hl.1 rfl (Nat.le_of_ble_eq_true rfl) d_MenuScreensModel_line_1 ⟨Nat.le_refl _, Nat.le_refl _⟩) (fun r1 hN H locs hp X => ?_)
  obtain ⟨ehr1, er1⟩ := hp
  rw [ehr1] at X
  replace er1 : r1 = (wV (A 6) F T) := er1
  rw [er1]
  refine lv_lstore_n (lv' := [(2, .long (wV (A 6) F T)), (0, .ref a), (1, .int p1)]) hx hb d_MenuScreensModel_line_4 rfl hl (by decide) rfl (fun ls hl => ?_)
  refine lv_lload_n hx hb d_MenuScreensModel_line_5 rfl (lv_at hl 0 rfl) ?_
  refine lv_bipush (v := 110) hx hb d_MenuScreensModel_line_6 (by decide) ?_
  refine lv_bipush (v := 97) hx hb d_MenuScreensModel_line_8 (by decide) ?_
  refine lv_bipush (v := 109) hx hb d_MenuScreensModel_line_10 (by decide) ?_
  refine lv_bipush (v := 101) hx hb d_MenuScreensModel_line_12 (by decide) ?_
  refine lv_iconst (v := 0) hx hb d_MenuScreensModel_line_14 (by decide) ?_
  refine lv_iconst (v := 0) hx hb d_MenuScreensModel_line_15 (by decide) ?_
  refine lv_iconst (v := 0) hx hb d_MenuScreensModel_line_16 (by decide) ?_
  refine mv_bl X (mv_rS (rest := [.long (wV (A 6) F T)]) (As := [.int 110, .int 97, .int 109, .int 101, .int 0, .int 0, .int 0]) gt_good C X k_12_176 (cm_MenuScreensModel_told hE _ _ _ _ _ _ _) ⟨by decide, by decide⟩ rfl hl.1 rfl (Nat.le_of_ble_eq_true rfl) d_MenuScreensModel_line_17 ⟨Nat.le_refl _, Nat.le_refl _⟩) (fun r2 hN H locs hp X => ?_)
  obtain ⟨ehr2, er2⟩ := hp
  rw [ehr2] at X
  rw [er2]
  refine W.lcmp hx hb d_MenuScreensModel_line_20 ?_
  refine lv_if_ne (tgt := 30) hx hb d_MenuScreensModel_line_21 (by decide) (fun c3 => ?_) (fun c3 => ?_)
  · skip
    refine lv_lload_n hx hb d_MenuScreensModel_line_30 rfl (lv_at hl 0 rfl) ?_
    refine lv_bipush (v := 115) hx hb d_MenuScreensModel_line_31 (by decide) ?_
    refine lv_bipush (v := 101) hx hb d_MenuScreensModel_line_33 (by decide) ?_
    refine lv_bipush (v := 116) hx hb d_MenuScreensModel_line_35 (by decide) ?_
    refine lv_bipush (v := 116) hx hb d_MenuScreensModel_line_37 (by decide) ?_
    refine lv_bipush (v := 105) hx hb d_MenuScreensModel_line_39 (by decide) ?_
    refine lv_bipush (v := 110) hx hb d_MenuScreensModel_line_41 (by decide) ?_
    refine lv_bipush (v := 103) hx hb d_MenuScreensModel_line_43 (by decide) ?_
    refine mv_bl X (mv_rS (rest := [.long (wV (A 6) F T)]) (As := [.int 115, .int 101, .int 116, .int 116, .int 105, .int 110, .int 103]) gt_good C X k_12_176 (cm_MenuScreensModel_told hE _ _ _ _ _ _ _) ⟨by decide, by decide⟩ rfl hl.1 rfl (Nat.le_of_ble_eq_true rfl) d_MenuScreensModel_line_45 ⟨Nat.le_refl _, Nat.le_refl _⟩) (fun r4 hN H locs hp X => ?_)
    obtain ⟨ehr4, er4⟩ := hp
    rw [ehr4] at X
    rw [er4]
    refine W.lcmp hx hb d_MenuScreensModel_line_48 ?_
    refine lv_if_ne (tgt := 58) hx hb d_MenuScreensModel_line_49 (by decide) (fun c5 => ?_) (fun c5 => ?_)
    · skip
      refine lv_lload_n hx hb d_MenuScreensModel_line_58 rfl (lv_at hl 0 rfl) ?_
      refine lv_bipush (v := 115) hx hb d_MenuScreensModel_line_59 (by decide) ?_
      refine lv_bipush (v := 99) hx hb d_MenuScreensModel_line_61 (by decide) ?_
      refine lv_bipush (v := 114) hx hb d_MenuScreensModel_line_63 (by decide) ?_
      refine lv_bipush (v := 101) hx hb d_MenuScreensModel_line_65 (by decide) ?_
      refine lv_bipush (v := 101) hx hb d_MenuScreensModel_line_67 (by decide) ?_
      refine lv_bipush (v := 110) hx hb d_MenuScreensModel_line_69 (by decide) ?_
      refine lv_iconst (v := 0) hx hb d_MenuScreensModel_line_71 (by decide) ?_
      refine mv_bl X (mv_rS (rest := [.long (wV (A 6) F T)]) (As := [.int 115, .int 99, .int 114, .int 101, .int 101, .int 110, .int 0]) gt_good C X k_12_176 (cm_MenuScreensModel_told hE _ _ _ _ _ _ _) ⟨by decide, by decide⟩ rfl hl.1 rfl (Nat.le_of_ble_eq_true rfl) d_MenuScreensModel_line_72 ⟨Nat.le_refl _, Nat.le_refl _⟩) (fun r6 hN H locs hp X => ?_)
      obtain ⟨ehr6, er6⟩ := hp
      rw [ehr6] at X
      rw [er6]
      refine W.lcmp hx hb d_MenuScreensModel_line_75 ?_
      refine lv_if_ne (tgt := 85) hx hb d_MenuScreensModel_line_76 (by decide) (fun c7 => ?_) (fun c7 => ?_)
      · skip
        refine lv_aload_n hx hb d_MenuScreensModel_line_85 rfl (lv_at hl 1 rfl) ?_
        refine mm_get C X M 20 f_12_169_13 (.int (x 20)) rfl d_MenuScreensModel_line_86 ?_
        refine lv_if_ne (tgt := 94) hx hb d_MenuScreensModel_line_89 (by decide) (fun c8 => ?_) (fun c8 => ?_)
        · skip
          have hns0 : ns ≠ 0 := fun z => c8 (by rw [hns, z]; rfl)
          refine lv_lload_n hx hb d_MenuScreensModel_line_94 rfl (lv_at hl 0 rfl) ?_
          refine lv_bipush (v := 112) hx hb d_MenuScreensModel_line_95 (by decide) ?_
          refine lv_bipush (v := 117) hx hb d_MenuScreensModel_line_97 (by decide) ?_
          refine lv_bipush (v := 116) hx hb d_MenuScreensModel_line_99 (by decide) ?_
          refine lv_iconst (v := 0) hx hb d_MenuScreensModel_line_101 (by decide) ?_
          refine lv_iconst (v := 0) hx hb d_MenuScreensModel_line_102 (by decide) ?_
          refine lv_iconst (v := 0) hx hb d_MenuScreensModel_line_103 (by decide) ?_
          refine lv_iconst (v := 0) hx hb d_MenuScreensModel_line_104 (by decide) ?_
          refine mv_bl X (mv_rS (rest := [.long (wV (A 6) F T)]) (As := [.int 112, .int 117, .int 116, .int 0, .int 0, .int 0, .int 0]) gt_good C X k_12_176 (cm_MenuScreensModel_told hE _ _ _ _ _ _ _) ⟨by decide, by decide⟩ rfl hl.1 rfl (Nat.le_of_ble_eq_true rfl) d_MenuScreensModel_line_105 ⟨Nat.le_refl _, Nat.le_refl _⟩) (fun r9 hN H locs hp X => ?_)
          obtain ⟨ehr9, er9⟩ := hp
          rw [ehr9] at X
          rw [er9]
          refine W.lcmp hx hb d_MenuScreensModel_line_108 ?_
          refine lv_if_ne (tgt := 118) hx hb d_MenuScreensModel_line_109 (by decide) (fun c10 => ?_) (fun c10 => ?_)
          · skip
            refine lv_lload_n hx hb d_MenuScreensModel_line_118 rfl (lv_at hl 0 rfl) ?_
            refine lv_bipush (v := 115) hx hb d_MenuScreensModel_line_119 (by decide) ?_
            refine lv_bipush (v := 97) hx hb d_MenuScreensModel_line_121 (by decide) ?_
            refine lv_bipush (v := 121) hx hb d_MenuScreensModel_line_123 (by decide) ?_
            refine lv_iconst (v := 0) hx hb d_MenuScreensModel_line_125 (by decide) ?_
            refine lv_iconst (v := 0) hx hb d_MenuScreensModel_line_126 (by decide) ?_
            refine lv_iconst (v := 0) hx hb d_MenuScreensModel_line_127 (by decide) ?_
            refine lv_iconst (v := 0) hx hb d_MenuScreensModel_line_128 (by decide) ?_
            refine mv_bl X (mv_rS (rest := [.long (wV (A 6) F T)]) (As := [.int 115, .int 97, .int 121, .int 0, .int 0, .int 0, .int 0]) gt_good C X k_12_176 (cm_MenuScreensModel_told hE _ _ _ _ _ _ _) ⟨by decide, by decide⟩ rfl hl.1 rfl (Nat.le_of_ble_eq_true rfl) d_MenuScreensModel_line_129 ⟨Nat.le_refl _, Nat.le_refl _⟩) (fun r11 hN H locs hp X => ?_)
            obtain ⟨ehr11, er11⟩ := hp
            rw [ehr11] at X
            rw [er11]
            refine W.lcmp hx hb d_MenuScreensModel_line_132 ?_
            refine lv_if_ne (tgt := 142) hx hb d_MenuScreensModel_line_133 (by decide) (fun c12 => ?_) (fun c12 => ?_)
            · skip
              refine lv_lload_n hx hb d_MenuScreensModel_line_142 rfl (lv_at hl 0 rfl) ?_
              refine lv_bipush (v := 115) hx hb d_MenuScreensModel_line_143 (by decide) ?_
              refine lv_bipush (v := 104) hx hb d_MenuScreensModel_line_145 (by decide) ?_
              refine lv_bipush (v := 111) hx hb d_MenuScreensModel_line_147 (by decide) ?_
              refine lv_bipush (v := 119) hx hb d_MenuScreensModel_line_149 (by decide) ?_
              refine lv_iconst (v := 0) hx hb d_MenuScreensModel_line_151 (by decide) ?_
              refine lv_iconst (v := 0) hx hb d_MenuScreensModel_line_152 (by decide) ?_
              refine lv_iconst (v := 0) hx hb d_MenuScreensModel_line_153 (by decide) ?_
              refine mv_bl X (mv_rS (rest := [.long (wV (A 6) F T)]) (As := [.int 115, .int 104, .int 111, .int 119, .int 0, .int 0, .int 0]) gt_good C X k_12_176 (cm_MenuScreensModel_told hE _ _ _ _ _ _ _) ⟨by decide, by decide⟩ rfl hl.1 rfl (Nat.le_of_ble_eq_true rfl) d_MenuScreensModel_line_154 ⟨Nat.le_refl _, Nat.le_refl _⟩) (fun r13 hN H locs hp X => ?_)
              obtain ⟨ehr13, er13⟩ := hp
              rw [ehr13] at X
              rw [er13]
              refine W.lcmp hx hb d_MenuScreensModel_line_157 ?_
              refine lv_if_ne (tgt := 167) hx hb d_MenuScreensModel_line_158 (by decide) (fun c14 => ?_) (fun c14 => ?_)
              · skip
                refine lv_lload_n hx hb d_MenuScreensModel_line_167 rfl (lv_at hl 0 rfl) ?_
                refine lv_bipush (v := 105) hx hb d_MenuScreensModel_line_168 (by decide) ?_
                refine lv_bipush (v := 102) hx hb d_MenuScreensModel_line_170 (by decide) ?_
                refine lv_iconst (v := 0) hx hb d_MenuScreensModel_line_172 (by decide) ?_
                refine lv_iconst (v := 0) hx hb d_MenuScreensModel_line_173 (by decide) ?_
                refine lv_iconst (v := 0) hx hb d_MenuScreensModel_line_174 (by decide) ?_
                refine lv_iconst (v := 0) hx hb d_MenuScreensModel_line_175 (by decide) ?_
                refine lv_iconst (v := 0) hx hb d_MenuScreensModel_line_176 (by decide) ?_
                refine mv_bl X (mv_rS (rest := [.long (wV (A 6) F T)]) (As := [.int 105, .int 102, .int 0, .int 0, .int 0, .int 0, .int 0]) gt_good C X k_12_176 (cm_MenuScreensModel_told hE _ _ _ _ _ _ _) ⟨by decide, by decide⟩ rfl hl.1 rfl (Nat.le_of_ble_eq_true rfl) d_MenuScreensModel_line_177 ⟨Nat.le_refl _, Nat.le_refl _⟩) (fun r15 hN H locs hp X => ?_)
                obtain ⟨ehr15, er15⟩ := hp
                rw [ehr15] at X
                rw [er15]
                refine W.lcmp hx hb d_MenuScreensModel_line_180 ?_
                refine lv_if_ne (tgt := 189) hx hb d_MenuScreensModel_line_181 (by decide) (fun c16 => ?_) (fun c16 => ?_)
                · skip
                  refine lv_lload_n hx hb d_MenuScreensModel_line_189 rfl (lv_at hl 0 rfl) ?_
                  refine lv_bipush (v := 107) hx hb d_MenuScreensModel_line_190 (by decide) ?_
                  refine lv_bipush (v := 101) hx hb d_MenuScreensModel_line_192 (by decide) ?_
                  refine lv_bipush (v := 121) hx hb d_MenuScreensModel_line_194 (by decide) ?_
                  refine lv_iconst (v := 0) hx hb d_MenuScreensModel_line_196 (by decide) ?_
                  refine lv_iconst (v := 0) hx hb d_MenuScreensModel_line_197 (by decide) ?_
                  refine lv_iconst (v := 0) hx hb d_MenuScreensModel_line_198 (by decide) ?_
                  refine lv_iconst (v := 0) hx hb d_MenuScreensModel_line_199 (by decide) ?_
                  refine mv_bl X (mv_rS (rest := [.long (wV (A 6) F T)]) (As := [.int 107, .int 101, .int 121, .int 0, .int 0, .int 0, .int 0]) gt_good C X k_12_176 (cm_MenuScreensModel_told hE _ _ _ _ _ _ _) ⟨by decide, by decide⟩ rfl hl.1 rfl (Nat.le_of_ble_eq_true rfl) d_MenuScreensModel_line_200 ⟨Nat.le_refl _, Nat.le_refl _⟩) (fun r17 hN H locs hp X => ?_)
                  obtain ⟨ehr17, er17⟩ := hp
                  rw [ehr17] at X
                  rw [er17]
                  refine W.lcmp hx hb d_MenuScreensModel_line_203 ?_
                  refine lv_if_ne (tgt := 212) hx hb d_MenuScreensModel_line_204 (by decide) (fun c18 => ?_) (fun c18 => ?_)
                  · skip
                    refine lv_lload_n hx hb d_MenuScreensModel_line_212 rfl (lv_at hl 0 rfl) ?_
                    refine lv_bipush (v := 98) hx hb d_MenuScreensModel_line_213 (by decide) ?_
                    refine lv_bipush (v := 97) hx hb d_MenuScreensModel_line_215 (by decide) ?_
                    refine lv_bipush (v := 114) hx hb d_MenuScreensModel_line_217 (by decide) ?_
                    refine lv_iconst (v := 0) hx hb d_MenuScreensModel_line_219 (by decide) ?_
                    refine lv_iconst (v := 0) hx hb d_MenuScreensModel_line_220 (by decide) ?_
                    refine lv_iconst (v := 0) hx hb d_MenuScreensModel_line_221 (by decide) ?_
                    refine lv_iconst (v := 0) hx hb d_MenuScreensModel_line_222 (by decide) ?_
                    refine mv_bl X (mv_rS (rest := [.long (wV (A 6) F T)]) (As := [.int 98, .int 97, .int 114, .int 0, .int 0, .int 0, .int 0]) gt_good C X k_12_176 (cm_MenuScreensModel_told hE _ _ _ _ _ _ _) ⟨by decide, by decide⟩ rfl hl.1 rfl (Nat.le_of_ble_eq_true rfl) d_MenuScreensModel_line_223 ⟨Nat.le_refl _, Nat.le_refl _⟩) (fun r19 hN H locs hp X => ?_)
                    obtain ⟨ehr19, er19⟩ := hp
                    rw [ehr19] at X
                    rw [er19]
                    refine W.lcmp hx hb d_MenuScreensModel_line_226 ?_
                    refine lv_if_ne (tgt := 248) hx hb d_MenuScreensModel_line_227 (by decide) (fun c20 => ?_) (fun c20 => ?_)
                    · skip
                      refine lv_iconst (v := 0) hx hb d_MenuScreensModel_line_248 (by decide) ?_
                      have n0 : ¬ (wV (A 6) F T) = tl (q7 110 97 109 101 0 0 0) 7 := fun z => c3 ((lg_cmp_eq _ _).mpr z)
                      have n1 : ¬ (wV (A 6) F T) = tl (q7 115 101 116 116 105 110 103) 7 := fun z => c5 ((lg_cmp_eq _ _).mpr z)
                      have n2 : ¬ (wV (A 6) F T) = tl (q7 115 99 114 101 101 110 0) 7 := fun z => c7 ((lg_cmp_eq _ _).mpr z)
                      have n3 : ¬ (wV (A 6) F T) = tl (q7 112 117 116 0 0 0 0) 7 := fun z => c10 ((lg_cmp_eq _ _).mpr z)
                      have n4 : ¬ (wV (A 6) F T) = tl (q7 115 97 121 0 0 0 0) 7 := fun z => c12 ((lg_cmp_eq _ _).mpr z)
                      have n5 : ¬ (wV (A 6) F T) = tl (q7 115 104 111 119 0 0 0) 7 := fun z => c14 ((lg_cmp_eq _ _).mpr z)
                      have n6 : ¬ (wV (A 6) F T) = tl (q7 105 102 0 0 0 0 0) 7 := fun z => c16 ((lg_cmp_eq _ _).mpr z)
                      have n7 : ¬ (wV (A 6) F T) = tl (q7 107 101 121 0 0 0 0) 7 := fun z => c18 ((lg_cmp_eq _ _).mpr z)
                      have n8 : ¬ (wV (A 6) F T) = tl (q7 98 97 114 0 0 0 0) 7 := fun z => c20 ((lg_cmp_eq _ _).mpr z)
                      have hkd : lkd (wV (A 6) F T) = 9 := by unfold lkd; rw [if_neg n0, if_neg n1, if_neg n2, if_neg n3, if_neg n4, if_neg n5, if_neg n6, if_neg n7, if_neg n8]
                      exact mq_iret hQ C X hr rfl hlk (⟨x, y, A, B, M, (fun _ _ _ _ _ _ _ _ => rfl), (fun k q11 => rfl), Or.inr ⟨by rw [hkd]; rfl, rfl, lKeep.rf⟩⟩) (Nat.le_refl _) (Nat.le_refl _) d_MenuScreensModel_line_249
                    · skip
                      refine lv_aload_n hx hb d_MenuScreensModel_line_230 rfl (lv_at hl 1 rfl) ?_
                      refine lv_lconst (v := 0) hx hb d_MenuScreensModel_line_231 (by decide) ?_
                      refine lv_ldc2 (v := 999) hx hb C.1.2.2.2.1 (C.1.2.2.2.2 _ (gt_6 50 (by decide +kernel) rfl)) d_MenuScreensModel_line_232 ?_
                      have n0 : ¬ (wV (A 6) F T) = tl (q7 110 97 109 101 0 0 0) 7 := fun z => c3 ((lg_cmp_eq _ _).mpr z)
                      have n1 : ¬ (wV (A 6) F T) = tl (q7 115 101 116 116 105 110 103) 7 := fun z => c5 ((lg_cmp_eq _ _).mpr z)
                      have n2 : ¬ (wV (A 6) F T) = tl (q7 115 99 114 101 101 110 0) 7 := fun z => c7 ((lg_cmp_eq _ _).mpr z)
                      have n3 : ¬ (wV (A 6) F T) = tl (q7 112 117 116 0 0 0 0) 7 := fun z => c10 ((lg_cmp_eq _ _).mpr z)
                      have n4 : ¬ (wV (A 6) F T) = tl (q7 115 97 121 0 0 0 0) 7 := fun z => c12 ((lg_cmp_eq _ _).mpr z)
                      have n5 : ¬ (wV (A 6) F T) = tl (q7 115 104 111 119 0 0 0) 7 := fun z => c14 ((lg_cmp_eq _ _).mpr z)
                      have n6 : ¬ (wV (A 6) F T) = tl (q7 105 102 0 0 0 0 0) 7 := fun z => c16 ((lg_cmp_eq _ _).mpr z)
                      have n7 : ¬ (wV (A 6) F T) = tl (q7 107 101 121 0 0 0 0) 7 := fun z => c18 ((lg_cmp_eq _ _).mpr z)
                      have n8 : (wV (A 6) F T) = tl (q7 98 97 114 0 0 0 0) 7 := (lg_cmp_eq _ _).mp c20
                      have hkd : lkd (wV (A 6) F T) = 8 := by unfold lkd; rw [if_neg n0, if_neg n1, if_neg n2, if_neg n3, if_neg n4, if_neg n5, if_neg n6, if_neg n7, if_pos n8]
                      refine mv_bi X (mv_rV (rest := []) (As := [.long 0, .long 999]) gt_good C X k_12_199 (cm_MenuScreensModel_number hE M.1 _ _ (i0 := T) (e0 := e0) hat hend (by omega) he) M.1.1 rfl rfl ⟨by decide, by decide⟩ rfl hl.1 rfl (Nat.le_of_ble_eq_true rfl) d_MenuScreensModel_line_235 ⟨Nat.le_refl _, Nat.le_refl _⟩) (fun r21 hN H locs hp X => ?_)
                      obtain ⟨x1, yn22, M1, rfl, kyn22, vyn22, er21⟩ := hp
                      replace M := M.trans M1
                      replace er21 : r21 = bI (cNu (A 6) e0 T 0 999) := er21
                      replace vyn22 : r21 = 1 → yn22 11 = vNu (A 6) e0 T := vyn22
                      refine lv_if_eq (tgt := 248) hx hb d_MenuScreensModel_line_238 (by decide) (fun c23 => ?_) (fun c23 => ?_)
                      · skip
                        refine lv_iconst (v := 0) hx hb d_MenuScreensModel_line_248 (by decide) ?_
                        exact mq_iret hQ C X hr rfl hlk (⟨(upd (upd (upd x 7 (nI (nT (A 6) e0 T))) 9 (nI (nF (A 6) e0 T))) 10 (nI (nT (A 6) e0 T))), yn22, A, B, M, (fun k q7 q9 q10 q12 q20 q28 q39 => by simp [upd, q7, q9, q10]), (fun k q11 => by rw [kyn22 k q11]), Or.inr ⟨by rw [hkd]; show (_ && (cNu (A 6) e0 T 0 999 && _)) = false; rw [show cNu (A 6) e0 T 0 999 = false from bI_0 (er21.symm.trans c23)]; simp, rfl, lKeep.rf⟩⟩) (Nat.le_refl _) (Nat.le_refl _) d_MenuScreensModel_line_249
                      · skip
                        refine lv_aload_n hx hb d_MenuScreensModel_line_241 rfl (lv_at hl 1 rfl) ?_
                        have a1 : cNu (A 6) e0 T 0 999 = true := bI_n (fun z => c23 (er21.trans z))
                        refine mv_bi X (mv_rV (rest := []) (As := []) gt_good C X k_12_202 (cm_MenuScreensModel_through hE M.1 (i0 := (nT (A 6) e0 T)) (e0 := e0) rfl hend (nT_in (A 6) (by omega)).2 he) M.1.1 rfl rfl ⟨by decide, by decide⟩ rfl hl.1 rfl (Nat.le_of_ble_eq_true rfl) d_MenuScreensModel_line_242 ⟨Nat.le_refl _, Nat.le_refl _⟩) (fun r24 hN H locs hp X => ?_)
                        obtain ⟨x1, M1, rfl, er24⟩ := hp
                        replace M := M.trans M1
                        replace er24 : r24 = bI (cEnd (A 6) e0 (nT (A 6) e0 T)) := er24
                        refine lv_if_ne (tgt := 250) hx hb d_MenuScreensModel_line_245 (by decide) (fun c25 => ?_) (fun c25 => ?_)
                        · skip
                          have a2 : cEnd (A 6) e0 (nT (A 6) e0 T) = true := bI_n (fun z => c25 (er24.trans z))
                          have ev := vyn22 (by rw [er21, a1]; rfl)
                          refine lv_aload_n hx hb d_MenuScreensModel_line_250 rfl (lv_at hl 1 rfl) ?_
                          refine mm_get C X M 24 f_12_48_13 (.ref (ar 24)) rfl d_MenuScreensModel_line_251 ?_
                          refine lv_aload_n hx hb d_MenuScreensModel_line_254 rfl (lv_at hl 1 rfl) ?_
                          refine mm_get C X M 20 f_12_169_13 (.int (x 20)) rfl d_MenuScreensModel_line_255 ?_
                          refine lv_aload_n hx hb d_MenuScreensModel_line_258 rfl (lv_at hl 1 rfl) ?_
                          refine mm_get C X M 11 f_12_152_13 (.long (yn22 11)) rfl d_MenuScreensModel_line_259 ?_
                          refine mm_last C X M 24 31 rfl (B 24) rfl (fun _ => rfl) (by decide) ns hns (by omega) d_MenuScreensModel_line_262 (fun h H locs X M => ?_)
                          refine lv_iconst (v := 1) hx hb d_MenuScreensModel_line_263 (by decide) ?_
                          exact mq_iret hQ C X hr rfl hlk (⟨(upd (upd (upd x 7 (nI (nT (A 6) e0 (nT (A 6) e0 T)))) 9 (nI (nF (A 6) e0 (nT (A 6) e0 T)))) 10 (nI (nT (A 6) e0 (nT (A 6) e0 T)))), yn22, A, (va_up B 24 (vp_updL (B 24) ns (yn22 11))), M, (fun k q7 q9 q10 q12 q20 q28 q39 => by simp [upd, q7, q9, q10]), (fun k q11 => by rw [kyn22 k q11]), Or.inl ⟨by rw [hkd]; show (decide (ns ≠ 0) && (cNu (A 6) e0 T 0 999 && cEnd (A 6) e0 (nT (A 6) e0 T))) = true; rw [decide_eq_true (p := ns ≠ 0) hns0, a1, a2]; rfl, rfl, by rw [hkd]; exact hnv, by rw [hkd]; exact hns, by rw [hkd]; exact hnp, by rw [hkd]; exact hnc, by rw [hkd]; rfl, by rw [hkd, ev]; rfl⟩⟩) (Nat.le_refl _) (Nat.le_refl _) d_MenuScreensModel_line_264
                        · skip
                          refine lv_iconst (v := 0) hx hb d_MenuScreensModel_line_248 (by decide) ?_
                          exact mq_iret hQ C X hr rfl hlk (⟨(upd (upd (upd x 7 (nI (nT (A 6) e0 (nT (A 6) e0 T)))) 9 (nI (nF (A 6) e0 (nT (A 6) e0 T)))) 10 (nI (nT (A 6) e0 (nT (A 6) e0 T)))), yn22, A, B, M, (fun k q7 q9 q10 q12 q20 q28 q39 => by simp [upd, q7, q9, q10]), (fun k q11 => by rw [kyn22 k q11]), Or.inr ⟨by rw [hkd]; show (_ && (_ && cEnd (A 6) e0 (nT (A 6) e0 T))) = false; rw [show cEnd (A 6) e0 (nT (A 6) e0 T) = false from bI_0 (er24.symm.trans c25)]; simp, rfl, lKeep.rf⟩⟩) (Nat.le_refl _) (Nat.le_refl _) d_MenuScreensModel_line_249
                  · skip
                    refine lv_aload_n hx hb d_MenuScreensModel_line_207 rfl (lv_at hl 1 rfl) ?_
                    have n0 : ¬ (wV (A 6) F T) = tl (q7 110 97 109 101 0 0 0) 7 := fun z => c3 ((lg_cmp_eq _ _).mpr z)
                    have n1 : ¬ (wV (A 6) F T) = tl (q7 115 101 116 116 105 110 103) 7 := fun z => c5 ((lg_cmp_eq _ _).mpr z)
                    have n2 : ¬ (wV (A 6) F T) = tl (q7 115 99 114 101 101 110 0) 7 := fun z => c7 ((lg_cmp_eq _ _).mpr z)
                    have n3 : ¬ (wV (A 6) F T) = tl (q7 112 117 116 0 0 0 0) 7 := fun z => c10 ((lg_cmp_eq _ _).mpr z)
                    have n4 : ¬ (wV (A 6) F T) = tl (q7 115 97 121 0 0 0 0) 7 := fun z => c12 ((lg_cmp_eq _ _).mpr z)
                    have n5 : ¬ (wV (A 6) F T) = tl (q7 115 104 111 119 0 0 0) 7 := fun z => c14 ((lg_cmp_eq _ _).mpr z)
                    have n6 : ¬ (wV (A 6) F T) = tl (q7 105 102 0 0 0 0 0) 7 := fun z => c16 ((lg_cmp_eq _ _).mpr z)
                    have n7 : (wV (A 6) F T) = tl (q7 107 101 121 0 0 0 0) 7 := (lg_cmp_eq _ _).mp c18
                    have hkd : lkd (wV (A 6) F T) = 7 := by unfold lkd; rw [if_neg n0, if_neg n1, if_neg n2, if_neg n3, if_neg n4, if_neg n5, if_neg n6, if_pos n7]
                    refine mv_bi X (mv_rV (rest := []) (As := []) gt_good C X k_12_194 (cm_MenuScreensModel_addKey hE M.1 (i0 := T) (e0 := e0) hat hend (by omega) he (ns := ns) hns hns2) M.1.1 rfl rfl ⟨by decide, by decide⟩ rfl hl.1 rfl (Nat.le_of_ble_eq_true rfl) d_MenuScreensModel_line_208 ⟨Nat.le_refl _, Nat.le_refl _⟩) (fun r26 hN H locs hp X => ?_)
                    obtain ⟨x1, y1, A1, M1, kx, ky, hc⟩ := hp
                    replace M := M.trans M1
                    rcases hc with ⟨ok, er, eA⟩ | ⟨ok, er, eA⟩
                    · exact mq_iret hQ C X hr (by rw [er]; rfl) hlk ⟨x1, y1, A1, B, M, (fun k q7 q9 q10 q12 q20 q28 q39 => kx k q7 q9 q10), ky, Or.inl ⟨by rw [hkd]; show _ = true; show (decide (ns ≠ 0) && _) = true; rw [decide_eq_true (p := ns ≠ 0) hns0, Bool.true_and]; exact ok, er, by rw [hkd]; exact (kx 12 (by decide) (by decide) (by decide)).trans hnv, by rw [hkd]; exact (kx 20 (by decide) (by decide) (by decide)).trans hns, by rw [hkd]; exact (kx 28 (by decide) (by decide) (by decide)).trans hnp, by rw [hkd]; exact (kx 39 (by decide) (by decide) (by decide)).trans hnc, by rw [hkd, eA]; rfl, by rw [hkd]; rfl⟩⟩ (Nat.le_refl _) (Nat.le_refl _) d_MenuScreensModel_line_211
                    · exact mq_iret hQ C X hr (by rw [er]; rfl) hlk ⟨x1, y1, A1, B, M, (fun k q7 q9 q10 q12 q20 q28 q39 => kx k q7 q9 q10), ky, Or.inr ⟨by rw [hkd]; show _ = false; show (decide (ns ≠ 0) && _) = false; rw [decide_eq_true (p := ns ≠ 0) hns0, Bool.true_and]; exact ok, er, by subst eA; exact lKeep.rf⟩⟩ (Nat.le_refl _) (Nat.le_refl _) d_MenuScreensModel_line_211
                · skip
                  refine lv_aload_n hx hb d_MenuScreensModel_line_184 rfl (lv_at hl 1 rfl) ?_
                  have n0 : ¬ (wV (A 6) F T) = tl (q7 110 97 109 101 0 0 0) 7 := fun z => c3 ((lg_cmp_eq _ _).mpr z)
                  have n1 : ¬ (wV (A 6) F T) = tl (q7 115 101 116 116 105 110 103) 7 := fun z => c5 ((lg_cmp_eq _ _).mpr z)
                  have n2 : ¬ (wV (A 6) F T) = tl (q7 115 99 114 101 101 110 0) 7 := fun z => c7 ((lg_cmp_eq _ _).mpr z)
                  have n3 : ¬ (wV (A 6) F T) = tl (q7 112 117 116 0 0 0 0) 7 := fun z => c10 ((lg_cmp_eq _ _).mpr z)
                  have n4 : ¬ (wV (A 6) F T) = tl (q7 115 97 121 0 0 0 0) 7 := fun z => c12 ((lg_cmp_eq _ _).mpr z)
                  have n5 : ¬ (wV (A 6) F T) = tl (q7 115 104 111 119 0 0 0) 7 := fun z => c14 ((lg_cmp_eq _ _).mpr z)
                  have n6 : (wV (A 6) F T) = tl (q7 105 102 0 0 0 0 0) 7 := (lg_cmp_eq _ _).mp c16
                  have hkd : lkd (wV (A 6) F T) = 6 := by unfold lkd; rw [if_neg n0, if_neg n1, if_neg n2, if_neg n3, if_neg n4, if_neg n5, if_pos n6]
                  refine mv_bi X (mv_rV (rest := []) (As := []) gt_good C X k_12_191 (cm_MenuScreensModel_addCondition hE M.1 (i0 := T) (e0 := e0) hat hend (by omega) he (nv := nv) hnv hnv2 hRV (nc := nc) hnc hnc2) M.1.1 rfl rfl ⟨by decide, by decide⟩ rfl hl.1 rfl (Nat.le_of_ble_eq_true rfl) d_MenuScreensModel_line_185 ⟨Nat.le_refl _, Nat.le_refl _⟩) (fun r27 hN H locs hp X => ?_)
                  obtain ⟨x1, y1, A1, B1, M1, kx, ky, hc⟩ := hp
                  replace M := M.trans M1
                  rcases hc with ⟨ok, er, hx1, eA, eB⟩ | ⟨ok, er, hx1, eA, eB⟩
                  · exact mq_iret hQ C X hr (by rw [er]; rfl) hlk ⟨x1, y1, A1, B1, M, (fun k q7 q9 q10 q12 q20 q28 q39 => kx k q7 q9 q10 q39), ky, Or.inl ⟨by rw [hkd]; show _ = true; show (decide (ns ≠ 0) && _) = true; rw [decide_eq_true (p := ns ≠ 0) hns0, Bool.true_and]; exact ok, er, by rw [hkd]; exact (kx 12 (by decide) (by decide) (by decide) (by decide)).trans hnv, by rw [hkd]; exact (kx 20 (by decide) (by decide) (by decide) (by decide)).trans hns, by rw [hkd]; exact (kx 28 (by decide) (by decide) (by decide) (by decide)).trans hnp, by rw [hkd]; exact hx1, by rw [hkd, eA]; show _ = coA _ _ _ _ _ _; rw [hns]; rfl, by rw [hkd, eB]; rfl⟩⟩ (Nat.le_refl _) (Nat.le_refl _) d_MenuScreensModel_line_188
                  · exact mq_iret hQ C X hr (by rw [er]; rfl) hlk ⟨x1, y1, A1, B1, M, (fun k q7 q9 q10 q12 q20 q28 q39 => kx k q7 q9 q10 q39), ky, Or.inr ⟨by rw [hkd]; show _ = false; show (decide (ns ≠ 0) && _) = false; rw [decide_eq_true (p := ns ≠ 0) hns0, Bool.true_and]; exact ok, er, by subst eA eB; exact lKeep.rf⟩⟩ (Nat.le_refl _) (Nat.le_refl _) d_MenuScreensModel_line_188
              · skip
                refine lv_aload_n hx hb d_MenuScreensModel_line_161 rfl (lv_at hl 1 rfl) ?_
                refine lv_iconst (v := 2) hx hb d_MenuScreensModel_line_162 (by decide) ?_
                have n0 : ¬ (wV (A 6) F T) = tl (q7 110 97 109 101 0 0 0) 7 := fun z => c3 ((lg_cmp_eq _ _).mpr z)
                have n1 : ¬ (wV (A 6) F T) = tl (q7 115 101 116 116 105 110 103) 7 := fun z => c5 ((lg_cmp_eq _ _).mpr z)
                have n2 : ¬ (wV (A 6) F T) = tl (q7 115 99 114 101 101 110 0) 7 := fun z => c7 ((lg_cmp_eq _ _).mpr z)
                have n3 : ¬ (wV (A 6) F T) = tl (q7 112 117 116 0 0 0 0) 7 := fun z => c10 ((lg_cmp_eq _ _).mpr z)
                have n4 : ¬ (wV (A 6) F T) = tl (q7 115 97 121 0 0 0 0) 7 := fun z => c12 ((lg_cmp_eq _ _).mpr z)
                have n5 : (wV (A 6) F T) = tl (q7 115 104 111 119 0 0 0) 7 := (lg_cmp_eq _ _).mp c14
                have hkd : lkd (wV (A 6) F T) = 5 := by unfold lkd; rw [if_neg n0, if_neg n1, if_neg n2, if_neg n3, if_neg n4, if_pos n5]
                refine mv_bi X (mv_rV (rest := []) (As := [.int 2]) gt_good C X k_12_188 (cm_MenuScreensModel_addPart hE M.1 _ (i0 := T) (e0 := e0) hat hend (by omega) he (nv := nv) hnv hnv2 hRV (np := np) (nc := nc) hnp hnp2 hnc (by omega)) M.1.1 rfl rfl ⟨by decide, by decide⟩ rfl hl.1 rfl (Nat.le_of_ble_eq_true rfl) d_MenuScreensModel_line_163 ⟨Nat.le_refl _, Nat.le_refl _⟩) (fun r28 hN H locs hp X => ?_)
                obtain ⟨x1, y1, A1, B1, M1, kx, ky, hc⟩ := hp
                replace M := M.trans M1
                rcases hc with ⟨ok, er, hx1, eA, eB⟩ | ⟨ok, er, lk⟩
                · exact mq_iret hQ C X hr (by rw [er]; rfl) hlk ⟨x1, y1, A1, B1, M, (fun k q7 q9 q10 q12 q20 q28 q39 => kx k q7 q9 q10 q28), ky, Or.inl ⟨by rw [hkd]; show _ = true; show (decide (ns ≠ 0) && _) = true; rw [decide_eq_true (p := ns ≠ 0) hns0, Bool.true_and]; exact ok, er, by rw [hkd]; exact (kx 12 (by decide) (by decide) (by decide) (by decide)).trans hnv, by rw [hkd]; exact (kx 20 (by decide) (by decide) (by decide) (by decide)).trans hns, by rw [hkd]; exact hx1, by rw [hkd]; exact (kx 39 (by decide) (by decide) (by decide) (by decide)).trans hnc, by rw [hkd, eA]; show paA _ _ _ _ _ _ _ _ _ = paA _ _ _ _ _ _ _ _ _; rw [hns, hnp], by rw [hkd, eB]; rfl⟩⟩ (Nat.le_refl _) (Nat.le_refl _) d_MenuScreensModel_line_166
                · exact mq_iret hQ C X hr (by rw [er]; rfl) hlk ⟨x1, y1, A1, B1, M, (fun k q7 q9 q10 q12 q20 q28 q39 => kx k q7 q9 q10 q28), ky, Or.inr ⟨by rw [hkd]; show _ = false; show (decide (ns ≠ 0) && _) = false; rw [decide_eq_true (p := ns ≠ 0) hns0, Bool.true_and]; exact ok, er, lk⟩⟩ (Nat.le_refl _) (Nat.le_refl _) d_MenuScreensModel_line_166
            · skip
              refine lv_aload_n hx hb d_MenuScreensModel_line_136 rfl (lv_at hl 1 rfl) ?_
              refine lv_iconst (v := 1) hx hb d_MenuScreensModel_line_137 (by decide) ?_
              have n0 : ¬ (wV (A 6) F T) = tl (q7 110 97 109 101 0 0 0) 7 := fun z => c3 ((lg_cmp_eq _ _).mpr z)
              have n1 : ¬ (wV (A 6) F T) = tl (q7 115 101 116 116 105 110 103) 7 := fun z => c5 ((lg_cmp_eq _ _).mpr z)
              have n2 : ¬ (wV (A 6) F T) = tl (q7 115 99 114 101 101 110 0) 7 := fun z => c7 ((lg_cmp_eq _ _).mpr z)
              have n3 : ¬ (wV (A 6) F T) = tl (q7 112 117 116 0 0 0 0) 7 := fun z => c10 ((lg_cmp_eq _ _).mpr z)
              have n4 : (wV (A 6) F T) = tl (q7 115 97 121 0 0 0 0) 7 := (lg_cmp_eq _ _).mp c12
              have hkd : lkd (wV (A 6) F T) = 4 := by unfold lkd; rw [if_neg n0, if_neg n1, if_neg n2, if_neg n3, if_pos n4]
              refine mv_bi X (mv_rV (rest := []) (As := [.int 1]) gt_good C X k_12_188 (cm_MenuScreensModel_addPart hE M.1 _ (i0 := T) (e0 := e0) hat hend (by omega) he (nv := nv) hnv hnv2 hRV (np := np) (nc := nc) hnp hnp2 hnc (by omega)) M.1.1 rfl rfl ⟨by decide, by decide⟩ rfl hl.1 rfl (Nat.le_of_ble_eq_true rfl) d_MenuScreensModel_line_138 ⟨Nat.le_refl _, Nat.le_refl _⟩) (fun r29 hN H locs hp X => ?_)
              obtain ⟨x1, y1, A1, B1, M1, kx, ky, hc⟩ := hp
              replace M := M.trans M1
              rcases hc with ⟨ok, er, hx1, eA, eB⟩ | ⟨ok, er, lk⟩
              · exact mq_iret hQ C X hr (by rw [er]; rfl) hlk ⟨x1, y1, A1, B1, M, (fun k q7 q9 q10 q12 q20 q28 q39 => kx k q7 q9 q10 q28), ky, Or.inl ⟨by rw [hkd]; show _ = true; show (decide (ns ≠ 0) && _) = true; rw [decide_eq_true (p := ns ≠ 0) hns0, Bool.true_and]; exact ok, er, by rw [hkd]; exact (kx 12 (by decide) (by decide) (by decide) (by decide)).trans hnv, by rw [hkd]; exact (kx 20 (by decide) (by decide) (by decide) (by decide)).trans hns, by rw [hkd]; exact hx1, by rw [hkd]; exact (kx 39 (by decide) (by decide) (by decide) (by decide)).trans hnc, by rw [hkd, eA]; show paA _ _ _ _ _ _ _ _ _ = paA _ _ _ _ _ _ _ _ _; rw [hns, hnp], by rw [hkd, eB]; rfl⟩⟩ (Nat.le_refl _) (Nat.le_refl _) d_MenuScreensModel_line_141
              · exact mq_iret hQ C X hr (by rw [er]; rfl) hlk ⟨x1, y1, A1, B1, M, (fun k q7 q9 q10 q12 q20 q28 q39 => kx k q7 q9 q10 q28), ky, Or.inr ⟨by rw [hkd]; show _ = false; show (decide (ns ≠ 0) && _) = false; rw [decide_eq_true (p := ns ≠ 0) hns0, Bool.true_and]; exact ok, er, lk⟩⟩ (Nat.le_refl _) (Nat.le_refl _) d_MenuScreensModel_line_141
          · skip
            refine lv_aload_n hx hb d_MenuScreensModel_line_112 rfl (lv_at hl 1 rfl) ?_
            refine lv_iconst (v := 0) hx hb d_MenuScreensModel_line_113 (by decide) ?_
            have n0 : ¬ (wV (A 6) F T) = tl (q7 110 97 109 101 0 0 0) 7 := fun z => c3 ((lg_cmp_eq _ _).mpr z)
            have n1 : ¬ (wV (A 6) F T) = tl (q7 115 101 116 116 105 110 103) 7 := fun z => c5 ((lg_cmp_eq _ _).mpr z)
            have n2 : ¬ (wV (A 6) F T) = tl (q7 115 99 114 101 101 110 0) 7 := fun z => c7 ((lg_cmp_eq _ _).mpr z)
            have n3 : (wV (A 6) F T) = tl (q7 112 117 116 0 0 0 0) 7 := (lg_cmp_eq _ _).mp c10
            have hkd : lkd (wV (A 6) F T) = 3 := by unfold lkd; rw [if_neg n0, if_neg n1, if_neg n2, if_pos n3]
            refine mv_bi X (mv_rV (rest := []) (As := [.int 0]) gt_good C X k_12_188 (cm_MenuScreensModel_addPart hE M.1 _ (i0 := T) (e0 := e0) hat hend (by omega) he (nv := nv) hnv hnv2 hRV (np := np) (nc := nc) hnp hnp2 hnc (by omega)) M.1.1 rfl rfl ⟨by decide, by decide⟩ rfl hl.1 rfl (Nat.le_of_ble_eq_true rfl) d_MenuScreensModel_line_114 ⟨Nat.le_refl _, Nat.le_refl _⟩) (fun r30 hN H locs hp X => ?_)
            obtain ⟨x1, y1, A1, B1, M1, kx, ky, hc⟩ := hp
            replace M := M.trans M1
            rcases hc with ⟨ok, er, hx1, eA, eB⟩ | ⟨ok, er, lk⟩
            · exact mq_iret hQ C X hr (by rw [er]; rfl) hlk ⟨x1, y1, A1, B1, M, (fun k q7 q9 q10 q12 q20 q28 q39 => kx k q7 q9 q10 q28), ky, Or.inl ⟨by rw [hkd]; show _ = true; show (decide (ns ≠ 0) && _) = true; rw [decide_eq_true (p := ns ≠ 0) hns0, Bool.true_and]; exact ok, er, by rw [hkd]; exact (kx 12 (by decide) (by decide) (by decide) (by decide)).trans hnv, by rw [hkd]; exact (kx 20 (by decide) (by decide) (by decide) (by decide)).trans hns, by rw [hkd]; exact hx1, by rw [hkd]; exact (kx 39 (by decide) (by decide) (by decide) (by decide)).trans hnc, by rw [hkd, eA]; show paA _ _ _ _ _ _ _ _ _ = paA _ _ _ _ _ _ _ _ _; rw [hns, hnp], by rw [hkd, eB]; rfl⟩⟩ (Nat.le_refl _) (Nat.le_refl _) d_MenuScreensModel_line_117
            · exact mq_iret hQ C X hr (by rw [er]; rfl) hlk ⟨x1, y1, A1, B1, M, (fun k q7 q9 q10 q12 q20 q28 q39 => kx k q7 q9 q10 q28), ky, Or.inr ⟨by rw [hkd]; show _ = false; show (decide (ns ≠ 0) && _) = false; rw [decide_eq_true (p := ns ≠ 0) hns0, Bool.true_and]; exact ok, er, lk⟩⟩ (Nat.le_refl _) (Nat.le_refl _) d_MenuScreensModel_line_117
        · skip
          refine lv_iconst (v := 0) hx hb d_MenuScreensModel_line_92 (by decide) ?_
          have hns0 : ns = 0 := nI_eqI (by omega) (by decide) (by rw [← hns]; exact c8)
          have hk2 : ∀ k, ¬ k = 0 → ¬ k = 1 → ¬ k = 2 → okLn A e0 T nv ns k = false := fun k q0 q1 q2 => by
            rw [hns0]
            match k, q0, q1, q2 with
            | 0, q, _, _ => exact absurd rfl q
            | 1, _, q, _ => exact absurd rfl q
            | 2, _, _, q => exact absurd rfl q
            | 3, _, _, _ => rfl
            | 4, _, _, _ => rfl
            | 5, _, _, _ => rfl
            | 6, _, _, _ => rfl
            | 7, _, _, _ => rfl
            | 8, _, _, _ => rfl
            | n + 9, _, _, _ => rfl
          have n0 : ¬ (wV (A 6) F T) = tl (q7 110 97 109 101 0 0 0) 7 := fun z => c3 ((lg_cmp_eq _ _).mpr z)
          have n1 : ¬ (wV (A 6) F T) = tl (q7 115 101 116 116 105 110 103) 7 := fun z => c5 ((lg_cmp_eq _ _).mpr z)
          have n2 : ¬ (wV (A 6) F T) = tl (q7 115 99 114 101 101 110 0) 7 := fun z => c7 ((lg_cmp_eq _ _).mpr z)
          have hkg : 3 ≤ lkd (wV (A 6) F T) := by unfold lkd; rw [if_neg n0, if_neg n1, if_neg n2]; repeat (first | omega | split)
          exact mq_iret hQ C X hr rfl hlk (⟨x, y, A, B, M, (fun _ _ _ _ _ _ _ _ => rfl), (fun k q11 => rfl), Or.inr ⟨hk2 _ (by omega) (by omega) (by omega), rfl, lKeep.rf⟩⟩) (Nat.le_refl _) (Nat.le_refl _) d_MenuScreensModel_line_93
      · skip
        refine lv_aload_n hx hb d_MenuScreensModel_line_79 rfl (lv_at hl 1 rfl) ?_
        refine lv_iload_n hx hb d_MenuScreensModel_line_80 rfl (lv_at hl 2 rfl) ?_
        have n0 : ¬ (wV (A 6) F T) = tl (q7 110 97 109 101 0 0 0) 7 := fun z => c3 ((lg_cmp_eq _ _).mpr z)
        have n1 : ¬ (wV (A 6) F T) = tl (q7 115 101 116 116 105 110 103) 7 := fun z => c5 ((lg_cmp_eq _ _).mpr z)
        have n2 : (wV (A 6) F T) = tl (q7 115 99 114 101 101 110 0) 7 := (lg_cmp_eq _ _).mp c7
        have hkd : lkd (wV (A 6) F T) = 2 := by unfold lkd; rw [if_neg n0, if_neg n1, if_pos n2]
        refine mv_bi X (mv_rV (rest := []) (As := [.int p1]) gt_good C X k_12_184 (cm_MenuScreensModel_addScreen hE M.1 _ (i0 := T) (e0 := e0) hat hend (by omega) he (ns := ns) hns hns2 hR) M.1.1 rfl rfl ⟨by decide, by decide⟩ rfl hl.1 rfl (Nat.le_of_ble_eq_true rfl) d_MenuScreensModel_line_81 ⟨Nat.le_refl _, Nat.le_refl _⟩) (fun r31 hN H locs hp X => ?_)
        obtain ⟨x1, A1, B1, M1, kx, hc⟩ := hp
        replace M := M.trans M1
        rcases hc with ⟨ok, er, hx1, eA, eB⟩ | ⟨ok, er, hx1, eA, eB⟩
        · exact mq_iret hQ C X hr (by rw [er]; rfl) hlk ⟨x1, y, A1, B1, M, (fun k q7 q9 q10 q12 q20 q28 q39 => kx k q7 q9 q10 q20), (fun _ _ => rfl), Or.inl ⟨by rw [hkd]; show _ = true; exact ok, er, by rw [hkd]; exact (kx 12 (by decide) (by decide) (by decide) (by decide)).trans hnv, by rw [hkd]; exact hx1, by rw [hkd]; exact (kx 28 (by decide) (by decide) (by decide) (by decide)).trans hnp, by rw [hkd]; exact (kx 39 (by decide) (by decide) (by decide) (by decide)).trans hnc, by rw [hkd, eA]; rfl, by rw [hkd, eB]; rfl⟩⟩ (Nat.le_refl _) (Nat.le_refl _) d_MenuScreensModel_line_84
        · exact mq_iret hQ C X hr (by rw [er]; rfl) hlk ⟨x1, y, A1, B1, M, (fun k q7 q9 q10 q12 q20 q28 q39 => kx k q7 q9 q10 q20), (fun _ _ => rfl), Or.inr ⟨by rw [hkd]; show _ = false; exact ok, er, by subst eA eB; exact lKeep.rf⟩⟩ (Nat.le_refl _) (Nat.le_refl _) d_MenuScreensModel_line_84
    · skip
      refine lv_aload_n hx hb d_MenuScreensModel_line_52 rfl (lv_at hl 1 rfl) ?_
      refine lv_iconst (v := 1) hx hb d_MenuScreensModel_line_53 (by decide) ?_
      have n0 : ¬ (wV (A 6) F T) = tl (q7 110 97 109 101 0 0 0) 7 := fun z => c3 ((lg_cmp_eq _ _).mpr z)
      have n1 : (wV (A 6) F T) = tl (q7 115 101 116 116 105 110 103) 7 := (lg_cmp_eq _ _).mp c5
      have hkd : lkd (wV (A 6) F T) = 1 := by unfold lkd; rw [if_neg n0, if_pos n1]
      refine mv_bi X (mv_rV (rest := []) (As := [.int 1]) gt_good C X k_12_180 (cm_MenuScreensModel_addValue hE M.1 _ (i0 := T) (e0 := e0) hat hend (by omega) he (nv := nv) hnv hnv2 hRV rfl) M.1.1 rfl rfl ⟨by decide, by decide⟩ rfl hl.1 rfl (Nat.le_of_ble_eq_true rfl) d_MenuScreensModel_line_54 ⟨Nat.le_refl _, Nat.le_refl _⟩) (fun r32 hN H locs hp X => ?_)
      obtain ⟨x1, y1, A1, B1, M1, kx, ky, hc⟩ := hp
      replace M := M.trans M1
      rcases hc with ⟨ok, er, hx1, eA, eB⟩ | ⟨ok, er, hx1, eA, eB⟩
      · exact mq_iret hQ C X hr (by rw [er]; rfl) hlk ⟨x1, y1, A1, B1, M, (fun k q7 q9 q10 q12 q20 q28 q39 => kx k q7 q9 q10 q12), ky, Or.inl ⟨by rw [hkd]; show _ = true; exact ok, er, by rw [hkd]; exact hx1, by rw [hkd]; exact (kx 20 (by decide) (by decide) (by decide) (by decide)).trans hns, by rw [hkd]; exact (kx 28 (by decide) (by decide) (by decide) (by decide)).trans hnp, by rw [hkd]; exact (kx 39 (by decide) (by decide) (by decide) (by decide)).trans hnc, by rw [hkd, eA]; rfl, by rw [hkd, eB]; rfl⟩⟩ (Nat.le_refl _) (Nat.le_refl _) d_MenuScreensModel_line_57
      · exact mq_iret hQ C X hr (by rw [er]; rfl) hlk ⟨x1, y1, A1, B1, M, (fun k q7 q9 q10 q12 q20 q28 q39 => kx k q7 q9 q10 q12), ky, Or.inr ⟨by rw [hkd]; show _ = false; exact ok, er, by subst eA eB; exact lKeep.rf⟩⟩ (Nat.le_refl _) (Nat.le_refl _) d_MenuScreensModel_line_57
  · skip
    refine lv_aload_n hx hb d_MenuScreensModel_line_24 rfl (lv_at hl 1 rfl) ?_
    refine lv_iconst (v := 0) hx hb d_MenuScreensModel_line_25 (by decide) ?_
    have n0 : (wV (A 6) F T) = tl (q7 110 97 109 101 0 0 0) 7 := (lg_cmp_eq _ _).mp c3
    have hkd : lkd (wV (A 6) F T) = 0 := by unfold lkd; rw [if_pos n0]
    refine mv_bi X (mv_rV (rest := []) (As := [.int 0]) gt_good C X k_12_180 (cm_MenuScreensModel_addValue hE M.1 _ (i0 := T) (e0 := e0) hat hend (by omega) he (nv := nv) hnv hnv2 hRV rfl) M.1.1 rfl rfl ⟨by decide, by decide⟩ rfl hl.1 rfl (Nat.le_of_ble_eq_true rfl) d_MenuScreensModel_line_26 ⟨Nat.le_refl _, Nat.le_refl _⟩) (fun r33 hN H locs hp X => ?_)
    obtain ⟨x1, y1, A1, B1, M1, kx, ky, hc⟩ := hp
    replace M := M.trans M1
    rcases hc with ⟨ok, er, hx1, eA, eB⟩ | ⟨ok, er, hx1, eA, eB⟩
    · exact mq_iret hQ C X hr (by rw [er]; rfl) hlk ⟨x1, y1, A1, B1, M, (fun k q7 q9 q10 q12 q20 q28 q39 => kx k q7 q9 q10 q12), ky, Or.inl ⟨by rw [hkd]; show _ = true; exact ok, er, by rw [hkd]; exact hx1, by rw [hkd]; exact (kx 20 (by decide) (by decide) (by decide) (by decide)).trans hns, by rw [hkd]; exact (kx 28 (by decide) (by decide) (by decide) (by decide)).trans hnp, by rw [hkd]; exact (kx 39 (by decide) (by decide) (by decide) (by decide)).trans hnc, by rw [hkd, eA]; rfl, by rw [hkd, eB]; rfl⟩⟩ (Nat.le_refl _) (Nat.le_refl _) d_MenuScreensModel_line_29
    · exact mq_iret hQ C X hr (by rw [er]; rfl) hlk ⟨x1, y1, A1, B1, M, (fun k q7 q9 q10 q12 q20 q28 q39 => kx k q7 q9 q10 q12), ky, Or.inr ⟨by rw [hkd]; show _ = false; exact ok, er, by subst eA eB; exact lKeep.rf⟩⟩ (Nat.le_refl _) (Nat.le_refl _) d_MenuScreensModel_line_29
