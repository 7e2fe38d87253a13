theorem d_MenuScreensModel_addPart_0 : decode prog_13_method_17_code 0 = .ok (.aload_n 0, 1) := by decide +kernel
theorem d_MenuScreensModel_addPart_1 : decode prog_13_method_17_code 1 = .ok (.lconst 0, 1) := by decide +kernel
theorem d_MenuScreensModel_addPart_2 : decode prog_13_method_17_code 2 = .ok (.ldc2_w 214, 3) := by decide +kernel
theorem d_MenuScreensModel_addPart_5 : decode prog_13_method_17_code 5 = .ok (.invokevirtual 199, 3) := by decide +kernel
theorem d_MenuScreensModel_addPart_8 : decode prog_13_method_17_code 8 = .ok (.ifCond .ne 5, 3) := by decide +kernel
theorem d_MenuScreensModel_addPart_11 : decode prog_13_method_17_code 11 = .ok (.iconst 0, 1) := by decide +kernel
theorem d_MenuScreensModel_addPart_12 : decode prog_13_method_17_code 12 = .ok (.ireturn, 1) := by decide +kernel
theorem d_MenuScreensModel_addPart_13 : decode prog_13_method_17_code 13 = .ok (.aload_n 0, 1) := by decide +kernel
theorem d_MenuScreensModel_addPart_14 : decode prog_13_method_17_code 14 = .ok (.getfield 66, 3) := by decide +kernel
theorem d_MenuScreensModel_addPart_17 : decode prog_13_method_17_code 17 = .ok (.aload_n 0, 1) := by decide +kernel
theorem d_MenuScreensModel_addPart_18 : decode prog_13_method_17_code 18 = .ok (.getfield 222, 3) := by decide +kernel
theorem d_MenuScreensModel_addPart_21 : decode prog_13_method_17_code 21 = .ok (.aload_n 0, 1) := by decide +kernel
theorem d_MenuScreensModel_addPart_22 : decode prog_13_method_17_code 22 = .ok (.getfield 152, 3) := by decide +kernel
theorem d_MenuScreensModel_addPart_25 : decode prog_13_method_17_code 25 = .ok (.l2i, 1) := by decide +kernel
theorem d_MenuScreensModel_addPart_26 : decode prog_13_method_17_code 26 = .ok (.iastore, 1) := by decide +kernel
theorem d_MenuScreensModel_addPart_27 : decode prog_13_method_17_code 27 = .ok (.aload_n 0, 1) := by decide +kernel
theorem d_MenuScreensModel_addPart_28 : decode prog_13_method_17_code 28 = .ok (.lconst 0, 1) := by decide +kernel
theorem d_MenuScreensModel_addPart_29 : decode prog_13_method_17_code 29 = .ok (.ldc2_w 214, 3) := by decide +kernel
theorem d_MenuScreensModel_addPart_32 : decode prog_13_method_17_code 32 = .ok (.invokevirtual 199, 3) := by decide +kernel
theorem d_MenuScreensModel_addPart_35 : decode prog_13_method_17_code 35 = .ok (.ifCond .ne 5, 3) := by decide +kernel
theorem d_MenuScreensModel_addPart_38 : decode prog_13_method_17_code 38 = .ok (.iconst 0, 1) := by decide +kernel
theorem d_MenuScreensModel_addPart_39 : decode prog_13_method_17_code 39 = .ok (.ireturn, 1) := by decide +kernel
theorem d_MenuScreensModel_addPart_40 : decode prog_13_method_17_code 40 = .ok (.aload_n 0, 1) := by decide +kernel
theorem d_MenuScreensModel_addPart_41 : decode prog_13_method_17_code 41 = .ok (.getfield 69, 3) := by decide +kernel
theorem d_MenuScreensModel_addPart_44 : decode prog_13_method_17_code 44 = .ok (.aload_n 0, 1) := by decide +kernel
theorem d_MenuScreensModel_addPart_45 : decode prog_13_method_17_code 45 = .ok (.getfield 222, 3) := by decide +kernel
theorem d_MenuScreensModel_addPart_48 : decode prog_13_method_17_code 48 = .ok (.aload_n 0, 1) := by decide +kernel
theorem d_MenuScreensModel_addPart_49 : decode prog_13_method_17_code 49 = .ok (.getfield 152, 3) := by decide +kernel
theorem d_MenuScreensModel_addPart_52 : decode prog_13_method_17_code 52 = .ok (.l2i, 1) := by decide +kernel
theorem d_MenuScreensModel_addPart_53 : decode prog_13_method_17_code 53 = .ok (.iastore, 1) := by decide +kernel
theorem d_MenuScreensModel_addPart_54 : decode prog_13_method_17_code 54 = .ok (.iload_n 1, 1) := by decide +kernel
theorem d_MenuScreensModel_addPart_55 : decode prog_13_method_17_code 55 = .ok (.iconst 2, 1) := by decide +kernel
theorem d_MenuScreensModel_addPart_56 : decode prog_13_method_17_code 56 = .ok (.if_icmp .ne 66, 3) := by decide +kernel
theorem d_MenuScreensModel_addPart_59 : decode prog_13_method_17_code 59 = .ok (.aload_n 0, 1) := by decide +kernel
theorem d_MenuScreensModel_addPart_60 : decode prog_13_method_17_code 60 = .ok (.lconst 1, 1) := by decide +kernel
theorem d_MenuScreensModel_addPart_61 : decode prog_13_method_17_code 61 = .ok (.ldc2_w 225, 3) := by decide +kernel
theorem d_MenuScreensModel_addPart_64 : decode prog_13_method_17_code 64 = .ok (.invokevirtual 199, 3) := by decide +kernel
theorem d_MenuScreensModel_addPart_67 : decode prog_13_method_17_code 67 = .ok (.ifCond .ne 5, 3) := by decide +kernel
theorem d_MenuScreensModel_addPart_70 : decode prog_13_method_17_code 70 = .ok (.iconst 0, 1) := by decide +kernel
theorem d_MenuScreensModel_addPart_71 : decode prog_13_method_17_code 71 = .ok (.ireturn, 1) := by decide +kernel
theorem d_MenuScreensModel_addPart_72 : decode prog_13_method_17_code 72 = .ok (.aload_n 0, 1) := by decide +kernel
theorem d_MenuScreensModel_addPart_73 : decode prog_13_method_17_code 73 = .ok (.getfield 75, 3) := by decide +kernel
theorem d_MenuScreensModel_addPart_76 : decode prog_13_method_17_code 76 = .ok (.aload_n 0, 1) := by decide +kernel
theorem d_MenuScreensModel_addPart_77 : decode prog_13_method_17_code 77 = .ok (.getfield 222, 3) := by decide +kernel
theorem d_MenuScreensModel_addPart_80 : decode prog_13_method_17_code 80 = .ok (.aload_n 0, 1) := by decide +kernel
theorem d_MenuScreensModel_addPart_81 : decode prog_13_method_17_code 81 = .ok (.getfield 152, 3) := by decide +kernel
theorem d_MenuScreensModel_addPart_84 : decode prog_13_method_17_code 84 = .ok (.l2i, 1) := by decide +kernel
theorem d_MenuScreensModel_addPart_85 : decode prog_13_method_17_code 85 = .ok (.iastore, 1) := by decide +kernel
theorem d_MenuScreensModel_addPart_86 : decode prog_13_method_17_code 86 = .ok (.aload_n 0, 1) := by decide +kernel
theorem d_MenuScreensModel_addPart_87 : decode prog_13_method_17_code 87 = .ok (.invokevirtual 205, 3) := by decide +kernel
theorem d_MenuScreensModel_addPart_90 : decode prog_13_method_17_code 90 = .ok (.ifCond .ne 5, 3) := by decide +kernel
theorem d_MenuScreensModel_addPart_93 : decode prog_13_method_17_code 93 = .ok (.iconst 0, 1) := by decide +kernel
theorem d_MenuScreensModel_addPart_94 : decode prog_13_method_17_code 94 = .ok (.ireturn, 1) := by decide +kernel
theorem d_MenuScreensModel_addPart_95 : decode prog_13_method_17_code 95 = .ok (.aload_n 0, 1) := by decide +kernel
theorem d_MenuScreensModel_addPart_96 : decode prog_13_method_17_code 96 = .ok (.getfield 72, 3) := by decide +kernel
theorem d_MenuScreensModel_addPart_99 : decode prog_13_method_17_code 99 = .ok (.aload_n 0, 1) := by decide +kernel
theorem d_MenuScreensModel_addPart_100 : decode prog_13_method_17_code 100 = .ok (.getfield 222, 3) := by decide +kernel
theorem d_MenuScreensModel_addPart_103 : decode prog_13_method_17_code 103 = .ok (.aload_n 0, 1) := by decide +kernel
theorem d_MenuScreensModel_addPart_104 : decode prog_13_method_17_code 104 = .ok (.invokevirtual 208, 3) := by decide +kernel
theorem d_MenuScreensModel_addPart_107 : decode prog_13_method_17_code 107 = .ok (.iastore, 1) := by decide +kernel
theorem d_MenuScreensModel_addPart_108 : decode prog_13_method_17_code 108 = .ok (.aload_n 0, 1) := by decide +kernel
theorem d_MenuScreensModel_addPart_109 : decode prog_13_method_17_code 109 = .ok (.getfield 72, 3) := by decide +kernel
theorem d_MenuScreensModel_addPart_112 : decode prog_13_method_17_code 112 = .ok (.aload_n 0, 1) := by decide +kernel
theorem d_MenuScreensModel_addPart_113 : decode prog_13_method_17_code 113 = .ok (.getfield 222, 3) := by decide +kernel
theorem d_MenuScreensModel_addPart_116 : decode prog_13_method_17_code 116 = .ok (.iaload, 1) := by decide +kernel
theorem d_MenuScreensModel_addPart_117 : decode prog_13_method_17_code 117 = .ok (.ifCond .ne 80, 3) := by decide +kernel
theorem d_MenuScreensModel_addPart_120 : decode prog_13_method_17_code 120 = .ok (.iconst 0, 1) := by decide +kernel
theorem d_MenuScreensModel_addPart_121 : decode prog_13_method_17_code 121 = .ok (.ireturn, 1) := by decide +kernel
theorem d_MenuScreensModel_addPart_122 : decode prog_13_method_17_code 122 = .ok (.aload_n 0, 1) := by decide +kernel
theorem d_MenuScreensModel_addPart_123 : decode prog_13_method_17_code 123 = .ok (.invokevirtual 145, 3) := by decide +kernel
theorem d_MenuScreensModel_addPart_126 : decode prog_13_method_17_code 126 = .ok (.ifCond .ne 5, 3) := by decide +kernel
theorem d_MenuScreensModel_addPart_129 : decode prog_13_method_17_code 129 = .ok (.iconst 0, 1) := by decide +kernel
theorem d_MenuScreensModel_addPart_130 : decode prog_13_method_17_code 130 = .ok (.ireturn, 1) := by decide +kernel
theorem d_MenuScreensModel_addPart_131 : decode prog_13_method_17_code 131 = .ok (.aload_n 0, 1) := by decide +kernel
theorem d_MenuScreensModel_addPart_132 : decode prog_13_method_17_code 132 = .ok (.getfield 78, 3) := by decide +kernel
theorem d_MenuScreensModel_addPart_135 : decode prog_13_method_17_code 135 = .ok (.aload_n 0, 1) := by decide +kernel
theorem d_MenuScreensModel_addPart_136 : decode prog_13_method_17_code 136 = .ok (.getfield 222, 3) := by decide +kernel
theorem d_MenuScreensModel_addPart_139 : decode prog_13_method_17_code 139 = .ok (.aload_n 0, 1) := by decide +kernel
theorem d_MenuScreensModel_addPart_140 : decode prog_13_method_17_code 140 = .ok (.getfield 139, 3) := by decide +kernel
theorem d_MenuScreensModel_addPart_143 : decode prog_13_method_17_code 143 = .ok (.iastore, 1) := by decide +kernel
theorem d_MenuScreensModel_addPart_144 : decode prog_13_method_17_code 144 = .ok (.aload_n 0, 1) := by decide +kernel
theorem d_MenuScreensModel_addPart_145 : decode prog_13_method_17_code 145 = .ok (.getfield 81, 3) := by decide +kernel
theorem d_MenuScreensModel_addPart_148 : decode prog_13_method_17_code 148 = .ok (.aload_n 0, 1) := by decide +kernel
theorem d_MenuScreensModel_addPart_149 : decode prog_13_method_17_code 149 = .ok (.getfield 222, 3) := by decide +kernel
theorem d_MenuScreensModel_addPart_152 : decode prog_13_method_17_code 152 = .ok (.aload_n 0, 1) := by decide +kernel
theorem d_MenuScreensModel_addPart_153 : decode prog_13_method_17_code 153 = .ok (.getfield 142, 3) := by decide +kernel
theorem d_MenuScreensModel_addPart_156 : decode prog_13_method_17_code 156 = .ok (.iastore, 1) := by decide +kernel
theorem d_MenuScreensModel_addPart_157 : decode prog_13_method_17_code 157 = .ok (.iload_n 1, 1) := by decide +kernel
theorem d_MenuScreensModel_addPart_158 : decode prog_13_method_17_code 158 = .ok (.iconst 1, 1) := by decide +kernel
theorem d_MenuScreensModel_addPart_159 : decode prog_13_method_17_code 159 = .ok (.if_icmp .ne 12, 3) := by decide +kernel
theorem d_MenuScreensModel_addPart_162 : decode prog_13_method_17_code 162 = .ok (.aload_n 0, 1) := by decide +kernel
theorem d_MenuScreensModel_addPart_163 : decode prog_13_method_17_code 163 = .ok (.invokevirtual 145, 3) := by decide +kernel
theorem d_MenuScreensModel_addPart_166 : decode prog_13_method_17_code 166 = .ok (.ifCond .ne 5, 3) := by decide +kernel
theorem d_MenuScreensModel_addPart_169 : decode prog_13_method_17_code 169 = .ok (.iconst 0, 1) := by decide +kernel
theorem d_MenuScreensModel_addPart_170 : decode prog_13_method_17_code 170 = .ok (.ireturn, 1) := by decide +kernel
theorem d_MenuScreensModel_addPart_171 : decode prog_13_method_17_code 171 = .ok (.aload_n 0, 1) := by decide +kernel
theorem d_MenuScreensModel_addPart_172 : decode prog_13_method_17_code 172 = .ok (.getfield 84, 3) := by decide +kernel
theorem d_MenuScreensModel_addPart_175 : decode prog_13_method_17_code 175 = .ok (.aload_n 0, 1) := by decide +kernel
theorem d_MenuScreensModel_addPart_176 : decode prog_13_method_17_code 176 = .ok (.getfield 222, 3) := by decide +kernel
theorem d_MenuScreensModel_addPart_179 : decode prog_13_method_17_code 179 = .ok (.aload_n 0, 1) := by decide +kernel
theorem d_MenuScreensModel_addPart_180 : decode prog_13_method_17_code 180 = .ok (.getfield 139, 3) := by decide +kernel
theorem d_MenuScreensModel_addPart_183 : decode prog_13_method_17_code 183 = .ok (.iastore, 1) := by decide +kernel
theorem d_MenuScreensModel_addPart_184 : decode prog_13_method_17_code 184 = .ok (.aload_n 0, 1) := by decide +kernel
theorem d_MenuScreensModel_addPart_185 : decode prog_13_method_17_code 185 = .ok (.getfield 87, 3) := by decide +kernel
theorem d_MenuScreensModel_addPart_188 : decode prog_13_method_17_code 188 = .ok (.aload_n 0, 1) := by decide +kernel
theorem d_MenuScreensModel_addPart_189 : decode prog_13_method_17_code 189 = .ok (.getfield 222, 3) := by decide +kernel
theorem d_MenuScreensModel_addPart_192 : decode prog_13_method_17_code 192 = .ok (.aload_n 0, 1) := by decide +kernel
theorem d_MenuScreensModel_addPart_193 : decode prog_13_method_17_code 193 = .ok (.getfield 142, 3) := by decide +kernel
theorem d_MenuScreensModel_addPart_196 : decode prog_13_method_17_code 196 = .ok (.iastore, 1) := by decide +kernel
theorem d_MenuScreensModel_addPart_197 : decode prog_13_method_17_code 197 = .ok (.aload_n 0, 1) := by decide +kernel
theorem d_MenuScreensModel_addPart_198 : decode prog_13_method_17_code 198 = .ok (.invokevirtual 202, 3) := by decide +kernel
theorem d_MenuScreensModel_addPart_201 : decode prog_13_method_17_code 201 = .ok (.ifCond .ne 5, 3) := by decide +kernel
theorem d_MenuScreensModel_addPart_204 : decode prog_13_method_17_code 204 = .ok (.iconst 0, 1) := by decide +kernel
theorem d_MenuScreensModel_addPart_205 : decode prog_13_method_17_code 205 = .ok (.ireturn, 1) := by decide +kernel
theorem d_MenuScreensModel_addPart_206 : decode prog_13_method_17_code 206 = .ok (.aload_n 0, 1) := by decide +kernel
theorem d_MenuScreensModel_addPart_207 : decode prog_13_method_17_code 207 = .ok (.getfield 63, 3) := by decide +kernel
theorem d_MenuScreensModel_addPart_210 : decode prog_13_method_17_code 210 = .ok (.aload_n 0, 1) := by decide +kernel
theorem d_MenuScreensModel_addPart_211 : decode prog_13_method_17_code 211 = .ok (.getfield 222, 3) := by decide +kernel
theorem d_MenuScreensModel_addPart_214 : decode prog_13_method_17_code 214 = .ok (.iload_n 1, 1) := by decide +kernel
theorem d_MenuScreensModel_addPart_215 : decode prog_13_method_17_code 215 = .ok (.iastore, 1) := by decide +kernel
theorem d_MenuScreensModel_addPart_216 : decode prog_13_method_17_code 216 = .ok (.aload_n 0, 1) := by decide +kernel
theorem d_MenuScreensModel_addPart_217 : decode prog_13_method_17_code 217 = .ok (.getfield 60, 3) := by decide +kernel
theorem d_MenuScreensModel_addPart_220 : decode prog_13_method_17_code 220 = .ok (.aload_n 0, 1) := by decide +kernel
theorem d_MenuScreensModel_addPart_221 : decode prog_13_method_17_code 221 = .ok (.getfield 222, 3) := by decide +kernel
theorem d_MenuScreensModel_addPart_224 : decode prog_13_method_17_code 224 = .ok (.aload_n 0, 1) := by decide +kernel
theorem d_MenuScreensModel_addPart_225 : decode prog_13_method_17_code 225 = .ok (.getfield 169, 3) := by decide +kernel
theorem d_MenuScreensModel_addPart_228 : decode prog_13_method_17_code 228 = .ok (.iastore, 1) := by decide +kernel
theorem d_MenuScreensModel_addPart_229 : decode prog_13_method_17_code 229 = .ok (.iconst 0, 1) := by decide +kernel
theorem d_MenuScreensModel_addPart_230 : decode prog_13_method_17_code 230 = .ok (.istore_n 2, 1) := by decide +kernel
theorem d_MenuScreensModel_addPart_231 : decode prog_13_method_17_code 231 = .ok (.iload_n 2, 1) := by decide +kernel
theorem d_MenuScreensModel_addPart_232 : decode prog_13_method_17_code 232 = .ok (.aload_n 0, 1) := by decide +kernel
theorem d_MenuScreensModel_addPart_233 : decode prog_13_method_17_code 233 = .ok (.getfield 227, 3) := by decide +kernel
theorem d_MenuScreensModel_addPart_236 : decode prog_13_method_17_code 236 = .ok (.if_icmp .ge 41, 3) := by decide +kernel
theorem d_MenuScreensModel_addPart_239 : decode prog_13_method_17_code 239 = .ok (.aload_n 0, 1) := by decide +kernel
theorem d_MenuScreensModel_addPart_240 : decode prog_13_method_17_code 240 = .ok (.getfield 90, 3) := by decide +kernel
theorem d_MenuScreensModel_addPart_243 : decode prog_13_method_17_code 243 = .ok (.iload_n 2, 1) := by decide +kernel
theorem d_MenuScreensModel_addPart_244 : decode prog_13_method_17_code 244 = .ok (.iaload, 1) := by decide +kernel
theorem d_MenuScreensModel_addPart_245 : decode prog_13_method_17_code 245 = .ok (.aload_n 0, 1) := by decide +kernel
theorem d_MenuScreensModel_addPart_246 : decode prog_13_method_17_code 246 = .ok (.getfield 169, 3) := by decide +kernel
theorem d_MenuScreensModel_addPart_249 : decode prog_13_method_17_code 249 = .ok (.if_icmp .ne 22, 3) := by decide +kernel
theorem d_MenuScreensModel_addPart_252 : decode prog_13_method_17_code 252 = .ok (.aload_n 0, 1) := by decide +kernel
theorem d_MenuScreensModel_addPart_253 : decode prog_13_method_17_code 253 = .ok (.getfield 93, 3) := by decide +kernel
theorem d_MenuScreensModel_addPart_256 : decode prog_13_method_17_code 256 = .ok (.iload_n 2, 1) := by decide +kernel
theorem d_MenuScreensModel_addPart_257 : decode prog_13_method_17_code 257 = .ok (.iaload, 1) := by decide +kernel
theorem d_MenuScreensModel_addPart_258 : decode prog_13_method_17_code 258 = .ok (.ifCond .ge 13, 3) := by decide +kernel
theorem d_MenuScreensModel_addPart_261 : decode prog_13_method_17_code 261 = .ok (.aload_n 0, 1) := by decide +kernel
theorem d_MenuScreensModel_addPart_262 : decode prog_13_method_17_code 262 = .ok (.getfield 93, 3) := by decide +kernel
theorem d_MenuScreensModel_addPart_265 : decode prog_13_method_17_code 265 = .ok (.iload_n 2, 1) := by decide +kernel
theorem d_MenuScreensModel_addPart_266 : decode prog_13_method_17_code 266 = .ok (.aload_n 0, 1) := by decide +kernel
theorem d_MenuScreensModel_addPart_267 : decode prog_13_method_17_code 267 = .ok (.getfield 222, 3) := by decide +kernel
theorem d_MenuScreensModel_addPart_270 : decode prog_13_method_17_code 270 = .ok (.iastore, 1) := by decide +kernel
theorem d_MenuScreensModel_addPart_271 : decode prog_13_method_17_code 271 = .ok (.iinc 2 1, 3) := by decide +kernel
theorem d_MenuScreensModel_addPart_274 : decode prog_13_method_17_code 274 = .ok (.goto (-43), 3) := by decide +kernel
theorem d_MenuScreensModel_addPart_277 : decode prog_13_method_17_code 277 = .ok (.aload_n 0, 1) := by decide +kernel
theorem d_MenuScreensModel_addPart_278 : decode prog_13_method_17_code 278 = .ok (.dup, 1) := by decide +kernel
theorem d_MenuScreensModel_addPart_279 : decode prog_13_method_17_code 279 = .ok (.getfield 222, 3) := by decide +kernel
theorem d_MenuScreensModel_addPart_282 : decode prog_13_method_17_code 282 = .ok (.iconst 1, 1) := by decide +kernel
theorem d_MenuScreensModel_addPart_283 : decode prog_13_method_17_code 283 = .ok (.iadd, 1) := by decide +kernel
theorem d_MenuScreensModel_addPart_284 : decode prog_13_method_17_code 284 = .ok (.putfield 222, 3) := by decide +kernel
theorem d_MenuScreensModel_addPart_287 : decode prog_13_method_17_code 287 = .ok (.iconst 1, 1) := by decide +kernel
theorem d_MenuScreensModel_addPart_288 : decode prog_13_method_17_code 288 = .ok (.ireturn, 1) := by decide +kernel
set_option maxRecDepth 100000 in
set_option maxHeartbeats 4000000 in
theorem cm_MenuScreensModel_addPart {l : Launch} {S0 : State} {b : Nat} {D : va_G} {dT : Nat → ClassId} (hE : vEnv S0 b D dT) {h0 : vH} {a : Nat} {ar : Nat → Nat} {x : Nat → Int32} {y : Nat → Int64} {A : Nat → Nat → Int32} {B : Nat → Nat → Int64} (M : MV S0 dT h0 a ar x y A B) (p1 : Int32) {i0 e0 : Nat} (hat : x 7 = nI i0) (hend : x 8 = nI e0) (hle : i0 ≤ e0) (he : e0 ≤ 4000) {nv : Nat} (hnv : x 12 = nI nv) (hnv2 : nv ≤ 40) (hRV : ∀ v, 1 ≤ v → v ≤ nv → ∃ p q, A 13 v = nI p ∧ A 14 v = nI q ∧ p ≤ q ∧ q ≤ 4000) {np nc : Nat} (hnp : x 28 = nI np) (hnp2 : np < 512) (hnc : x 39 = nI nc) (hnc2 : nc ≤ 512) : vMi l S0 D vcl GT y_MenuScreensModel_addPart prog_13_method_17_code 3 (some .boolean) 3 100 0 0 [.ref a, .int p1] h0 (fun r h' => ∃ x' y' A' B', MR S0 dT h0 h' a ar x' y' A' B' ∧ (∀ k, k ≠ 7 → k ≠ 9 → k ≠ 10 → k ≠ 28 → x' k = x k) ∧ (∀ k, k ≠ 11 → y' k = y k) ∧ (okPa A e0 i0 nv p1 = true ∧ r = 1 ∧ x' 28 = nI (np + 1) ∧ A' = paA A e0 i0 nv np nc p1 (x 20) (x 28) ∧ B' = B ∨ okPa A e0 i0 nv p1 = false ∧ r = 0 ∧ lKeep A A' B B')) := by
  unfold vMi
  refine vM_ofQ hE.1 (by decide) (Nat.le_of_ble_eq_true rfl) (fun p e s m args below meth c ls Q hQ C hr hlk hnm X hl => ?_)
  have C : vC p s m _ c _ _ "MenuScreensModel" GT D vcl (vty dT) := C
  have hx := C.1.1
  have hb := C.1.2.1
  replace M := MR.of M
  obtain ⟨H, eH⟩ : ∃ z, z = s.heap := ⟨_, rfl⟩
  obtain ⟨locs, elocs⟩ : ∃ z : List Loc, z = [] := ⟨_, rfl⟩
  rw [← eH, ← elocs] at X
  rw [← eH, ← elocs]
  clear eH elocs
  have hl : lv_has ls 3 [(0, .ref a), (1, .int p1)] := hl
  refine lv_aload_n hx hb d_MenuScreensModel_addPart_0 rfl (lv_at hl 0 rfl) ?_
  refine lv_lconst (v := 0) hx hb d_MenuScreensModel_addPart_1 (by decide) ?_
  refine lv_ldc2 (v := 999999) hx hb C.1.2.2.2.1 (C.1.2.2.2.2 _ (gt_6 17 (by decide +kernel) rfl)) d_MenuScreensModel_addPart_2 ?_
  refine mv_bi X (mv_rV (rest := []) (As := [.long 0, .long 999999]) gt_good C X k_12_199 (cm_MenuScreensModel_number hE M.1 _ _ (i0 := i0) (e0 := e0) hat hend hle he) M.1.1 rfl rfl ⟨by decide, by decide⟩ rfl hl.1 rfl (Nat.le_of_ble_eq_true rfl) d_MenuScreensModel_addPart_5 ⟨Nat.le_refl _, Nat.le_refl _⟩) (fun r1 hN H locs hp X => ?_)
  obtain ⟨x1, yn2, M1, rfl, kyn2, vyn2, er1⟩ := hp
  replace M := M.trans M1
  replace er1 : r1 = bI (cNu (A 6) e0 i0 0 999999) := er1
  replace vyn2 : r1 = 1 → yn2 11 = vNu (A 6) e0 i0 := vyn2
  have hT1 := (nT_in (A 6) hle)
  have hT2 : (nT2 (A 6) e0 i0) ≤ e0 := (nT_in (A 6) hT1.2).2
  have hT3 : (nT3 (A 6) e0 i0) ≤ e0 := (nT_in (A 6) hT2).2
  have hT4 : (nT4 (A 6) e0 i0) ≤ e0 := (nT_in (A 6) hT3).2
  refine lv_if_ne (tgt := 13) hx hb d_MenuScreensModel_addPart_8 (by decide) (fun c3 => ?_) (fun c3 => ?_)
  · skip
    have a1 : cNu (A 6) e0 i0 0 999999 = true := bI_n (fun z => c3 (er1.trans z))
    have v0 := vyn2 (by rw [er1, a1]; rfl)
    refine lv_aload_n hx hb d_MenuScreensModel_addPart_13 rfl (lv_at hl 0 rfl) ?_
    refine mm_get C X M 31 f_12_66_13 (.ref (ar 31)) rfl d_MenuScreensModel_addPart_14 ?_
    refine lv_aload_n hx hb d_MenuScreensModel_addPart_17 rfl (lv_at hl 0 rfl) ?_
    refine mm_get C X M 28 f_12_222_13 (.int (x 28)) rfl d_MenuScreensModel_addPart_18 ?_
    refine lv_aload_n hx hb d_MenuScreensModel_addPart_21 rfl (lv_at hl 0 rfl) ?_
    refine mm_get C X M 11 f_12_152_13 (.long (yn2 11)) rfl d_MenuScreensModel_addPart_22 ?_
    refine lv_l2i (v := ((yn2 11) : Int64).toInt32) hx hb d_MenuScreensModel_addPart_25 rfl ?_
    rw [v0]
    refine mm_iast C X M 31 512 rfl (A 31) rfl (fun _ => rfl) (by decide) np hnp (by omega) d_MenuScreensModel_addPart_26 (fun h H locs X M => ?_)
    refine lv_aload_n hx hb d_MenuScreensModel_addPart_27 rfl (lv_at hl 0 rfl) ?_
    refine lv_lconst (v := 0) hx hb d_MenuScreensModel_addPart_28 (by decide) ?_
    refine lv_ldc2 (v := 999999) hx hb C.1.2.2.2.1 (C.1.2.2.2.2 _ (gt_6 17 (by decide +kernel) rfl)) d_MenuScreensModel_addPart_29 ?_
    refine mv_bi X (mv_rV (rest := []) (As := [.long 0, .long 999999]) gt_good C X k_12_199 (cm_MenuScreensModel_number hE M.1 _ _ (i0 := (nT (A 6) e0 i0)) (e0 := e0) rfl hend hT1.2 he) M.1.1 rfl rfl ⟨by decide, by decide⟩ rfl hl.1 rfl (Nat.le_of_ble_eq_true rfl) d_MenuScreensModel_addPart_32 ⟨Nat.le_refl _, Nat.le_refl _⟩) (fun r4 hN H locs hp X => ?_)
    obtain ⟨x1, yn5, M1, rfl, kyn5, vyn5, er4⟩ := hp
    replace M := M.trans M1
    replace er4 : r4 = bI (cNu (A 6) e0 (nT (A 6) e0 i0) 0 999999) := er4
    replace vyn5 : r4 = 1 → yn5 11 = vNu (A 6) e0 (nT (A 6) e0 i0) := vyn5
    refine lv_if_ne (tgt := 40) hx hb d_MenuScreensModel_addPart_35 (by decide) (fun c6 => ?_) (fun c6 => ?_)
    · skip
      have a2 : cNu (A 6) e0 (nT (A 6) e0 i0) 0 999999 = true := bI_n (fun z => c6 (er4.trans z))
      have v1 := vyn5 (by rw [er4, a2]; rfl)
      refine lv_aload_n hx hb d_MenuScreensModel_addPart_40 rfl (lv_at hl 0 rfl) ?_
      refine mm_get C X M 32 f_12_69_13 (.ref (ar 32)) rfl d_MenuScreensModel_addPart_41 ?_
      refine lv_aload_n hx hb d_MenuScreensModel_addPart_44 rfl (lv_at hl 0 rfl) ?_
      refine mm_get C X M 28 f_12_222_13 (.int (x 28)) rfl d_MenuScreensModel_addPart_45 ?_
      refine lv_aload_n hx hb d_MenuScreensModel_addPart_48 rfl (lv_at hl 0 rfl) ?_
      refine mm_get C X M 11 f_12_152_13 (.long (yn5 11)) rfl d_MenuScreensModel_addPart_49 ?_
      refine lv_l2i (v := ((yn5 11) : Int64).toInt32) hx hb d_MenuScreensModel_addPart_52 rfl ?_
      rw [v1]
      refine mm_iast C X M 32 512 rfl (A 32) rfl (fun _ => rfl) (by decide) np hnp (by omega) d_MenuScreensModel_addPart_53 (fun h H locs X M => ?_)
      refine lv_iload_n hx hb d_MenuScreensModel_addPart_54 rfl (lv_at hl 1 rfl) ?_
      refine lv_iconst (v := 2) hx hb d_MenuScreensModel_addPart_55 (by decide) ?_
      refine lv_icmp_ne (tgt := 122) hx hb d_MenuScreensModel_addPart_56 (by decide) (fun c7 => ?_) (fun c7 => ?_)
      · skip
        refine lv_aload_n hx hb d_MenuScreensModel_addPart_122 rfl (lv_at hl 0 rfl) ?_
        refine mv_bi X (mv_rV (rest := []) (As := []) gt_good C X k_12_145 (cm_MenuScreensModel_next hE M.1 (i0 := (nT2 (A 6) e0 i0)) (e0 := e0) (F := (nF (A 6) e0 (nT2 (A 6) e0 i0))) (T := (nT (A 6) e0 (nT2 (A 6) e0 i0))) rfl hend hT2 he rfl rfl) M.1.1 rfl rfl ⟨by decide, by decide⟩ rfl hl.1 rfl (Nat.le_of_ble_eq_true rfl) d_MenuScreensModel_addPart_123 ⟨Nat.le_refl _, Nat.le_refl _⟩) (fun r8 hN H locs hp X => ?_)
        obtain ⟨x1, M1, rfl, er8⟩ := hp
        replace M := M.trans M1
        replace er8 : r8 = if (nF (A 6) e0 (nT2 (A 6) e0 i0)) < (nT (A 6) e0 (nT2 (A 6) e0 i0)) then 1 else 0 := er8
        replace er8 : r8 = bI (wB (A 6) e0 (nT2 (A 6) e0 i0)) := by
          rw [er8]; unfold wB bI; by_cases q : nF (A 6) e0 (nT2 (A 6) e0 i0) < nT (A 6) e0 (nT2 (A 6) e0 i0)
          · rw [if_pos q, decide_eq_true q]; rfl
          · rw [if_neg q, decide_eq_false q]; rfl
        refine lv_if_ne (tgt := 131) hx hb d_MenuScreensModel_addPart_126 (by decide) (fun c9 => ?_) (fun c9 => ?_)
        · skip
          have b3 : wB (A 6) e0 (nT2 (A 6) e0 i0) = true := bI_n (fun z => c9 (er8.trans z))
          refine lv_aload_n hx hb d_MenuScreensModel_addPart_131 rfl (lv_at hl 0 rfl) ?_
          refine mm_get C X M 35 f_12_78_13 (.ref (ar 35)) rfl d_MenuScreensModel_addPart_132 ?_
          refine lv_aload_n hx hb d_MenuScreensModel_addPart_135 rfl (lv_at hl 0 rfl) ?_
          refine mm_get C X M 28 f_12_222_13 (.int (x 28)) rfl d_MenuScreensModel_addPart_136 ?_
          refine lv_aload_n hx hb d_MenuScreensModel_addPart_139 rfl (lv_at hl 0 rfl) ?_
          refine mm_get C X M 9 f_12_139_13 (.int (nI (nF (A 6) e0 (nT2 (A 6) e0 i0)))) rfl d_MenuScreensModel_addPart_140 ?_
          refine mm_iast C X M 35 512 rfl (A 35) rfl (fun _ => rfl) (by decide) np hnp (by omega) d_MenuScreensModel_addPart_143 (fun h H locs X M => ?_)
          refine lv_aload_n hx hb d_MenuScreensModel_addPart_144 rfl (lv_at hl 0 rfl) ?_
          refine mm_get C X M 36 f_12_81_13 (.ref (ar 36)) rfl d_MenuScreensModel_addPart_145 ?_
          refine lv_aload_n hx hb d_MenuScreensModel_addPart_148 rfl (lv_at hl 0 rfl) ?_
          refine mm_get C X M 28 f_12_222_13 (.int (x 28)) rfl d_MenuScreensModel_addPart_149 ?_
          refine lv_aload_n hx hb d_MenuScreensModel_addPart_152 rfl (lv_at hl 0 rfl) ?_
          refine mm_get C X M 10 f_12_142_13 (.int (nI (nT3 (A 6) e0 i0))) rfl d_MenuScreensModel_addPart_153 ?_
          refine mm_iast C X M 36 512 rfl (A 36) rfl (fun _ => rfl) (by decide) np hnp (by omega) d_MenuScreensModel_addPart_156 (fun h H locs X M => ?_)
          refine lv_iload_n hx hb d_MenuScreensModel_addPart_157 rfl (lv_at hl 1 rfl) ?_
          refine lv_iconst (v := 1) hx hb d_MenuScreensModel_addPart_158 (by decide) ?_
          refine lv_icmp_ne (tgt := 171) hx hb d_MenuScreensModel_addPart_159 (by decide) (fun c10 => ?_) (fun c10 => ?_)
          · skip
            refine lv_aload_n hx hb d_MenuScreensModel_addPart_171 rfl (lv_at hl 0 rfl) ?_
            refine mm_get C X M 37 f_12_84_13 (.ref (ar 37)) rfl d_MenuScreensModel_addPart_172 ?_
            refine lv_aload_n hx hb d_MenuScreensModel_addPart_175 rfl (lv_at hl 0 rfl) ?_
            refine mm_get C X M 28 f_12_222_13 (.int (x 28)) rfl d_MenuScreensModel_addPart_176 ?_
            refine lv_aload_n hx hb d_MenuScreensModel_addPart_179 rfl (lv_at hl 0 rfl) ?_
            refine mm_get C X M 9 f_12_139_13 (.int (nI (nF (A 6) e0 (nT2 (A 6) e0 i0)))) rfl d_MenuScreensModel_addPart_180 ?_
            refine mm_iast C X M 37 512 rfl (A 37) rfl (fun _ => rfl) (by decide) np hnp (by omega) d_MenuScreensModel_addPart_183 (fun h H locs X M => ?_)
            refine lv_aload_n hx hb d_MenuScreensModel_addPart_184 rfl (lv_at hl 0 rfl) ?_
            refine mm_get C X M 38 f_12_87_13 (.ref (ar 38)) rfl d_MenuScreensModel_addPart_185 ?_
            refine lv_aload_n hx hb d_MenuScreensModel_addPart_188 rfl (lv_at hl 0 rfl) ?_
            refine mm_get C X M 28 f_12_222_13 (.int (x 28)) rfl d_MenuScreensModel_addPart_189 ?_
            refine lv_aload_n hx hb d_MenuScreensModel_addPart_192 rfl (lv_at hl 0 rfl) ?_
            refine mm_get C X M 10 f_12_142_13 (.int (nI (nT3 (A 6) e0 i0))) rfl d_MenuScreensModel_addPart_193 ?_
            refine mm_iast C X M 38 512 rfl (A 38) rfl (fun _ => rfl) (by decide) np hnp (by omega) d_MenuScreensModel_addPart_196 (fun h H locs X M => ?_)
            refine lv_aload_n hx hb d_MenuScreensModel_addPart_197 rfl (lv_at hl 0 rfl) ?_
            refine mv_bi X (mv_rV (rest := []) (As := []) gt_good C X k_12_202 (cm_MenuScreensModel_through hE M.1 (i0 := (nT3 (A 6) e0 i0)) (e0 := e0) rfl hend hT3 he) M.1.1 rfl rfl ⟨by decide, by decide⟩ rfl hl.1 rfl (Nat.le_of_ble_eq_true rfl) d_MenuScreensModel_addPart_198 ⟨Nat.le_refl _, Nat.le_refl _⟩) (fun r11 hN H locs hp X => ?_)
            obtain ⟨x1, M1, rfl, er11⟩ := hp
            replace M := M.trans M1
            replace er11 : r11 = bI (cEnd (A 6) e0 (nT3 (A 6) e0 i0)) := er11
            refine lv_if_ne (tgt := 206) hx hb d_MenuScreensModel_addPart_201 (by decide) (fun c12 => ?_) (fun c12 => ?_)
            · skip
              have a6 : cEnd (A 6) e0 (nT3 (A 6) e0 i0) = true := bI_n (fun z => c12 (er11.trans z))
              refine lv_aload_n hx hb d_MenuScreensModel_addPart_206 rfl (lv_at hl 0 rfl) ?_
              refine mm_get C X M 30 f_12_63_13 (.ref (ar 30)) rfl d_MenuScreensModel_addPart_207 ?_
              refine lv_aload_n hx hb d_MenuScreensModel_addPart_210 rfl (lv_at hl 0 rfl) ?_
              refine mm_get C X M 28 f_12_222_13 (.int (x 28)) rfl d_MenuScreensModel_addPart_211 ?_
              refine lv_iload_n hx hb d_MenuScreensModel_addPart_214 rfl (lv_at hl 1 rfl) ?_
              refine mm_iast C X M 30 512 rfl (A 30) rfl (fun _ => rfl) (by decide) np hnp (by omega) d_MenuScreensModel_addPart_215 (fun h H locs X M => ?_)
              refine lv_aload_n hx hb d_MenuScreensModel_addPart_216 rfl (lv_at hl 0 rfl) ?_
              refine mm_get C X M 29 f_12_60_13 (.ref (ar 29)) rfl d_MenuScreensModel_addPart_217 ?_
              refine lv_aload_n hx hb d_MenuScreensModel_addPart_220 rfl (lv_at hl 0 rfl) ?_
              refine mm_get C X M 28 f_12_222_13 (.int (x 28)) rfl d_MenuScreensModel_addPart_221 ?_
              refine lv_aload_n hx hb d_MenuScreensModel_addPart_224 rfl (lv_at hl 0 rfl) ?_
              refine mm_get C X M 20 f_12_169_13 (.int (x 20)) rfl d_MenuScreensModel_addPart_225 ?_
              refine mm_iast C X M 29 512 rfl (A 29) rfl (fun _ => rfl) (by decide) np hnp (by omega) d_MenuScreensModel_addPart_228 (fun h H locs X M => ?_)
              refine lv_iconst (v := 0) hx hb d_MenuScreensModel_addPart_229 (by decide) ?_
              refine lv_istore_n (lv' := [(2, .int 0), (0, .ref a), (1, .int p1)]) hx hb d_MenuScreensModel_addPart_230 rfl hl (by decide) rfl (fun ls hl => ?_)
              rw [← va_up_id (va_up (va_up (va_up (va_up (va_up (va_up (va_up (va_up A 31 (upd (A 31) np ((vNu (A 6) e0 i0).toInt32))) 32 (upd (A 32) np ((vNu (A 6) e0 (nT (A 6) e0 i0)).toInt32))) 35 (upd (A 35) np (nI (nF (A 6) e0 (nT2 (A 6) e0 i0))))) 36 (upd (A 36) np (nI (nT3 (A 6) e0 i0)))) 37 (upd (A 37) np (nI (nF (A 6) e0 (nT2 (A 6) e0 i0))))) 38 (upd (A 38) np (nI (nT3 (A 6) e0 i0)))) 30 (upd (A 30) np p1)) 29 (upd (A 29) np (x 20))) 41] at M
              have lp : ∀ (n_lp : Nat) (k : Nat) (i : Int32) (ls : Array Slot) (h : vH) (H : Heap) (locs : List Loc), (i = nI k) → (k ≤ nc) → (nc - k) < n_lp → vO S0 D vcl h s H locs → MR S0 dT h0 h a ar (upd (upd (upd x 7 (nI (nT (A 6) e0 (nT3 (A 6) e0 i0)))) 9 (nI (nF (A 6) e0 (nT3 (A 6) e0 i0)))) 10 (nI (nT (A 6) e0 (nT3 (A 6) e0 i0)))) yn5 (va_up (va_up (va_up (va_up (va_up (va_up (va_up (va_up (va_up A 31 (upd (A 31) np ((vNu (A 6) e0 i0).toInt32))) 32 (upd (A 32) np ((vNu (A 6) e0 (nT (A 6) e0 i0)).toInt32))) 35 (upd (A 35) np (nI (nF (A 6) e0 (nT2 (A 6) e0 i0))))) 36 (upd (A 36) np (nI (nT3 (A 6) e0 i0)))) 37 (upd (A 37) np (nI (nF (A 6) e0 (nT2 (A 6) e0 i0))))) 38 (upd (A 38) np (nI (nT3 (A 6) e0 i0)))) 30 (upd (A 30) np p1)) 29 (upd (A 29) np (x 20))) 41 (pq (A 40) (A 41) (x 20) (x 28) k)) B → lv_has ls 3 [(0, .ref a), (1, .int p1), (2, .int i)] → W p l e (vRm 3 100 0 0) s m args below meth c H locs 0 0 Q (F0 m 231 ls []) := by
                intro n_lp
                induction n_lp with
                | zero => intros; exact absurd (by assumption) (Nat.not_lt_zero _)
                | succ n_lp ih_lp =>
                  intro k i ls h H locs ei hk hmu_lp X M hl
                  refine lv_iload_n hx hb d_MenuScreensModel_addPart_231 rfl (lv_at hl 2 rfl) ?_
                  refine lv_aload_n hx hb d_MenuScreensModel_addPart_232 rfl (lv_at hl 0 rfl) ?_
                  refine mm_get C X M 39 f_12_227_13 (.int (x 39)) rfl d_MenuScreensModel_addPart_233 ?_
                  refine lv_icmp_ge (tgt := 277) hx hb d_MenuScreensModel_addPart_236 (by decide) (fun c13 => ?_) (fun c13 => ?_)
                  · skip
                    have hkn : k = nc := by
                      have := (nI_leI (a := nc) (b := k) (by omega) (by omega)).mp (by rw [← ei, ← hnc]; exact c13)
                      omega
                    rw [hkn] at M
                    have enp : x 28 + 1 = nI (np + 1) := by rw [hnp]; exact nI_1 np
                    refine lv_aload_n hx hb d_MenuScreensModel_addPart_277 rfl (lv_at hl 0 rfl) ?_
                    refine lv_dup hx hb d_MenuScreensModel_addPart_278 rfl ?_
                    refine mm_get C X M 28 f_12_222_13 (.int (x 28)) rfl d_MenuScreensModel_addPart_279 ?_
                    refine lv_iconst (v := 1) hx hb d_MenuScreensModel_addPart_282 (by decide) ?_
                    refine lv_iadd hx hb d_MenuScreensModel_addPart_283 ?_
                    refine mm_put C X M 28 p_12_222_13 (upd (upd (upd (upd x 7 (nI (nT (A 6) e0 (nT3 (A 6) e0 i0)))) 9 (nI (nF (A 6) e0 (nT3 (A 6) e0 i0)))) 10 (nI (nT (A 6) e0 (nT3 (A 6) e0 i0)))) 28 ((x 28) + 1)) yn5 rfl rfl rfl (by decide) d_MenuScreensModel_addPart_284 (fun h H locs X M => ?_)
                    refine lv_iconst (v := 1) hx hb d_MenuScreensModel_addPart_287 (by decide) ?_
                    exact mq_iret hQ C X hr rfl hlk (⟨(upd (upd (upd (upd x 7 (nI (nT (A 6) e0 (nT3 (A 6) e0 i0)))) 9 (nI (nF (A 6) e0 (nT3 (A 6) e0 i0)))) 10 (nI (nT (A 6) e0 (nT3 (A 6) e0 i0)))) 28 ((x 28) + 1)), yn5, (va_up (va_up (va_up (va_up (va_up (va_up (va_up (va_up (va_up A 31 (upd (A 31) np ((vNu (A 6) e0 i0).toInt32))) 32 (upd (A 32) np ((vNu (A 6) e0 (nT (A 6) e0 i0)).toInt32))) 35 (upd (A 35) np (nI (nF (A 6) e0 (nT2 (A 6) e0 i0))))) 36 (upd (A 36) np (nI (nT3 (A 6) e0 i0)))) 37 (upd (A 37) np (nI (nF (A 6) e0 (nT2 (A 6) e0 i0))))) 38 (upd (A 38) np (nI (nT3 (A 6) e0 i0)))) 30 (upd (A 30) np p1)) 29 (upd (A 29) np (x 20))) 41 (pq (A 40) (A 41) (x 20) (x 28) nc)), B, M, (fun k q7 q9 q10 q28 => by simp [upd, q7, q9, q10, q28]), (fun k q11 => by rw [kyn5 k q11, kyn2 k q11]), Or.inl ⟨by unfold okPa; rw [if_neg c7]; rw [if_neg c10]; rw [a1, a2, b3, a6]; rfl, rfl, enp, by unfold paA; rw [if_neg c7, if_neg c10, if_neg c10], rfl⟩⟩) (Nat.le_refl _) (Nat.le_refl _) d_MenuScreensModel_addPart_288
                  · skip
                    have hlt : k < nc := by
                      rcases Nat.lt_or_ge k nc with q | q
                      · exact q
                      · exact absurd (by rw [hnc, ei]; exact nI_le q (by omega)) c13
                    refine lv_aload_n hx hb d_MenuScreensModel_addPart_239 rfl (lv_at hl 0 rfl) ?_
                    refine mm_get C X M 40 f_12_90_13 (.ref (ar 40)) rfl d_MenuScreensModel_addPart_240 ?_
                    refine lv_iload_n hx hb d_MenuScreensModel_addPart_243 rfl (lv_at hl 2 rfl) ?_
                    refine mm_iald C X M 40 512 rfl (A 40) rfl (by decide) k ei (by omega) d_MenuScreensModel_addPart_244 ?_
                    refine lv_aload_n hx hb d_MenuScreensModel_addPart_245 rfl (lv_at hl 0 rfl) ?_
                    refine mm_get C X M 20 f_12_169_13 (.int (x 20)) rfl d_MenuScreensModel_addPart_246 ?_
                    refine lv_icmp_ne (tgt := 271) hx hb d_MenuScreensModel_addPart_249 (by decide) (fun c14 => ?_) (fun c14 => ?_)
                    · skip
                      refine lv_iinc (v := (i + 1)) (lv' := [(2, .int (i + 1)), (0, .ref a), (1, .int p1)]) hx hb d_MenuScreensModel_addPart_271 hl (k := 2) rfl rfl (by decide) rfl (fun ls hl => ?_)
                      refine lv_goto (tgt := 231) hx hb d_MenuScreensModel_addPart_274 (by decide) ?_
                      have epq : (pq (A 40) (A 41) (x 20) (x 28) (k + 1)) = (pq (A 40) (A 41) (x 20) (x 28) k) := if_neg (fun z => c14 z.1)
                      rw [← epq] at M
                      exact ih_lp (k + 1) (i + 1) ls _ _ _ (by rw [ei]; exact nI_1 k) (by omega) (by omega) X M (lv_sub hl [1, 2, 0] rfl)
                    · skip
                      refine lv_aload_n hx hb d_MenuScreensModel_addPart_252 rfl (lv_at hl 0 rfl) ?_
                      refine mm_get C X M 41 f_12_93_13 (.ref (ar 41)) rfl d_MenuScreensModel_addPart_253 ?_
                      refine lv_iload_n hx hb d_MenuScreensModel_addPart_256 rfl (lv_at hl 2 rfl) ?_
                      refine mm_iald C X M 41 512 rfl (pq (A 40) (A 41) (x 20) (x 28) k) rfl (by decide) k ei (by omega) d_MenuScreensModel_addPart_257 ?_
                      refine lv_if_ge (tgt := 271) hx hb d_MenuScreensModel_addPart_258 (by decide) (fun c15 => ?_) (fun c15 => ?_)
                      · skip
                        refine lv_iinc (v := (i + 1)) (lv' := [(2, .int (i + 1)), (0, .ref a), (1, .int p1)]) hx hb d_MenuScreensModel_addPart_271 hl (k := 2) rfl rfl (by decide) rfl (fun ls hl => ?_)
                        refine lv_goto (tgt := 231) hx hb d_MenuScreensModel_addPart_274 (by decide) ?_
                        have epq : (pq (A 40) (A 41) (x 20) (x 28) (k + 1)) = (pq (A 40) (A 41) (x 20) (x 28) k) := if_neg (fun z => absurd z.2 (Int32.not_lt.mpr c15))
                        rw [← epq] at M
                        exact ih_lp (k + 1) (i + 1) ls _ _ _ (by rw [ei]; exact nI_1 k) (by omega) (by omega) X M (lv_sub hl [1, 2, 0] rfl)
                      · skip
                        refine lv_aload_n hx hb d_MenuScreensModel_addPart_261 rfl (lv_at hl 0 rfl) ?_
                        refine mm_get C X M 41 f_12_93_13 (.ref (ar 41)) rfl d_MenuScreensModel_addPart_262 ?_
                        refine lv_iload_n hx hb d_MenuScreensModel_addPart_265 rfl (lv_at hl 2 rfl) ?_
                        refine lv_aload_n hx hb d_MenuScreensModel_addPart_266 rfl (lv_at hl 0 rfl) ?_
                        refine mm_get C X M 28 f_12_222_13 (.int (x 28)) rfl d_MenuScreensModel_addPart_267 ?_
                        refine mm_iast C X M 41 512 rfl (pq (A 40) (A 41) (x 20) (x 28) k) rfl (fun _ => rfl) (by decide) k ei (by omega) d_MenuScreensModel_addPart_270 (fun h H locs X M => ?_)
                        rw [bx_uu] at M
                        refine lv_iinc (v := (i + 1)) (lv' := [(2, .int (i + 1)), (0, .ref a), (1, .int p1)]) hx hb d_MenuScreensModel_addPart_271 hl (k := 2) rfl rfl (by decide) rfl (fun ls hl => ?_)
                        refine lv_goto (tgt := 231) hx hb d_MenuScreensModel_addPart_274 (by decide) ?_
                        have epq : (pq (A 40) (A 41) (x 20) (x 28) (k + 1)) = (upd (pq (A 40) (A 41) (x 20) (x 28) k) k (x 28)) := if_pos ⟨c14, Int32.not_le.mp c15⟩
                        rw [← epq] at M
                        exact ih_lp (k + 1) (i + 1) ls _ _ _ (by rw [ei]; exact nI_1 k) (by omega) (by omega) X M (lv_sub hl [1, 2, 0] rfl)
              exact lp (nc - 0 + 1) 0 0 ls _ _ _ rfl (by omega) (Nat.lt_succ_self _) X M (lv_sub hl [1, 2, 0] rfl)
            · skip
              refine lv_iconst (v := 0) hx hb d_MenuScreensModel_addPart_204 (by decide) ?_
              exact mq_iret hQ C X hr rfl hlk (⟨(upd (upd (upd x 7 (nI (nT (A 6) e0 (nT3 (A 6) e0 i0)))) 9 (nI (nF (A 6) e0 (nT3 (A 6) e0 i0)))) 10 (nI (nT (A 6) e0 (nT3 (A 6) e0 i0)))), yn5, (va_up (va_up (va_up (va_up (va_up (va_up A 31 (upd (A 31) np ((vNu (A 6) e0 i0).toInt32))) 32 (upd (A 32) np ((vNu (A 6) e0 (nT (A 6) e0 i0)).toInt32))) 35 (upd (A 35) np (nI (nF (A 6) e0 (nT2 (A 6) e0 i0))))) 36 (upd (A 36) np (nI (nT3 (A 6) e0 i0)))) 37 (upd (A 37) np (nI (nF (A 6) e0 (nT2 (A 6) e0 i0))))) 38 (upd (A 38) np (nI (nT3 (A 6) e0 i0)))), B, M, (fun k q7 q9 q10 q28 => by simp [upd, q7, q9, q10, q28]), (fun k q11 => by rw [kyn5 k q11, kyn2 k q11]), Or.inr ⟨by unfold okPa; rw [if_neg c7]; rw [if_neg c10]; rw [show cEnd (A 6) e0 (nT3 (A 6) e0 i0) = false from bI_0 (er11.symm.trans c12)]; simp, rfl, ⟨fun k q => by simp only [va_up]; repeat (first | rfl | rw [if_neg (by omega)]), rfl⟩⟩⟩) (Nat.le_refl _) (Nat.le_refl _) d_MenuScreensModel_addPart_205
          · skip
            refine lv_aload_n hx hb d_MenuScreensModel_addPart_162 rfl (lv_at hl 0 rfl) ?_
            refine mv_bi X (mv_rV (rest := []) (As := []) gt_good C X k_12_145 (cm_MenuScreensModel_next hE M.1 (i0 := (nT3 (A 6) e0 i0)) (e0 := e0) (F := (nF (A 6) e0 (nT3 (A 6) e0 i0))) (T := (nT (A 6) e0 (nT3 (A 6) e0 i0))) rfl hend hT3 he rfl rfl) M.1.1 rfl rfl ⟨by decide, by decide⟩ rfl hl.1 rfl (Nat.le_of_ble_eq_true rfl) d_MenuScreensModel_addPart_163 ⟨Nat.le_refl _, Nat.le_refl _⟩) (fun r16 hN H locs hp X => ?_)
            obtain ⟨x1, M1, rfl, er16⟩ := hp
            replace M := M.trans M1
            replace er16 : r16 = if (nF (A 6) e0 (nT3 (A 6) e0 i0)) < (nT (A 6) e0 (nT3 (A 6) e0 i0)) then 1 else 0 := er16
            replace er16 : r16 = bI (wB (A 6) e0 (nT3 (A 6) e0 i0)) := by
              rw [er16]; unfold wB bI; by_cases q : nF (A 6) e0 (nT3 (A 6) e0 i0) < nT (A 6) e0 (nT3 (A 6) e0 i0)
              · rw [if_pos q, decide_eq_true q]; rfl
              · rw [if_neg q, decide_eq_false q]; rfl
            refine lv_if_ne (tgt := 171) hx hb d_MenuScreensModel_addPart_166 (by decide) (fun c17 => ?_) (fun c17 => ?_)
            · skip
              have b4 : wB (A 6) e0 (nT3 (A 6) e0 i0) = true := bI_n (fun z => c17 (er16.trans z))
              refine lv_aload_n hx hb d_MenuScreensModel_addPart_171 rfl (lv_at hl 0 rfl) ?_
              refine mm_get C X M 37 f_12_84_13 (.ref (ar 37)) rfl d_MenuScreensModel_addPart_172 ?_
              refine lv_aload_n hx hb d_MenuScreensModel_addPart_175 rfl (lv_at hl 0 rfl) ?_
              refine mm_get C X M 28 f_12_222_13 (.int (x 28)) rfl d_MenuScreensModel_addPart_176 ?_
              refine lv_aload_n hx hb d_MenuScreensModel_addPart_179 rfl (lv_at hl 0 rfl) ?_
              refine mm_get C X M 9 f_12_139_13 (.int (nI (nF (A 6) e0 (nT3 (A 6) e0 i0)))) rfl d_MenuScreensModel_addPart_180 ?_
              refine mm_iast C X M 37 512 rfl (A 37) rfl (fun _ => rfl) (by decide) np hnp (by omega) d_MenuScreensModel_addPart_183 (fun h H locs X M => ?_)
              refine lv_aload_n hx hb d_MenuScreensModel_addPart_184 rfl (lv_at hl 0 rfl) ?_
              refine mm_get C X M 38 f_12_87_13 (.ref (ar 38)) rfl d_MenuScreensModel_addPart_185 ?_
              refine lv_aload_n hx hb d_MenuScreensModel_addPart_188 rfl (lv_at hl 0 rfl) ?_
              refine mm_get C X M 28 f_12_222_13 (.int (x 28)) rfl d_MenuScreensModel_addPart_189 ?_
              refine lv_aload_n hx hb d_MenuScreensModel_addPart_192 rfl (lv_at hl 0 rfl) ?_
              refine mm_get C X M 10 f_12_142_13 (.int (nI (nT4 (A 6) e0 i0))) rfl d_MenuScreensModel_addPart_193 ?_
              refine mm_iast C X M 38 512 rfl (A 38) rfl (fun _ => rfl) (by decide) np hnp (by omega) d_MenuScreensModel_addPart_196 (fun h H locs X M => ?_)
              refine lv_aload_n hx hb d_MenuScreensModel_addPart_197 rfl (lv_at hl 0 rfl) ?_
              refine mv_bi X (mv_rV (rest := []) (As := []) gt_good C X k_12_202 (cm_MenuScreensModel_through hE M.1 (i0 := (nT4 (A 6) e0 i0)) (e0 := e0) rfl hend hT4 he) M.1.1 rfl rfl ⟨by decide, by decide⟩ rfl hl.1 rfl (Nat.le_of_ble_eq_true rfl) d_MenuScreensModel_addPart_198 ⟨Nat.le_refl _, Nat.le_refl _⟩) (fun r18 hN H locs hp X => ?_)
              obtain ⟨x1, M1, rfl, er18⟩ := hp
              replace M := M.trans M1
              replace er18 : r18 = bI (cEnd (A 6) e0 (nT4 (A 6) e0 i0)) := er18
              refine lv_if_ne (tgt := 206) hx hb d_MenuScreensModel_addPart_201 (by decide) (fun c19 => ?_) (fun c19 => ?_)
              · skip
                have a6 : cEnd (A 6) e0 (nT4 (A 6) e0 i0) = true := bI_n (fun z => c19 (er18.trans z))
                refine lv_aload_n hx hb d_MenuScreensModel_addPart_206 rfl (lv_at hl 0 rfl) ?_
                refine mm_get C X M 30 f_12_63_13 (.ref (ar 30)) rfl d_MenuScreensModel_addPart_207 ?_
                refine lv_aload_n hx hb d_MenuScreensModel_addPart_210 rfl (lv_at hl 0 rfl) ?_
                refine mm_get C X M 28 f_12_222_13 (.int (x 28)) rfl d_MenuScreensModel_addPart_211 ?_
                refine lv_iload_n hx hb d_MenuScreensModel_addPart_214 rfl (lv_at hl 1 rfl) ?_
                refine mm_iast C X M 30 512 rfl (A 30) rfl (fun _ => rfl) (by decide) np hnp (by omega) d_MenuScreensModel_addPart_215 (fun h H locs X M => ?_)
                refine lv_aload_n hx hb d_MenuScreensModel_addPart_216 rfl (lv_at hl 0 rfl) ?_
                refine mm_get C X M 29 f_12_60_13 (.ref (ar 29)) rfl d_MenuScreensModel_addPart_217 ?_
                refine lv_aload_n hx hb d_MenuScreensModel_addPart_220 rfl (lv_at hl 0 rfl) ?_
                refine mm_get C X M 28 f_12_222_13 (.int (x 28)) rfl d_MenuScreensModel_addPart_221 ?_
                refine lv_aload_n hx hb d_MenuScreensModel_addPart_224 rfl (lv_at hl 0 rfl) ?_
                refine mm_get C X M 20 f_12_169_13 (.int (x 20)) rfl d_MenuScreensModel_addPart_225 ?_
                refine mm_iast C X M 29 512 rfl (A 29) rfl (fun _ => rfl) (by decide) np hnp (by omega) d_MenuScreensModel_addPart_228 (fun h H locs X M => ?_)
                refine lv_iconst (v := 0) hx hb d_MenuScreensModel_addPart_229 (by decide) ?_
                refine lv_istore_n (lv' := [(2, .int 0), (0, .ref a), (1, .int p1)]) hx hb d_MenuScreensModel_addPart_230 rfl hl (by decide) rfl (fun ls hl => ?_)
                rw [← va_up_id (va_up (va_up (va_up (va_up (va_up (va_up (va_up (va_up A 31 (upd (A 31) np ((vNu (A 6) e0 i0).toInt32))) 32 (upd (A 32) np ((vNu (A 6) e0 (nT (A 6) e0 i0)).toInt32))) 35 (upd (A 35) np (nI (nF (A 6) e0 (nT2 (A 6) e0 i0))))) 36 (upd (A 36) np (nI (nT3 (A 6) e0 i0)))) 37 (upd (A 37) np (nI (nF (A 6) e0 (nT3 (A 6) e0 i0))))) 38 (upd (A 38) np (nI (nT4 (A 6) e0 i0)))) 30 (upd (A 30) np p1)) 29 (upd (A 29) np (x 20))) 41] at M
                have lp : ∀ (n_lp : Nat) (k : Nat) (i : Int32) (ls : Array Slot) (h : vH) (H : Heap) (locs : List Loc), (i = nI k) → (k ≤ nc) → (nc - k) < n_lp → vO S0 D vcl h s H locs → MR S0 dT h0 h a ar (upd (upd (upd x 7 (nI (nT (A 6) e0 (nT4 (A 6) e0 i0)))) 9 (nI (nF (A 6) e0 (nT4 (A 6) e0 i0)))) 10 (nI (nT (A 6) e0 (nT4 (A 6) e0 i0)))) yn5 (va_up (va_up (va_up (va_up (va_up (va_up (va_up (va_up (va_up A 31 (upd (A 31) np ((vNu (A 6) e0 i0).toInt32))) 32 (upd (A 32) np ((vNu (A 6) e0 (nT (A 6) e0 i0)).toInt32))) 35 (upd (A 35) np (nI (nF (A 6) e0 (nT2 (A 6) e0 i0))))) 36 (upd (A 36) np (nI (nT3 (A 6) e0 i0)))) 37 (upd (A 37) np (nI (nF (A 6) e0 (nT3 (A 6) e0 i0))))) 38 (upd (A 38) np (nI (nT4 (A 6) e0 i0)))) 30 (upd (A 30) np p1)) 29 (upd (A 29) np (x 20))) 41 (pq (A 40) (A 41) (x 20) (x 28) k)) B → lv_has ls 3 [(0, .ref a), (1, .int p1), (2, .int i)] → W p l e (vRm 3 100 0 0) s m args below meth c H locs 0 0 Q (F0 m 231 ls []) := by
                  intro n_lp
                  induction n_lp with
                  | zero => intros; exact absurd (by assumption) (Nat.not_lt_zero _)
                  | succ n_lp ih_lp =>
                    intro k i ls h H locs ei hk hmu_lp X M hl
                    refine lv_iload_n hx hb d_MenuScreensModel_addPart_231 rfl (lv_at hl 2 rfl) ?_
                    refine lv_aload_n hx hb d_MenuScreensModel_addPart_232 rfl (lv_at hl 0 rfl) ?_
                    refine mm_get C X M 39 f_12_227_13 (.int (x 39)) rfl d_MenuScreensModel_addPart_233 ?_
                    refine lv_icmp_ge (tgt := 277) hx hb d_MenuScreensModel_addPart_236 (by decide) (fun c20 => ?_) (fun c20 => ?_)
                    · skip
                      have hkn : k = nc := by
                        have := (nI_leI (a := nc) (b := k) (by omega) (by omega)).mp (by rw [← ei, ← hnc]; exact c20)
                        omega
                      rw [hkn] at M
                      have enp : x 28 + 1 = nI (np + 1) := by rw [hnp]; exact nI_1 np
                      refine lv_aload_n hx hb d_MenuScreensModel_addPart_277 rfl (lv_at hl 0 rfl) ?_
                      refine lv_dup hx hb d_MenuScreensModel_addPart_278 rfl ?_
                      refine mm_get C X M 28 f_12_222_13 (.int (x 28)) rfl d_MenuScreensModel_addPart_279 ?_
                      refine lv_iconst (v := 1) hx hb d_MenuScreensModel_addPart_282 (by decide) ?_
                      refine lv_iadd hx hb d_MenuScreensModel_addPart_283 ?_
                      refine mm_put C X M 28 p_12_222_13 (upd (upd (upd (upd x 7 (nI (nT (A 6) e0 (nT4 (A 6) e0 i0)))) 9 (nI (nF (A 6) e0 (nT4 (A 6) e0 i0)))) 10 (nI (nT (A 6) e0 (nT4 (A 6) e0 i0)))) 28 ((x 28) + 1)) yn5 rfl rfl rfl (by decide) d_MenuScreensModel_addPart_284 (fun h H locs X M => ?_)
                      refine lv_iconst (v := 1) hx hb d_MenuScreensModel_addPart_287 (by decide) ?_
                      exact mq_iret hQ C X hr rfl hlk (⟨(upd (upd (upd (upd x 7 (nI (nT (A 6) e0 (nT4 (A 6) e0 i0)))) 9 (nI (nF (A 6) e0 (nT4 (A 6) e0 i0)))) 10 (nI (nT (A 6) e0 (nT4 (A 6) e0 i0)))) 28 ((x 28) + 1)), yn5, (va_up (va_up (va_up (va_up (va_up (va_up (va_up (va_up (va_up A 31 (upd (A 31) np ((vNu (A 6) e0 i0).toInt32))) 32 (upd (A 32) np ((vNu (A 6) e0 (nT (A 6) e0 i0)).toInt32))) 35 (upd (A 35) np (nI (nF (A 6) e0 (nT2 (A 6) e0 i0))))) 36 (upd (A 36) np (nI (nT3 (A 6) e0 i0)))) 37 (upd (A 37) np (nI (nF (A 6) e0 (nT3 (A 6) e0 i0))))) 38 (upd (A 38) np (nI (nT4 (A 6) e0 i0)))) 30 (upd (A 30) np p1)) 29 (upd (A 29) np (x 20))) 41 (pq (A 40) (A 41) (x 20) (x 28) nc)), B, M, (fun k q7 q9 q10 q28 => by simp [upd, q7, q9, q10, q28]), (fun k q11 => by rw [kyn5 k q11, kyn2 k q11]), Or.inl ⟨by unfold okPa; rw [if_neg c7]; rw [if_pos c10]; rw [a1, a2, b3, b4, a6]; rfl, rfl, enp, by unfold paA; rw [if_neg c7, if_pos c10, if_pos c10], rfl⟩⟩) (Nat.le_refl _) (Nat.le_refl _) d_MenuScreensModel_addPart_288
                    · skip
                      have hlt : k < nc := by
                        rcases Nat.lt_or_ge k nc with q | q
                        · exact q
                        · exact absurd (by rw [hnc, ei]; exact nI_le q (by omega)) c20
                      refine lv_aload_n hx hb d_MenuScreensModel_addPart_239 rfl (lv_at hl 0 rfl) ?_
                      refine mm_get C X M 40 f_12_90_13 (.ref (ar 40)) rfl d_MenuScreensModel_addPart_240 ?_
                      refine lv_iload_n hx hb d_MenuScreensModel_addPart_243 rfl (lv_at hl 2 rfl) ?_
                      refine mm_iald C X M 40 512 rfl (A 40) rfl (by decide) k ei (by omega) d_MenuScreensModel_addPart_244 ?_
                      refine lv_aload_n hx hb d_MenuScreensModel_addPart_245 rfl (lv_at hl 0 rfl) ?_
                      refine mm_get C X M 20 f_12_169_13 (.int (x 20)) rfl d_MenuScreensModel_addPart_246 ?_
                      refine lv_icmp_ne (tgt := 271) hx hb d_MenuScreensModel_addPart_249 (by decide) (fun c21 => ?_) (fun c21 => ?_)
                      · skip
                        refine lv_iinc (v := (i + 1)) (lv' := [(2, .int (i + 1)), (0, .ref a), (1, .int p1)]) hx hb d_MenuScreensModel_addPart_271 hl (k := 2) rfl rfl (by decide) rfl (fun ls hl => ?_)
                        refine lv_goto (tgt := 231) hx hb d_MenuScreensModel_addPart_274 (by decide) ?_
                        have epq : (pq (A 40) (A 41) (x 20) (x 28) (k + 1)) = (pq (A 40) (A 41) (x 20) (x 28) k) := if_neg (fun z => c21 z.1)
                        rw [← epq] at M
                        exact ih_lp (k + 1) (i + 1) ls _ _ _ (by rw [ei]; exact nI_1 k) (by omega) (by omega) X M (lv_sub hl [1, 2, 0] rfl)
                      · skip
                        refine lv_aload_n hx hb d_MenuScreensModel_addPart_252 rfl (lv_at hl 0 rfl) ?_
                        refine mm_get C X M 41 f_12_93_13 (.ref (ar 41)) rfl d_MenuScreensModel_addPart_253 ?_
                        refine lv_iload_n hx hb d_MenuScreensModel_addPart_256 rfl (lv_at hl 2 rfl) ?_
                        refine mm_iald C X M 41 512 rfl (pq (A 40) (A 41) (x 20) (x 28) k) rfl (by decide) k ei (by omega) d_MenuScreensModel_addPart_257 ?_
                        refine lv_if_ge (tgt := 271) hx hb d_MenuScreensModel_addPart_258 (by decide) (fun c22 => ?_) (fun c22 => ?_)
                        · skip
                          refine lv_iinc (v := (i + 1)) (lv' := [(2, .int (i + 1)), (0, .ref a), (1, .int p1)]) hx hb d_MenuScreensModel_addPart_271 hl (k := 2) rfl rfl (by decide) rfl (fun ls hl => ?_)
                          refine lv_goto (tgt := 231) hx hb d_MenuScreensModel_addPart_274 (by decide) ?_
                          have epq : (pq (A 40) (A 41) (x 20) (x 28) (k + 1)) = (pq (A 40) (A 41) (x 20) (x 28) k) := if_neg (fun z => absurd z.2 (Int32.not_lt.mpr c22))
                          rw [← epq] at M
                          exact ih_lp (k + 1) (i + 1) ls _ _ _ (by rw [ei]; exact nI_1 k) (by omega) (by omega) X M (lv_sub hl [1, 2, 0] rfl)
                        · skip
                          refine lv_aload_n hx hb d_MenuScreensModel_addPart_261 rfl (lv_at hl 0 rfl) ?_
                          refine mm_get C X M 41 f_12_93_13 (.ref (ar 41)) rfl d_MenuScreensModel_addPart_262 ?_
                          refine lv_iload_n hx hb d_MenuScreensModel_addPart_265 rfl (lv_at hl 2 rfl) ?_
                          refine lv_aload_n hx hb d_MenuScreensModel_addPart_266 rfl (lv_at hl 0 rfl) ?_
                          refine mm_get C X M 28 f_12_222_13 (.int (x 28)) rfl d_MenuScreensModel_addPart_267 ?_
                          refine mm_iast C X M 41 512 rfl (pq (A 40) (A 41) (x 20) (x 28) k) rfl (fun _ => rfl) (by decide) k ei (by omega) d_MenuScreensModel_addPart_270 (fun h H locs X M => ?_)
                          rw [bx_uu] at M
                          refine lv_iinc (v := (i + 1)) (lv' := [(2, .int (i + 1)), (0, .ref a), (1, .int p1)]) hx hb d_MenuScreensModel_addPart_271 hl (k := 2) rfl rfl (by decide) rfl (fun ls hl => ?_)
                          refine lv_goto (tgt := 231) hx hb d_MenuScreensModel_addPart_274 (by decide) ?_
                          have epq : (pq (A 40) (A 41) (x 20) (x 28) (k + 1)) = (upd (pq (A 40) (A 41) (x 20) (x 28) k) k (x 28)) := if_pos ⟨c21, Int32.not_le.mp c22⟩
                          rw [← epq] at M
                          exact ih_lp (k + 1) (i + 1) ls _ _ _ (by rw [ei]; exact nI_1 k) (by omega) (by omega) X M (lv_sub hl [1, 2, 0] rfl)
                exact lp (nc - 0 + 1) 0 0 ls _ _ _ rfl (by omega) (Nat.lt_succ_self _) X M (lv_sub hl [1, 2, 0] rfl)
              · skip
                refine lv_iconst (v := 0) hx hb d_MenuScreensModel_addPart_204 (by decide) ?_
                exact mq_iret hQ C X hr rfl hlk (⟨(upd (upd (upd x 7 (nI (nT (A 6) e0 (nT4 (A 6) e0 i0)))) 9 (nI (nF (A 6) e0 (nT4 (A 6) e0 i0)))) 10 (nI (nT (A 6) e0 (nT4 (A 6) e0 i0)))), yn5, (va_up (va_up (va_up (va_up (va_up (va_up A 31 (upd (A 31) np ((vNu (A 6) e0 i0).toInt32))) 32 (upd (A 32) np ((vNu (A 6) e0 (nT (A 6) e0 i0)).toInt32))) 35 (upd (A 35) np (nI (nF (A 6) e0 (nT2 (A 6) e0 i0))))) 36 (upd (A 36) np (nI (nT3 (A 6) e0 i0)))) 37 (upd (A 37) np (nI (nF (A 6) e0 (nT3 (A 6) e0 i0))))) 38 (upd (A 38) np (nI (nT4 (A 6) e0 i0)))), B, M, (fun k q7 q9 q10 q28 => by simp [upd, q7, q9, q10, q28]), (fun k q11 => by rw [kyn5 k q11, kyn2 k q11]), Or.inr ⟨by unfold okPa; rw [if_neg c7]; rw [if_pos c10]; rw [show cEnd (A 6) e0 (nT4 (A 6) e0 i0) = false from bI_0 (er18.symm.trans c19)]; simp, rfl, ⟨fun k q => by simp only [va_up]; repeat (first | rfl | rw [if_neg (by omega)]), rfl⟩⟩⟩) (Nat.le_refl _) (Nat.le_refl _) d_MenuScreensModel_addPart_205
            · skip
              refine lv_iconst (v := 0) hx hb d_MenuScreensModel_addPart_169 (by decide) ?_
              exact mq_iret hQ C X hr rfl hlk (⟨(upd (upd (upd x 7 (nI (nT4 (A 6) e0 i0))) 9 (nI (nF (A 6) e0 (nT3 (A 6) e0 i0)))) 10 (nI (nT4 (A 6) e0 i0))), yn5, (va_up (va_up (va_up (va_up A 31 (upd (A 31) np ((vNu (A 6) e0 i0).toInt32))) 32 (upd (A 32) np ((vNu (A 6) e0 (nT (A 6) e0 i0)).toInt32))) 35 (upd (A 35) np (nI (nF (A 6) e0 (nT2 (A 6) e0 i0))))) 36 (upd (A 36) np (nI (nT3 (A 6) e0 i0)))), B, M, (fun k q7 q9 q10 q28 => by simp [upd, q7, q9, q10, q28]), (fun k q11 => by rw [kyn5 k q11, kyn2 k q11]), Or.inr ⟨by unfold okPa; rw [if_neg c7]; rw [if_pos c10]; rw [show wB (A 6) e0 (nT3 (A 6) e0 i0) = false from bI_0 (er16.symm.trans c17)]; simp, rfl, ⟨fun k q => by simp only [va_up]; repeat (first | rfl | rw [if_neg (by omega)]), rfl⟩⟩⟩) (Nat.le_refl _) (Nat.le_refl _) d_MenuScreensModel_addPart_170
        · skip
          refine lv_iconst (v := 0) hx hb d_MenuScreensModel_addPart_129 (by decide) ?_
          exact mq_iret hQ C X hr rfl hlk (⟨(upd (upd (upd x 7 (nI (nT3 (A 6) e0 i0))) 9 (nI (nF (A 6) e0 (nT2 (A 6) e0 i0)))) 10 (nI (nT3 (A 6) e0 i0))), yn5, (va_up (va_up A 31 (upd (A 31) np ((vNu (A 6) e0 i0).toInt32))) 32 (upd (A 32) np ((vNu (A 6) e0 (nT (A 6) e0 i0)).toInt32))), B, M, (fun k q7 q9 q10 q28 => by simp [upd, q7, q9, q10, q28]), (fun k q11 => by rw [kyn5 k q11, kyn2 k q11]), Or.inr ⟨by unfold okPa; rw [if_neg c7]; rw [show wB (A 6) e0 (nT2 (A 6) e0 i0) = false from bI_0 (er8.symm.trans c9)]; simp, rfl, ⟨fun k q => by simp only [va_up]; repeat (first | rfl | rw [if_neg (by omega)]), rfl⟩⟩⟩) (Nat.le_refl _) (Nat.le_refl _) d_MenuScreensModel_addPart_130
      · skip
        refine lv_aload_n hx hb d_MenuScreensModel_addPart_59 rfl (lv_at hl 0 rfl) ?_
        refine lv_lconst (v := 1) hx hb d_MenuScreensModel_addPart_60 (by decide) ?_
        refine lv_ldc2 (v := 9) hx hb C.1.2.2.2.1 (C.1.2.2.2.2 _ (gt_6 41 (by decide +kernel) rfl)) d_MenuScreensModel_addPart_61 ?_
        refine mv_bi X (mv_rV (rest := []) (As := [.long 1, .long 9]) gt_good C X k_12_199 (cm_MenuScreensModel_number hE M.1 _ _ (i0 := (nT2 (A 6) e0 i0)) (e0 := e0) rfl hend hT2 he) M.1.1 rfl rfl ⟨by decide, by decide⟩ rfl hl.1 rfl (Nat.le_of_ble_eq_true rfl) d_MenuScreensModel_addPart_64 ⟨Nat.le_refl _, Nat.le_refl _⟩) (fun r23 hN H locs hp X => ?_)
        obtain ⟨x1, yn24, M1, rfl, kyn24, vyn24, er23⟩ := hp
        replace M := M.trans M1
        replace er23 : r23 = bI (cNu (A 6) e0 (nT2 (A 6) e0 i0) 1 9) := er23
        replace vyn24 : r23 = 1 → yn24 11 = vNu (A 6) e0 (nT2 (A 6) e0 i0) := vyn24
        refine lv_if_ne (tgt := 72) hx hb d_MenuScreensModel_addPart_67 (by decide) (fun c25 => ?_) (fun c25 => ?_)
        · skip
          have a3 : cNu (A 6) e0 (nT2 (A 6) e0 i0) 1 9 = true := bI_n (fun z => c25 (er23.trans z))
          have v2 := vyn24 (by rw [er23, a3]; rfl)
          refine lv_aload_n hx hb d_MenuScreensModel_addPart_72 rfl (lv_at hl 0 rfl) ?_
          refine mm_get C X M 34 f_12_75_13 (.ref (ar 34)) rfl d_MenuScreensModel_addPart_73 ?_
          refine lv_aload_n hx hb d_MenuScreensModel_addPart_76 rfl (lv_at hl 0 rfl) ?_
          refine mm_get C X M 28 f_12_222_13 (.int (x 28)) rfl d_MenuScreensModel_addPart_77 ?_
          refine lv_aload_n hx hb d_MenuScreensModel_addPart_80 rfl (lv_at hl 0 rfl) ?_
          refine mm_get C X M 11 f_12_152_13 (.long (yn24 11)) rfl d_MenuScreensModel_addPart_81 ?_
          refine lv_l2i (v := ((yn24 11) : Int64).toInt32) hx hb d_MenuScreensModel_addPart_84 rfl ?_
          rw [v2]
          refine mm_iast C X M 34 512 rfl (A 34) rfl (fun _ => rfl) (by decide) np hnp (by omega) d_MenuScreensModel_addPart_85 (fun h H locs X M => ?_)
          refine lv_aload_n hx hb d_MenuScreensModel_addPart_86 rfl (lv_at hl 0 rfl) ?_
          refine mv_bi X (mv_rV (rest := []) (As := []) gt_good C X k_12_205 (cm_MenuScreensModel_name hE M.1 (i0 := (nT3 (A 6) e0 i0)) (e0 := e0) rfl hend hT3 he) M.1.1 rfl rfl ⟨by decide, by decide⟩ rfl hl.1 rfl (Nat.le_of_ble_eq_true rfl) d_MenuScreensModel_addPart_87 ⟨Nat.le_refl _, Nat.le_refl _⟩) (fun r26 hN H locs hp X => ?_)
          obtain ⟨x1, M1, rfl, er26⟩ := hp
          replace M := M.trans M1
          replace er26 : r26 = bI (cNm (A 6) e0 (nT3 (A 6) e0 i0)) := er26
          refine lv_if_ne (tgt := 95) hx hb d_MenuScreensModel_addPart_90 (by decide) (fun c27 => ?_) (fun c27 => ?_)
          · skip
            have a4 : cNm (A 6) e0 (nT3 (A 6) e0 i0) = true := bI_n (fun z => c27 (er26.trans z))
            refine lv_aload_n hx hb d_MenuScreensModel_addPart_95 rfl (lv_at hl 0 rfl) ?_
            refine mm_get C X M 33 f_12_72_13 (.ref (ar 33)) rfl d_MenuScreensModel_addPart_96 ?_
            refine lv_aload_n hx hb d_MenuScreensModel_addPart_99 rfl (lv_at hl 0 rfl) ?_
            refine mm_get C X M 28 f_12_222_13 (.int (x 28)) rfl d_MenuScreensModel_addPart_100 ?_
            refine lv_aload_n hx hb d_MenuScreensModel_addPart_103 rfl (lv_at hl 0 rfl) ?_
            refine mv_bi X (mv_rV (rest := [.int (x 28), .ref (ar 33)]) (As := []) gt_good C X k_12_208 (cm_MenuScreensModel_findValue hE M.1 (n := nv) hnv hnv2 hRV (F := (nF (A 6) e0 (nT3 (A 6) e0 i0))) (T := (nT4 (A 6) e0 i0)) rfl rfl (nT_in (A 6) hT3).1 (Nat.le_trans hT4 he)) M.1.1 rfl rfl ⟨by decide, by decide⟩ rfl hl.1 rfl (Nat.le_of_ble_eq_true rfl) d_MenuScreensModel_addPart_104 ⟨Nat.le_refl _, Nat.le_refl _⟩) (fun r28 hN H locs hp X => ?_)
            obtain ⟨ehr28, er28⟩ := hp
            rw [ehr28] at X
            replace er28 : r28 = nI (fV A nv (nF (A 6) e0 (nT3 (A 6) e0 i0)) (nT4 (A 6) e0 i0)) := er28
            have hfv : fV A nv (nF (A 6) e0 (nT3 (A 6) e0 i0)) (nT4 (A 6) e0 i0) ≤ 1 + nv := fnd_le _ _ _
            rw [er28]
            refine mm_iast C X M 33 512 rfl (A 33) rfl (fun _ => rfl) (by decide) np hnp (by omega) d_MenuScreensModel_addPart_107 (fun h H locs X M => ?_)
            refine lv_aload_n hx hb d_MenuScreensModel_addPart_108 rfl (lv_at hl 0 rfl) ?_
            refine mm_get C X M 33 f_12_72_13 (.ref (ar 33)) rfl d_MenuScreensModel_addPart_109 ?_
            refine lv_aload_n hx hb d_MenuScreensModel_addPart_112 rfl (lv_at hl 0 rfl) ?_
            refine mm_get C X M 28 f_12_222_13 (.int (x 28)) rfl d_MenuScreensModel_addPart_113 ?_
            refine mm_iald C X M 33 512 rfl (upd (A 33) np (nI (fV A nv (nF (A 6) e0 (nT3 (A 6) e0 i0)) (nT4 (A 6) e0 i0)))) rfl (by decide) np hnp (by omega) d_MenuScreensModel_addPart_116 ?_
            refine lv_if_ne (tgt := 197) hx hb d_MenuScreensModel_addPart_117 (by decide) (fun c29 => ?_) (fun c29 => ?_)
            · skip
              have a5 : fV A nv (nF (A 6) e0 (nT3 (A 6) e0 i0)) (nT4 (A 6) e0 i0) ≠ 0 := fun z => c29 (by simp [upd, z]; rfl)
              refine lv_aload_n hx hb d_MenuScreensModel_addPart_197 rfl (lv_at hl 0 rfl) ?_
              refine mv_bi X (mv_rV (rest := []) (As := []) gt_good C X k_12_202 (cm_MenuScreensModel_through hE M.1 (i0 := (nT4 (A 6) e0 i0)) (e0 := e0) rfl hend hT4 he) M.1.1 rfl rfl ⟨by decide, by decide⟩ rfl hl.1 rfl (Nat.le_of_ble_eq_true rfl) d_MenuScreensModel_addPart_198 ⟨Nat.le_refl _, Nat.le_refl _⟩) (fun r30 hN H locs hp X => ?_)
              obtain ⟨x1, M1, rfl, er30⟩ := hp
              replace M := M.trans M1
              replace er30 : r30 = bI (cEnd (A 6) e0 (nT4 (A 6) e0 i0)) := er30
              refine lv_if_ne (tgt := 206) hx hb d_MenuScreensModel_addPart_201 (by decide) (fun c31 => ?_) (fun c31 => ?_)
              · skip
                have a6 : cEnd (A 6) e0 (nT4 (A 6) e0 i0) = true := bI_n (fun z => c31 (er30.trans z))
                refine lv_aload_n hx hb d_MenuScreensModel_addPart_206 rfl (lv_at hl 0 rfl) ?_
                refine mm_get C X M 30 f_12_63_13 (.ref (ar 30)) rfl d_MenuScreensModel_addPart_207 ?_
                refine lv_aload_n hx hb d_MenuScreensModel_addPart_210 rfl (lv_at hl 0 rfl) ?_
                refine mm_get C X M 28 f_12_222_13 (.int (x 28)) rfl d_MenuScreensModel_addPart_211 ?_
                refine lv_iload_n hx hb d_MenuScreensModel_addPart_214 rfl (lv_at hl 1 rfl) ?_
                refine mm_iast C X M 30 512 rfl (A 30) rfl (fun _ => rfl) (by decide) np hnp (by omega) d_MenuScreensModel_addPart_215 (fun h H locs X M => ?_)
                refine lv_aload_n hx hb d_MenuScreensModel_addPart_216 rfl (lv_at hl 0 rfl) ?_
                refine mm_get C X M 29 f_12_60_13 (.ref (ar 29)) rfl d_MenuScreensModel_addPart_217 ?_
                refine lv_aload_n hx hb d_MenuScreensModel_addPart_220 rfl (lv_at hl 0 rfl) ?_
                refine mm_get C X M 28 f_12_222_13 (.int (x 28)) rfl d_MenuScreensModel_addPart_221 ?_
                refine lv_aload_n hx hb d_MenuScreensModel_addPart_224 rfl (lv_at hl 0 rfl) ?_
                refine mm_get C X M 20 f_12_169_13 (.int (x 20)) rfl d_MenuScreensModel_addPart_225 ?_
                refine mm_iast C X M 29 512 rfl (A 29) rfl (fun _ => rfl) (by decide) np hnp (by omega) d_MenuScreensModel_addPart_228 (fun h H locs X M => ?_)
                refine lv_iconst (v := 0) hx hb d_MenuScreensModel_addPart_229 (by decide) ?_
                refine lv_istore_n (lv' := [(2, .int 0), (0, .ref a), (1, .int p1)]) hx hb d_MenuScreensModel_addPart_230 rfl hl (by decide) rfl (fun ls hl => ?_)
                rw [← va_up_id (va_up (va_up (va_up (va_up (va_up (va_up A 31 (upd (A 31) np ((vNu (A 6) e0 i0).toInt32))) 32 (upd (A 32) np ((vNu (A 6) e0 (nT (A 6) e0 i0)).toInt32))) 34 (upd (A 34) np ((vNu (A 6) e0 (nT2 (A 6) e0 i0)).toInt32))) 33 (upd (A 33) np (nI (fV A nv (nF (A 6) e0 (nT3 (A 6) e0 i0)) (nT4 (A 6) e0 i0))))) 30 (upd (A 30) np p1)) 29 (upd (A 29) np (x 20))) 41] at M
                have lp : ∀ (n_lp : Nat) (k : Nat) (i : Int32) (ls : Array Slot) (h : vH) (H : Heap) (locs : List Loc), (i = nI k) → (k ≤ nc) → (nc - k) < n_lp → vO S0 D vcl h s H locs → MR S0 dT h0 h a ar (upd (upd (upd x 7 (nI (nT (A 6) e0 (nT4 (A 6) e0 i0)))) 9 (nI (nF (A 6) e0 (nT4 (A 6) e0 i0)))) 10 (nI (nT (A 6) e0 (nT4 (A 6) e0 i0)))) yn24 (va_up (va_up (va_up (va_up (va_up (va_up (va_up A 31 (upd (A 31) np ((vNu (A 6) e0 i0).toInt32))) 32 (upd (A 32) np ((vNu (A 6) e0 (nT (A 6) e0 i0)).toInt32))) 34 (upd (A 34) np ((vNu (A 6) e0 (nT2 (A 6) e0 i0)).toInt32))) 33 (upd (A 33) np (nI (fV A nv (nF (A 6) e0 (nT3 (A 6) e0 i0)) (nT4 (A 6) e0 i0))))) 30 (upd (A 30) np p1)) 29 (upd (A 29) np (x 20))) 41 (pq (A 40) (A 41) (x 20) (x 28) k)) B → lv_has ls 3 [(0, .ref a), (1, .int p1), (2, .int i)] → W p l e (vRm 3 100 0 0) s m args below meth c H locs 0 0 Q (F0 m 231 ls []) := by
                  intro n_lp
                  induction n_lp with
                  | zero => intros; exact absurd (by assumption) (Nat.not_lt_zero _)
                  | succ n_lp ih_lp =>
                    intro k i ls h H locs ei hk hmu_lp X M hl
                    refine lv_iload_n hx hb d_MenuScreensModel_addPart_231 rfl (lv_at hl 2 rfl) ?_
                    refine lv_aload_n hx hb d_MenuScreensModel_addPart_232 rfl (lv_at hl 0 rfl) ?_
                    refine mm_get C X M 39 f_12_227_13 (.int (x 39)) rfl d_MenuScreensModel_addPart_233 ?_
                    refine lv_icmp_ge (tgt := 277) hx hb d_MenuScreensModel_addPart_236 (by decide) (fun c32 => ?_) (fun c32 => ?_)
                    · skip
                      have hkn : k = nc := by
                        have := (nI_leI (a := nc) (b := k) (by omega) (by omega)).mp (by rw [← ei, ← hnc]; exact c32)
                        omega
                      rw [hkn] at M
                      have enp : x 28 + 1 = nI (np + 1) := by rw [hnp]; exact nI_1 np
                      refine lv_aload_n hx hb d_MenuScreensModel_addPart_277 rfl (lv_at hl 0 rfl) ?_
                      refine lv_dup hx hb d_MenuScreensModel_addPart_278 rfl ?_
                      refine mm_get C X M 28 f_12_222_13 (.int (x 28)) rfl d_MenuScreensModel_addPart_279 ?_
                      refine lv_iconst (v := 1) hx hb d_MenuScreensModel_addPart_282 (by decide) ?_
                      refine lv_iadd hx hb d_MenuScreensModel_addPart_283 ?_
                      refine mm_put C X M 28 p_12_222_13 (upd (upd (upd (upd x 7 (nI (nT (A 6) e0 (nT4 (A 6) e0 i0)))) 9 (nI (nF (A 6) e0 (nT4 (A 6) e0 i0)))) 10 (nI (nT (A 6) e0 (nT4 (A 6) e0 i0)))) 28 ((x 28) + 1)) yn24 rfl rfl rfl (by decide) d_MenuScreensModel_addPart_284 (fun h H locs X M => ?_)
                      refine lv_iconst (v := 1) hx hb d_MenuScreensModel_addPart_287 (by decide) ?_
                      exact mq_iret hQ C X hr rfl hlk (⟨(upd (upd (upd (upd x 7 (nI (nT (A 6) e0 (nT4 (A 6) e0 i0)))) 9 (nI (nF (A 6) e0 (nT4 (A 6) e0 i0)))) 10 (nI (nT (A 6) e0 (nT4 (A 6) e0 i0)))) 28 ((x 28) + 1)), yn24, (va_up (va_up (va_up (va_up (va_up (va_up (va_up A 31 (upd (A 31) np ((vNu (A 6) e0 i0).toInt32))) 32 (upd (A 32) np ((vNu (A 6) e0 (nT (A 6) e0 i0)).toInt32))) 34 (upd (A 34) np ((vNu (A 6) e0 (nT2 (A 6) e0 i0)).toInt32))) 33 (upd (A 33) np (nI (fV A nv (nF (A 6) e0 (nT3 (A 6) e0 i0)) (nT4 (A 6) e0 i0))))) 30 (upd (A 30) np p1)) 29 (upd (A 29) np (x 20))) 41 (pq (A 40) (A 41) (x 20) (x 28) nc)), B, M, (fun k q7 q9 q10 q28 => by simp [upd, q7, q9, q10, q28]), (fun k q11 => by rw [kyn24 k q11, kyn5 k q11, kyn2 k q11]), Or.inl ⟨by unfold okPa; rw [if_pos c7]; rw [a1, a2, a3, a4, decide_eq_true a5, a6]; rfl, rfl, enp, by unfold paA; rw [if_pos c7], rfl⟩⟩) (Nat.le_refl _) (Nat.le_refl _) d_MenuScreensModel_addPart_288
                    · skip
                      have hlt : k < nc := by
                        rcases Nat.lt_or_ge k nc with q | q
                        · exact q
                        · exact absurd (by rw [hnc, ei]; exact nI_le q (by omega)) c32
                      refine lv_aload_n hx hb d_MenuScreensModel_addPart_239 rfl (lv_at hl 0 rfl) ?_
                      refine mm_get C X M 40 f_12_90_13 (.ref (ar 40)) rfl d_MenuScreensModel_addPart_240 ?_
                      refine lv_iload_n hx hb d_MenuScreensModel_addPart_243 rfl (lv_at hl 2 rfl) ?_
                      refine mm_iald C X M 40 512 rfl (A 40) rfl (by decide) k ei (by omega) d_MenuScreensModel_addPart_244 ?_
                      refine lv_aload_n hx hb d_MenuScreensModel_addPart_245 rfl (lv_at hl 0 rfl) ?_
                      refine mm_get C X M 20 f_12_169_13 (.int (x 20)) rfl d_MenuScreensModel_addPart_246 ?_
                      refine lv_icmp_ne (tgt := 271) hx hb d_MenuScreensModel_addPart_249 (by decide) (fun c33 => ?_) (fun c33 => ?_)
                      · skip
                        refine lv_iinc (v := (i + 1)) (lv' := [(2, .int (i + 1)), (0, .ref a), (1, .int p1)]) hx hb d_MenuScreensModel_addPart_271 hl (k := 2) rfl rfl (by decide) rfl (fun ls hl => ?_)
                        refine lv_goto (tgt := 231) hx hb d_MenuScreensModel_addPart_274 (by decide) ?_
                        have epq : (pq (A 40) (A 41) (x 20) (x 28) (k + 1)) = (pq (A 40) (A 41) (x 20) (x 28) k) := if_neg (fun z => c33 z.1)
                        rw [← epq] at M
                        exact ih_lp (k + 1) (i + 1) ls _ _ _ (by rw [ei]; exact nI_1 k) (by omega) (by omega) X M (lv_sub hl [1, 2, 0] rfl)
                      · skip
                        refine lv_aload_n hx hb d_MenuScreensModel_addPart_252 rfl (lv_at hl 0 rfl) ?_
                        refine mm_get C X M 41 f_12_93_13 (.ref (ar 41)) rfl d_MenuScreensModel_addPart_253 ?_
                        refine lv_iload_n hx hb d_MenuScreensModel_addPart_256 rfl (lv_at hl 2 rfl) ?_
                        refine mm_iald C X M 41 512 rfl (pq (A 40) (A 41) (x 20) (x 28) k) rfl (by decide) k ei (by omega) d_MenuScreensModel_addPart_257 ?_
                        refine lv_if_ge (tgt := 271) hx hb d_MenuScreensModel_addPart_258 (by decide) (fun c34 => ?_) (fun c34 => ?_)
                        · skip
                          refine lv_iinc (v := (i + 1)) (lv' := [(2, .int (i + 1)), (0, .ref a), (1, .int p1)]) hx hb d_MenuScreensModel_addPart_271 hl (k := 2) rfl rfl (by decide) rfl (fun ls hl => ?_)
                          refine lv_goto (tgt := 231) hx hb d_MenuScreensModel_addPart_274 (by decide) ?_
                          have epq : (pq (A 40) (A 41) (x 20) (x 28) (k + 1)) = (pq (A 40) (A 41) (x 20) (x 28) k) := if_neg (fun z => absurd z.2 (Int32.not_lt.mpr c34))
                          rw [← epq] at M
                          exact ih_lp (k + 1) (i + 1) ls _ _ _ (by rw [ei]; exact nI_1 k) (by omega) (by omega) X M (lv_sub hl [1, 2, 0] rfl)
                        · skip
                          refine lv_aload_n hx hb d_MenuScreensModel_addPart_261 rfl (lv_at hl 0 rfl) ?_
                          refine mm_get C X M 41 f_12_93_13 (.ref (ar 41)) rfl d_MenuScreensModel_addPart_262 ?_
                          refine lv_iload_n hx hb d_MenuScreensModel_addPart_265 rfl (lv_at hl 2 rfl) ?_
                          refine lv_aload_n hx hb d_MenuScreensModel_addPart_266 rfl (lv_at hl 0 rfl) ?_
                          refine mm_get C X M 28 f_12_222_13 (.int (x 28)) rfl d_MenuScreensModel_addPart_267 ?_
                          refine mm_iast C X M 41 512 rfl (pq (A 40) (A 41) (x 20) (x 28) k) rfl (fun _ => rfl) (by decide) k ei (by omega) d_MenuScreensModel_addPart_270 (fun h H locs X M => ?_)
                          rw [bx_uu] at M
                          refine lv_iinc (v := (i + 1)) (lv' := [(2, .int (i + 1)), (0, .ref a), (1, .int p1)]) hx hb d_MenuScreensModel_addPart_271 hl (k := 2) rfl rfl (by decide) rfl (fun ls hl => ?_)
                          refine lv_goto (tgt := 231) hx hb d_MenuScreensModel_addPart_274 (by decide) ?_
                          have epq : (pq (A 40) (A 41) (x 20) (x 28) (k + 1)) = (upd (pq (A 40) (A 41) (x 20) (x 28) k) k (x 28)) := if_pos ⟨c33, Int32.not_le.mp c34⟩
                          rw [← epq] at M
                          exact ih_lp (k + 1) (i + 1) ls _ _ _ (by rw [ei]; exact nI_1 k) (by omega) (by omega) X M (lv_sub hl [1, 2, 0] rfl)
                exact lp (nc - 0 + 1) 0 0 ls _ _ _ rfl (by omega) (Nat.lt_succ_self _) X M (lv_sub hl [1, 2, 0] rfl)
              · skip
                refine lv_iconst (v := 0) hx hb d_MenuScreensModel_addPart_204 (by decide) ?_
                exact mq_iret hQ C X hr rfl hlk (⟨(upd (upd (upd x 7 (nI (nT (A 6) e0 (nT4 (A 6) e0 i0)))) 9 (nI (nF (A 6) e0 (nT4 (A 6) e0 i0)))) 10 (nI (nT (A 6) e0 (nT4 (A 6) e0 i0)))), yn24, (va_up (va_up (va_up (va_up A 31 (upd (A 31) np ((vNu (A 6) e0 i0).toInt32))) 32 (upd (A 32) np ((vNu (A 6) e0 (nT (A 6) e0 i0)).toInt32))) 34 (upd (A 34) np ((vNu (A 6) e0 (nT2 (A 6) e0 i0)).toInt32))) 33 (upd (A 33) np (nI (fV A nv (nF (A 6) e0 (nT3 (A 6) e0 i0)) (nT4 (A 6) e0 i0))))), B, M, (fun k q7 q9 q10 q28 => by simp [upd, q7, q9, q10, q28]), (fun k q11 => by rw [kyn24 k q11, kyn5 k q11, kyn2 k q11]), Or.inr ⟨by unfold okPa; rw [if_pos c7]; rw [show cEnd (A 6) e0 (nT4 (A 6) e0 i0) = false from bI_0 (er30.symm.trans c31)]; simp, rfl, ⟨fun k q => by simp only [va_up]; repeat (first | rfl | rw [if_neg (by omega)]), rfl⟩⟩⟩) (Nat.le_refl _) (Nat.le_refl _) d_MenuScreensModel_addPart_205
            · skip
              refine lv_iconst (v := 0) hx hb d_MenuScreensModel_addPart_120 (by decide) ?_
              exact mq_iret hQ C X hr rfl hlk (⟨(upd (upd (upd x 7 (nI (nT4 (A 6) e0 i0))) 9 (nI (nF (A 6) e0 (nT3 (A 6) e0 i0)))) 10 (nI (nT4 (A 6) e0 i0))), yn24, (va_up (va_up (va_up (va_up A 31 (upd (A 31) np ((vNu (A 6) e0 i0).toInt32))) 32 (upd (A 32) np ((vNu (A 6) e0 (nT (A 6) e0 i0)).toInt32))) 34 (upd (A 34) np ((vNu (A 6) e0 (nT2 (A 6) e0 i0)).toInt32))) 33 (upd (A 33) np (nI (fV A nv (nF (A 6) e0 (nT3 (A 6) e0 i0)) (nT4 (A 6) e0 i0))))), B, M, (fun k q7 q9 q10 q28 => by simp [upd, q7, q9, q10, q28]), (fun k q11 => by rw [kyn24 k q11, kyn5 k q11, kyn2 k q11]), Or.inr ⟨by unfold okPa; rw [if_pos c7]; rw [decide_eq_false (p := fV A nv (nF (A 6) e0 (nT3 (A 6) e0 i0)) (nT4 (A 6) e0 i0) ≠ 0) (fun z => z (nI_eqI (by omega) (by decide) (by have := c29; rw [nI_0]; simpa [upd] using this)))]; simp, rfl, ⟨fun k q => by simp only [va_up]; repeat (first | rfl | rw [if_neg (by omega)]), rfl⟩⟩⟩) (Nat.le_refl _) (Nat.le_refl _) d_MenuScreensModel_addPart_121
          · skip
            refine lv_iconst (v := 0) hx hb d_MenuScreensModel_addPart_93 (by decide) ?_
            exact mq_iret hQ C X hr rfl hlk (⟨(upd (upd (upd x 7 (nI (nT4 (A 6) e0 i0))) 9 (nI (nF (A 6) e0 (nT3 (A 6) e0 i0)))) 10 (nI (nT4 (A 6) e0 i0))), yn24, (va_up (va_up (va_up A 31 (upd (A 31) np ((vNu (A 6) e0 i0).toInt32))) 32 (upd (A 32) np ((vNu (A 6) e0 (nT (A 6) e0 i0)).toInt32))) 34 (upd (A 34) np ((vNu (A 6) e0 (nT2 (A 6) e0 i0)).toInt32))), B, M, (fun k q7 q9 q10 q28 => by simp [upd, q7, q9, q10, q28]), (fun k q11 => by rw [kyn24 k q11, kyn5 k q11, kyn2 k q11]), Or.inr ⟨by unfold okPa; rw [if_pos c7]; rw [show cNm (A 6) e0 (nT3 (A 6) e0 i0) = false from bI_0 (er26.symm.trans c27)]; simp, rfl, ⟨fun k q => by simp only [va_up]; repeat (first | rfl | rw [if_neg (by omega)]), rfl⟩⟩⟩) (Nat.le_refl _) (Nat.le_refl _) d_MenuScreensModel_addPart_94
        · skip
          refine lv_iconst (v := 0) hx hb d_MenuScreensModel_addPart_70 (by decide) ?_
          exact mq_iret hQ C X hr rfl hlk (⟨(upd (upd (upd x 7 (nI (nT3 (A 6) e0 i0))) 9 (nI (nF (A 6) e0 (nT2 (A 6) e0 i0)))) 10 (nI (nT3 (A 6) e0 i0))), yn24, (va_up (va_up A 31 (upd (A 31) np ((vNu (A 6) e0 i0).toInt32))) 32 (upd (A 32) np ((vNu (A 6) e0 (nT (A 6) e0 i0)).toInt32))), B, M, (fun k q7 q9 q10 q28 => by simp [upd, q7, q9, q10, q28]), (fun k q11 => by rw [kyn24 k q11, kyn5 k q11, kyn2 k q11]), Or.inr ⟨by unfold okPa; rw [if_pos c7]; rw [show cNu (A 6) e0 (nT2 (A 6) e0 i0) 1 9 = false from bI_0 (er23.symm.trans c25)]; simp, rfl, ⟨fun k q => by simp only [va_up]; repeat (first | rfl | rw [if_neg (by omega)]), rfl⟩⟩⟩) (Nat.le_refl _) (Nat.le_refl _) d_MenuScreensModel_addPart_71
    · skip
      refine lv_iconst (v := 0) hx hb d_MenuScreensModel_addPart_38 (by decide) ?_
      exact mq_iret hQ C X hr rfl hlk (⟨(upd (upd (upd x 7 (nI (nT2 (A 6) e0 i0))) 9 (nI (nF (A 6) e0 (nT (A 6) e0 i0)))) 10 (nI (nT2 (A 6) e0 i0))), yn5, (va_up A 31 (upd (A 31) np ((vNu (A 6) e0 i0).toInt32))), B, M, (fun k q7 q9 q10 q28 => by simp [upd, q7, q9, q10, q28]), (fun k q11 => by rw [kyn5 k q11, kyn2 k q11]), Or.inr ⟨by unfold okPa; rw [show cNu (A 6) e0 (nT (A 6) e0 i0) 0 999999 = false from bI_0 (er4.symm.trans c6)]; simp, rfl, ⟨fun k q => by simp only [va_up]; repeat (first | rfl | rw [if_neg (by omega)]), rfl⟩⟩⟩) (Nat.le_refl _) (Nat.le_refl _) d_MenuScreensModel_addPart_39
  · skip
    refine lv_iconst (v := 0) hx hb d_MenuScreensModel_addPart_11 (by decide) ?_
    exact mq_iret hQ C X hr rfl hlk (⟨(upd (upd (upd x 7 (nI (nT (A 6) e0 i0))) 9 (nI (nF (A 6) e0 i0))) 10 (nI (nT (A 6) e0 i0))), yn2, A, B, M, (fun k q7 q9 q10 q28 => by simp [upd, q7, q9, q10, q28]), (fun k q11 => by rw [kyn2 k q11]), Or.inr ⟨by unfold okPa; rw [show cNu (A 6) e0 i0 0 999999 = false from bI_0 (er1.symm.trans c3)]; rfl, rfl, ⟨fun k q => by simp only [va_up]; repeat (first | rfl | rw [if_neg (by omega)]), rfl⟩⟩⟩) (Nat.le_refl _) (Nat.le_refl _) d_MenuScreensModel_addPart_12
