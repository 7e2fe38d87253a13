theorem d_MenuScreensModel_init_0 : decode prog_13_method_1_code 0 = .ok (.aload_n 0, 1) := by decide +kernel
theorem d_MenuScreensModel_init_1 : decode prog_13_method_1_code 1 = .ok (.invokespecial 1, 3) := by decide +kernel
theorem d_MenuScreensModel_init_4 : decode prog_13_method_1_code 4 = .ok (.aload_n 0, 1) := by decide +kernel
theorem d_MenuScreensModel_init_5 : decode prog_13_method_1_code 5 = .ok (.sipush 4000, 3) := by decide +kernel
theorem d_MenuScreensModel_init_8 : decode prog_13_method_1_code 8 = .ok (.newarray .int, 2) := by decide +kernel
theorem d_MenuScreensModel_init_10 : decode prog_13_method_1_code 10 = .ok (.putfield 7, 3) := by decide +kernel
theorem d_MenuScreensModel_init_13 : decode prog_13_method_1_code 13 = .ok (.aload_n 0, 1) := by decide +kernel
theorem d_MenuScreensModel_init_14 : decode prog_13_method_1_code 14 = .ok (.sipush 4000, 3) := by decide +kernel
theorem d_MenuScreensModel_init_17 : decode prog_13_method_1_code 17 = .ok (.newarray .int, 2) := by decide +kernel
theorem d_MenuScreensModel_init_19 : decode prog_13_method_1_code 19 = .ok (.putfield 13, 3) := by decide +kernel
theorem d_MenuScreensModel_init_22 : decode prog_13_method_1_code 22 = .ok (.aload_n 0, 1) := by decide +kernel
theorem d_MenuScreensModel_init_23 : decode prog_13_method_1_code 23 = .ok (.bipush 41, 2) := by decide +kernel
theorem d_MenuScreensModel_init_25 : decode prog_13_method_1_code 25 = .ok (.newarray .int, 2) := by decide +kernel
theorem d_MenuScreensModel_init_27 : decode prog_13_method_1_code 27 = .ok (.putfield 16, 3) := by decide +kernel
theorem d_MenuScreensModel_init_30 : decode prog_13_method_1_code 30 = .ok (.aload_n 0, 1) := by decide +kernel
theorem d_MenuScreensModel_init_31 : decode prog_13_method_1_code 31 = .ok (.bipush 41, 2) := by decide +kernel
theorem d_MenuScreensModel_init_33 : decode prog_13_method_1_code 33 = .ok (.newarray .int, 2) := by decide +kernel
theorem d_MenuScreensModel_init_35 : decode prog_13_method_1_code 35 = .ok (.putfield 19, 3) := by decide +kernel
theorem d_MenuScreensModel_init_38 : decode prog_13_method_1_code 38 = .ok (.aload_n 0, 1) := by decide +kernel
theorem d_MenuScreensModel_init_39 : decode prog_13_method_1_code 39 = .ok (.bipush 41, 2) := by decide +kernel
theorem d_MenuScreensModel_init_41 : decode prog_13_method_1_code 41 = .ok (.newarray .boolean, 2) := by decide +kernel
theorem d_MenuScreensModel_init_43 : decode prog_13_method_1_code 43 = .ok (.putfield 22, 3) := by decide +kernel
theorem d_MenuScreensModel_init_46 : decode prog_13_method_1_code 46 = .ok (.aload_n 0, 1) := by decide +kernel
theorem d_MenuScreensModel_init_47 : decode prog_13_method_1_code 47 = .ok (.bipush 41, 2) := by decide +kernel
theorem d_MenuScreensModel_init_49 : decode prog_13_method_1_code 49 = .ok (.newarray .long, 2) := by decide +kernel
theorem d_MenuScreensModel_init_51 : decode prog_13_method_1_code 51 = .ok (.putfield 26, 3) := by decide +kernel
theorem d_MenuScreensModel_init_54 : decode prog_13_method_1_code 54 = .ok (.aload_n 0, 1) := by decide +kernel
theorem d_MenuScreensModel_init_55 : decode prog_13_method_1_code 55 = .ok (.bipush 41, 2) := by decide +kernel
theorem d_MenuScreensModel_init_57 : decode prog_13_method_1_code 57 = .ok (.newarray .long, 2) := by decide +kernel
theorem d_MenuScreensModel_init_59 : decode prog_13_method_1_code 59 = .ok (.putfield 30, 3) := by decide +kernel
theorem d_MenuScreensModel_init_62 : decode prog_13_method_1_code 62 = .ok (.aload_n 0, 1) := by decide +kernel
theorem d_MenuScreensModel_init_63 : decode prog_13_method_1_code 63 = .ok (.bipush 41, 2) := by decide +kernel
theorem d_MenuScreensModel_init_65 : decode prog_13_method_1_code 65 = .ok (.newarray .long, 2) := by decide +kernel
theorem d_MenuScreensModel_init_67 : decode prog_13_method_1_code 67 = .ok (.putfield 33, 3) := by decide +kernel
theorem d_MenuScreensModel_init_70 : decode prog_13_method_1_code 70 = .ok (.aload_n 0, 1) := by decide +kernel
theorem d_MenuScreensModel_init_71 : decode prog_13_method_1_code 71 = .ok (.bipush 41, 2) := by decide +kernel
theorem d_MenuScreensModel_init_73 : decode prog_13_method_1_code 73 = .ok (.newarray .boolean, 2) := by decide +kernel
theorem d_MenuScreensModel_init_75 : decode prog_13_method_1_code 75 = .ok (.putfield 36, 3) := by decide +kernel
theorem d_MenuScreensModel_init_78 : decode prog_13_method_1_code 78 = .ok (.aload_n 0, 1) := by decide +kernel
theorem d_MenuScreensModel_init_79 : decode prog_13_method_1_code 79 = .ok (.bipush 31, 2) := by decide +kernel
theorem d_MenuScreensModel_init_81 : decode prog_13_method_1_code 81 = .ok (.newarray .int, 2) := by decide +kernel
theorem d_MenuScreensModel_init_83 : decode prog_13_method_1_code 83 = .ok (.putfield 39, 3) := by decide +kernel
theorem d_MenuScreensModel_init_86 : decode prog_13_method_1_code 86 = .ok (.aload_n 0, 1) := by decide +kernel
theorem d_MenuScreensModel_init_87 : decode prog_13_method_1_code 87 = .ok (.bipush 31, 2) := by decide +kernel
theorem d_MenuScreensModel_init_89 : decode prog_13_method_1_code 89 = .ok (.newarray .int, 2) := by decide +kernel
theorem d_MenuScreensModel_init_91 : decode prog_13_method_1_code 91 = .ok (.putfield 42, 3) := by decide +kernel
theorem d_MenuScreensModel_init_94 : decode prog_13_method_1_code 94 = .ok (.aload_n 0, 1) := by decide +kernel
theorem d_MenuScreensModel_init_95 : decode prog_13_method_1_code 95 = .ok (.bipush 31, 2) := by decide +kernel
theorem d_MenuScreensModel_init_97 : decode prog_13_method_1_code 97 = .ok (.newarray .int, 2) := by decide +kernel
theorem d_MenuScreensModel_init_99 : decode prog_13_method_1_code 99 = .ok (.putfield 45, 3) := by decide +kernel
theorem d_MenuScreensModel_init_102 : decode prog_13_method_1_code 102 = .ok (.aload_n 0, 1) := by decide +kernel
theorem d_MenuScreensModel_init_103 : decode prog_13_method_1_code 103 = .ok (.bipush 31, 2) := by decide +kernel
theorem d_MenuScreensModel_init_105 : decode prog_13_method_1_code 105 = .ok (.newarray .long, 2) := by decide +kernel
theorem d_MenuScreensModel_init_107 : decode prog_13_method_1_code 107 = .ok (.putfield 48, 3) := by decide +kernel
theorem d_MenuScreensModel_init_110 : decode prog_13_method_1_code 110 = .ok (.aload_n 0, 1) := by decide +kernel
theorem d_MenuScreensModel_init_111 : decode prog_13_method_1_code 111 = .ok (.bipush 31, 2) := by decide +kernel
theorem d_MenuScreensModel_init_113 : decode prog_13_method_1_code 113 = .ok (.newarray .boolean, 2) := by decide +kernel
theorem d_MenuScreensModel_init_115 : decode prog_13_method_1_code 115 = .ok (.putfield 51, 3) := by decide +kernel
theorem d_MenuScreensModel_init_118 : decode prog_13_method_1_code 118 = .ok (.aload_n 0, 1) := by decide +kernel
theorem d_MenuScreensModel_init_119 : decode prog_13_method_1_code 119 = .ok (.sipush 310, 3) := by decide +kernel
theorem d_MenuScreensModel_init_122 : decode prog_13_method_1_code 122 = .ok (.newarray .int, 2) := by decide +kernel
theorem d_MenuScreensModel_init_124 : decode prog_13_method_1_code 124 = .ok (.putfield 54, 3) := by decide +kernel
theorem d_MenuScreensModel_init_127 : decode prog_13_method_1_code 127 = .ok (.aload_n 0, 1) := by decide +kernel
theorem d_MenuScreensModel_init_128 : decode prog_13_method_1_code 128 = .ok (.sipush 310, 3) := by decide +kernel
theorem d_MenuScreensModel_init_131 : decode prog_13_method_1_code 131 = .ok (.newarray .int, 2) := by decide +kernel
theorem d_MenuScreensModel_init_133 : decode prog_13_method_1_code 133 = .ok (.putfield 57, 3) := by decide +kernel
theorem d_MenuScreensModel_init_136 : decode prog_13_method_1_code 136 = .ok (.aload_n 0, 1) := by decide +kernel
theorem d_MenuScreensModel_init_137 : decode prog_13_method_1_code 137 = .ok (.sipush 512, 3) := by decide +kernel
theorem d_MenuScreensModel_init_140 : decode prog_13_method_1_code 140 = .ok (.newarray .int, 2) := by decide +kernel
theorem d_MenuScreensModel_init_142 : decode prog_13_method_1_code 142 = .ok (.putfield 60, 3) := by decide +kernel
theorem d_MenuScreensModel_init_145 : decode prog_13_method_1_code 145 = .ok (.aload_n 0, 1) := by decide +kernel
theorem d_MenuScreensModel_init_146 : decode prog_13_method_1_code 146 = .ok (.sipush 512, 3) := by decide +kernel
theorem d_MenuScreensModel_init_149 : decode prog_13_method_1_code 149 = .ok (.newarray .int, 2) := by decide +kernel
theorem d_MenuScreensModel_init_151 : decode prog_13_method_1_code 151 = .ok (.putfield 63, 3) := by decide +kernel
theorem d_MenuScreensModel_init_154 : decode prog_13_method_1_code 154 = .ok (.aload_n 0, 1) := by decide +kernel
theorem d_MenuScreensModel_init_155 : decode prog_13_method_1_code 155 = .ok (.sipush 512, 3) := by decide +kernel
theorem d_MenuScreensModel_init_158 : decode prog_13_method_1_code 158 = .ok (.newarray .int, 2) := by decide +kernel
theorem d_MenuScreensModel_init_160 : decode prog_13_method_1_code 160 = .ok (.putfield 66, 3) := by decide +kernel
theorem d_MenuScreensModel_init_163 : decode prog_13_method_1_code 163 = .ok (.aload_n 0, 1) := by decide +kernel
theorem d_MenuScreensModel_init_164 : decode prog_13_method_1_code 164 = .ok (.sipush 512, 3) := by decide +kernel
theorem d_MenuScreensModel_init_167 : decode prog_13_method_1_code 167 = .ok (.newarray .int, 2) := by decide +kernel
theorem d_MenuScreensModel_init_169 : decode prog_13_method_1_code 169 = .ok (.putfield 69, 3) := by decide +kernel
theorem d_MenuScreensModel_init_172 : decode prog_13_method_1_code 172 = .ok (.aload_n 0, 1) := by decide +kernel
theorem d_MenuScreensModel_init_173 : decode prog_13_method_1_code 173 = .ok (.sipush 512, 3) := by decide +kernel
theorem d_MenuScreensModel_init_176 : decode prog_13_method_1_code 176 = .ok (.newarray .int, 2) := by decide +kernel
theorem d_MenuScreensModel_init_178 : decode prog_13_method_1_code 178 = .ok (.putfield 72, 3) := by decide +kernel
theorem d_MenuScreensModel_init_181 : decode prog_13_method_1_code 181 = .ok (.aload_n 0, 1) := by decide +kernel
theorem d_MenuScreensModel_init_182 : decode prog_13_method_1_code 182 = .ok (.sipush 512, 3) := by decide +kernel
theorem d_MenuScreensModel_init_185 : decode prog_13_method_1_code 185 = .ok (.newarray .int, 2) := by decide +kernel
theorem d_MenuScreensModel_init_187 : decode prog_13_method_1_code 187 = .ok (.putfield 75, 3) := by decide +kernel
theorem d_MenuScreensModel_init_190 : decode prog_13_method_1_code 190 = .ok (.aload_n 0, 1) := by decide +kernel
theorem d_MenuScreensModel_init_191 : decode prog_13_method_1_code 191 = .ok (.sipush 512, 3) := by decide +kernel
theorem d_MenuScreensModel_init_194 : decode prog_13_method_1_code 194 = .ok (.newarray .int, 2) := by decide +kernel
theorem d_MenuScreensModel_init_196 : decode prog_13_method_1_code 196 = .ok (.putfield 78, 3) := by decide +kernel
theorem d_MenuScreensModel_init_199 : decode prog_13_method_1_code 199 = .ok (.aload_n 0, 1) := by decide +kernel
theorem d_MenuScreensModel_init_200 : decode prog_13_method_1_code 200 = .ok (.sipush 512, 3) := by decide +kernel
theorem d_MenuScreensModel_init_203 : decode prog_13_method_1_code 203 = .ok (.newarray .int, 2) := by decide +kernel
theorem d_MenuScreensModel_init_205 : decode prog_13_method_1_code 205 = .ok (.putfield 81, 3) := by decide +kernel
theorem d_MenuScreensModel_init_208 : decode prog_13_method_1_code 208 = .ok (.aload_n 0, 1) := by decide +kernel
theorem d_MenuScreensModel_init_209 : decode prog_13_method_1_code 209 = .ok (.sipush 512, 3) := by decide +kernel
theorem d_MenuScreensModel_init_212 : decode prog_13_method_1_code 212 = .ok (.newarray .int, 2) := by decide +kernel
theorem d_MenuScreensModel_init_214 : decode prog_13_method_1_code 214 = .ok (.putfield 84, 3) := by decide +kernel
theorem d_MenuScreensModel_init_217 : decode prog_13_method_1_code 217 = .ok (.aload_n 0, 1) := by decide +kernel
theorem d_MenuScreensModel_init_218 : decode prog_13_method_1_code 218 = .ok (.sipush 512, 3) := by decide +kernel
theorem d_MenuScreensModel_init_221 : decode prog_13_method_1_code 221 = .ok (.newarray .int, 2) := by decide +kernel
theorem d_MenuScreensModel_init_223 : decode prog_13_method_1_code 223 = .ok (.putfield 87, 3) := by decide +kernel
theorem d_MenuScreensModel_init_226 : decode prog_13_method_1_code 226 = .ok (.aload_n 0, 1) := by decide +kernel
theorem d_MenuScreensModel_init_227 : decode prog_13_method_1_code 227 = .ok (.sipush 512, 3) := by decide +kernel
theorem d_MenuScreensModel_init_230 : decode prog_13_method_1_code 230 = .ok (.newarray .int, 2) := by decide +kernel
theorem d_MenuScreensModel_init_232 : decode prog_13_method_1_code 232 = .ok (.putfield 90, 3) := by decide +kernel
theorem d_MenuScreensModel_init_235 : decode prog_13_method_1_code 235 = .ok (.aload_n 0, 1) := by decide +kernel
theorem d_MenuScreensModel_init_236 : decode prog_13_method_1_code 236 = .ok (.sipush 512, 3) := by decide +kernel
theorem d_MenuScreensModel_init_239 : decode prog_13_method_1_code 239 = .ok (.newarray .int, 2) := by decide +kernel
theorem d_MenuScreensModel_init_241 : decode prog_13_method_1_code 241 = .ok (.putfield 93, 3) := by decide +kernel
theorem d_MenuScreensModel_init_244 : decode prog_13_method_1_code 244 = .ok (.aload_n 0, 1) := by decide +kernel
theorem d_MenuScreensModel_init_245 : decode prog_13_method_1_code 245 = .ok (.sipush 512, 3) := by decide +kernel
theorem d_MenuScreensModel_init_248 : decode prog_13_method_1_code 248 = .ok (.newarray .int, 2) := by decide +kernel
theorem d_MenuScreensModel_init_250 : decode prog_13_method_1_code 250 = .ok (.putfield 96, 3) := by decide +kernel
theorem d_MenuScreensModel_init_253 : decode prog_13_method_1_code 253 = .ok (.aload_n 0, 1) := by decide +kernel
theorem d_MenuScreensModel_init_254 : decode prog_13_method_1_code 254 = .ok (.sipush 512, 3) := by decide +kernel
theorem d_MenuScreensModel_init_257 : decode prog_13_method_1_code 257 = .ok (.newarray .int, 2) := by decide +kernel
theorem d_MenuScreensModel_init_259 : decode prog_13_method_1_code 259 = .ok (.putfield 99, 3) := by decide +kernel
theorem d_MenuScreensModel_init_262 : decode prog_13_method_1_code 262 = .ok (.aload_n 0, 1) := by decide +kernel
theorem d_MenuScreensModel_init_263 : decode prog_13_method_1_code 263 = .ok (.sipush 512, 3) := by decide +kernel
theorem d_MenuScreensModel_init_266 : decode prog_13_method_1_code 266 = .ok (.newarray .long, 2) := by decide +kernel
theorem d_MenuScreensModel_init_268 : decode prog_13_method_1_code 268 = .ok (.putfield 102, 3) := by decide +kernel
theorem d_MenuScreensModel_init_271 : decode prog_13_method_1_code 271 = .ok (.aload_n 0, 1) := by decide +kernel
theorem d_MenuScreensModel_init_272 : decode prog_13_method_1_code 272 = .ok (.bipush 30, 2) := by decide +kernel
theorem d_MenuScreensModel_init_274 : decode prog_13_method_1_code 274 = .ok (.newarray .int, 2) := by decide +kernel
theorem d_MenuScreensModel_init_276 : decode prog_13_method_1_code 276 = .ok (.putfield 105, 3) := by decide +kernel
theorem d_MenuScreensModel_init_279 : decode prog_13_method_1_code 279 = .ok (.aload_n 0, 1) := by decide +kernel
theorem d_MenuScreensModel_init_280 : decode prog_13_method_1_code 280 = .ok (.sipush 201, 3) := by decide +kernel
theorem d_MenuScreensModel_init_283 : decode prog_13_method_1_code 283 = .ok (.newarray .int, 2) := by decide +kernel
theorem d_MenuScreensModel_init_285 : decode prog_13_method_1_code 285 = .ok (.putfield 108, 3) := by decide +kernel
theorem d_MenuScreensModel_init_288 : decode prog_13_method_1_code 288 = .ok (.aload_n 0, 1) := by decide +kernel
theorem d_MenuScreensModel_init_289 : decode prog_13_method_1_code 289 = .ok (.sipush 201, 3) := by decide +kernel
theorem d_MenuScreensModel_init_292 : decode prog_13_method_1_code 292 = .ok (.newarray .long, 2) := by decide +kernel
theorem d_MenuScreensModel_init_294 : decode prog_13_method_1_code 294 = .ok (.putfield 111, 3) := by decide +kernel
theorem d_MenuScreensModel_init_297 : decode prog_13_method_1_code 297 = .ok (.aload_n 0, 1) := by decide +kernel
theorem d_MenuScreensModel_init_298 : decode prog_13_method_1_code 298 = .ok (.sipush 201, 3) := by decide +kernel
theorem d_MenuScreensModel_init_301 : decode prog_13_method_1_code 301 = .ok (.newarray .boolean, 2) := by decide +kernel
theorem d_MenuScreensModel_init_303 : decode prog_13_method_1_code 303 = .ok (.putfield 114, 3) := by decide +kernel
theorem d_MenuScreensModel_init_306 : decode prog_13_method_1_code 306 = .ok (.aload_n 0, 1) := by decide +kernel
theorem d_MenuScreensModel_init_307 : decode prog_13_method_1_code 307 = .ok (.bipush 16, 2) := by decide +kernel
theorem d_MenuScreensModel_init_309 : decode prog_13_method_1_code 309 = .ok (.newarray .boolean, 2) := by decide +kernel
theorem d_MenuScreensModel_init_311 : decode prog_13_method_1_code 311 = .ok (.putfield 117, 3) := by decide +kernel
theorem d_MenuScreensModel_init_314 : decode prog_13_method_1_code 314 = .ok (.iload_n 1, 1) := by decide +kernel
theorem d_MenuScreensModel_init_315 : decode prog_13_method_1_code 315 = .ok (.ifCond .le 23, 3) := by decide +kernel
theorem d_MenuScreensModel_init_318 : decode prog_13_method_1_code 318 = .ok (.iload_n 1, 1) := by decide +kernel
theorem d_MenuScreensModel_init_319 : decode prog_13_method_1_code 319 = .ok (.bipush 41, 2) := by decide +kernel
theorem d_MenuScreensModel_init_321 : decode prog_13_method_1_code 321 = .ok (.if_icmp .ge 17, 3) := by decide +kernel
theorem d_MenuScreensModel_init_324 : decode prog_13_method_1_code 324 = .ok (.iload_n 2, 1) := by decide +kernel
theorem d_MenuScreensModel_init_325 : decode prog_13_method_1_code 325 = .ok (.ifCond .le 13, 3) := by decide +kernel
theorem d_MenuScreensModel_init_328 : decode prog_13_method_1_code 328 = .ok (.iload_n 2, 1) := by decide +kernel
theorem d_MenuScreensModel_init_329 : decode prog_13_method_1_code 329 = .ok (.bipush 41, 2) := by decide +kernel
theorem d_MenuScreensModel_init_331 : decode prog_13_method_1_code 331 = .ok (.if_icmp .ge 7, 3) := by decide +kernel
theorem d_MenuScreensModel_init_334 : decode prog_13_method_1_code 334 = .ok (.iconst 1, 1) := by decide +kernel
theorem d_MenuScreensModel_init_335 : decode prog_13_method_1_code 335 = .ok (.goto 4, 3) := by decide +kernel
theorem d_MenuScreensModel_init_338 : decode prog_13_method_1_code 338 = .ok (.iconst 0, 1) := by decide +kernel
theorem d_MenuScreensModel_init_339 : decode prog_13_method_1_code 339 = .ok (.istore_n 3, 1) := by decide +kernel
theorem d_MenuScreensModel_init_340 : decode prog_13_method_1_code 340 = .ok (.aload_n 0, 1) := by decide +kernel
theorem d_MenuScreensModel_init_341 : decode prog_13_method_1_code 341 = .ok (.iload_n 3, 1) := by decide +kernel
theorem d_MenuScreensModel_init_342 : decode prog_13_method_1_code 342 = .ok (.ifCond .eq 7, 3) := by decide +kernel
theorem d_MenuScreensModel_init_345 : decode prog_13_method_1_code 345 = .ok (.iload_n 1, 1) := by decide +kernel
theorem d_MenuScreensModel_init_346 : decode prog_13_method_1_code 346 = .ok (.goto 4, 3) := by decide +kernel
theorem d_MenuScreensModel_init_349 : decode prog_13_method_1_code 349 = .ok (.iconst 4, 1) := by decide +kernel
theorem d_MenuScreensModel_init_350 : decode prog_13_method_1_code 350 = .ok (.putfield 120, 3) := by decide +kernel
theorem d_MenuScreensModel_init_353 : decode prog_13_method_1_code 353 = .ok (.aload_n 0, 1) := by decide +kernel
theorem d_MenuScreensModel_init_354 : decode prog_13_method_1_code 354 = .ok (.iload_n 3, 1) := by decide +kernel
theorem d_MenuScreensModel_init_355 : decode prog_13_method_1_code 355 = .ok (.ifCond .eq 7, 3) := by decide +kernel
theorem d_MenuScreensModel_init_358 : decode prog_13_method_1_code 358 = .ok (.iload_n 2, 1) := by decide +kernel
theorem d_MenuScreensModel_init_359 : decode prog_13_method_1_code 359 = .ok (.goto 5, 3) := by decide +kernel
theorem d_MenuScreensModel_init_362 : decode prog_13_method_1_code 362 = .ok (.bipush 16, 2) := by decide +kernel
theorem d_MenuScreensModel_init_364 : decode prog_13_method_1_code 364 = .ok (.putfield 124, 3) := by decide +kernel
theorem d_MenuScreensModel_init_367 : decode prog_13_method_1_code 367 = .ok (.return_, 1) := by decide +kernel
set_option maxRecDepth 100000 in
set_option maxHeartbeats 4000000 in
theorem cm_MenuScreensModel_init {l : Launch} {S0 : State} {b : Nat} {D : va_G} {dT : Nat → ClassId} (hE : vEnv S0 b D dT) {h0 : vH} {hcv : vH} {ad : Nat → Nat → Nat} {L : vL} (xl : LH S0.heap.size hcv h0 ad L) {p1 p2 : Int32} (h50 : L 50 0 = some (.inr (13, [.int 0, .int 0, .int 0, .int 0, .null, .int 0, .null, .int 0, .int 0, .int 0, .int 0, .long 0, .int 0, .null, .null, .null, .null, .null, .null, .null, .int 0, .null, .null, .null, .null, .null, .null, .null, .int 0, .null, .null, .null, .null, .null, .null, .null, .null, .null, .null, .int 0, .null, .null, .null, .null, .null, .int 0, .int 0, .long 0, .int 0, .null, .int 0, .null, .null, .null, .long 0, .int 0, .long 0, .long 0, .null]))) : vMv l S0 D vcl GT y_MenuScreensModel_init prog_13_method_1_code 4 none 1 12 36 17391 [.ref (ad 50 0), .int p1, .int p2] h0 (fun h' => ∃ ad' L', LR S0.heap.size hcv h0 ad L h' ad' L' ∧ (∀ i, i ≠ 50 → i ≠ 51 → L' i = L i ∧ ad' i = ad i) ∧ ad' 50 0 = ad 50 0 ∧ cMod dT ad' L' (iX p1 p2) (fun _ => 0) (fun _ _ => 0) (fun _ _ => 0)) := by
  unfold vMv
  refine vM_ofQ hE.1 (by decide) (Nat.le_of_ble_eq_true rfl) (fun p e s m args below meth c ls Q hQ C hr hlk hnm X hl => ?_)
  have C : vC p s m _ c _ _ "MenuScreensModel" GT D vcl (vty dT) := C
  have hx := C.1.1
  have hb := C.1.2.1
  obtain ⟨H, eH⟩ : ∃ z, z = s.heap := ⟨_, rfl⟩
  obtain ⟨locs, elocs⟩ : ∃ z : List Loc, z = [] := ⟨_, rfl⟩
  rw [← eH, ← elocs] at X
  rw [← eH, ← elocs]
  clear eH elocs
  have hl : lv_has ls 4 [(0, .ref (ad 50 0)), (1, .int p1), (2, .int p2)] := hl
  have wM : S0.heap.size ≤ ad 50 0 := xl.wr (i := 50) (j := 0) h50
  have y0 := LR.of xl
  have I0 : mIn dT ad L (ad 50 0) [.int 0, .int 0, .int 0, .int 0, .null, .int 0, .null, .int 0, .int 0, .int 0, .int 0, .long 0, .int 0, .null, .null, .null, .null, .null, .null, .null, .int 0, .null, .null, .null, .null, .null, .null, .null, .int 0, .null, .null, .null, .null, .null, .null, .null, .null, .null, .null, .int 0, .null, .null, .null, .null, .null, .int 0, .int 0, .long 0, .int 0, .null, .int 0, .null, .null, .null, .long 0, .int 0, .long 0, .long 0, .null] 0 := ⟨h50, rfl, fun k hk => absurd hk (Nat.not_lt_zero _)⟩
  have G0 : ∀ i, i ≠ 50 → i ≠ 51 → L i = L i ∧ ad i = ad i := fun _ _ _ => ⟨rfl, rfl⟩
  refine lv_aload_n hx hb d_MenuScreensModel_init_0 rfl (lv_at hl 0 rfl) ?_
  refine mv_obj C hl.1 ⟨gt_5 28 (by decide +kernel) rfl, gt_1 34 (by decide +kernel) rfl, gt_1 35 (rfl) rfl⟩ (Nat.le_of_ble_eq_true rfl) (Nat.le_of_ble_eq_true rfl) d_MenuScreensModel_init_1 ?_
  refine lv_aload_n hx hb d_MenuScreensModel_init_4 rfl (lv_at hl 0 rfl) ?_
  refine lv_sipush (v := 4000) hx hb d_MenuScreensModel_init_5 (by decide) ?_
  refine mv_newa C X (gt_1 123 (by decide +kernel) rfl) (ty := .int) rfl 0 rfl 4000 (a0 := (4000, .inl (fun _ => 0))) (fun _ => rfl) rfl (by decide) (by show 4000 * 4 ≤ _; omega) (by show 0 + 1 ≤ 36; omega) (by show 0 + 4000 ≤ 17391; omega) d_MenuScreensModel_init_8 (fun q1 H z_q1 w_q1 X => ?_)
  have n__ad_50_0__q1 : (ad 50 0) ≠ q1 := vnf (xl.get (i := 50) (j := 0) h50) z_q1
  have X : vO S0 D vcl (vup h0 q1 (.inl (dT 0, 4000, .inl (fun _ => 0)))) s H locs := X
  refine mv_putF C X ((vup_n _ _ n__ad_50_0__q1).trans (xl.get (i := 50) (j := 0) h50)) wM 4 hnm p_12_7_13 rfl rfl (Nat.le_of_ble_eq_true rfl) d_MenuScreensModel_init_10 (fun H locs X => ?_)
  have X : vO S0 D vcl (vup (vup h0 q1 (.inl (dT 0, 4000, .inl (fun _ => 0)))) (ad 50 0) (.inr (13, [.int 0, .int 0, .int 0, .int 0, .ref q1, .int 0, .null, .int 0, .int 0, .int 0, .int 0, .long 0, .int 0, .null, .null, .null, .null, .null, .null, .null, .int 0, .null, .null, .null, .null, .null, .null, .null, .int 0, .null, .null, .null, .null, .null, .null, .null, .null, .null, .null, .int 0, .null, .null, .null, .null, .null, .int 0, .int 0, .long 0, .int 0, .null, .int 0, .null, .null, .null, .long 0, .int 0, .long 0, .long 0, .null]))) s H locs := X
  obtain ⟨ad1, L1, s1, i1, g1⟩ := mIn_step (k := 4) (e := .inl (dT 0, 4000, .inl (fun _ => 0))) y0 I0 z_q1 w_q1 (by show 4 < 59; decide) (fun j a b => (by decide : ∀ j, j < 4 → 0 ≤ j → mAr j = false) j b a) rfl
  have I1 : mIn dT ad1 L1 (ad 50 0) [.int 0, .int 0, .int 0, .int 0, .ref q1, .int 0, .null, .int 0, .int 0, .int 0, .int 0, .long 0, .int 0, .null, .null, .null, .null, .null, .null, .null, .int 0, .null, .null, .null, .null, .null, .null, .null, .int 0, .null, .null, .null, .null, .null, .null, .null, .null, .null, .null, .int 0, .null, .null, .null, .null, .null, .int 0, .int 0, .long 0, .int 0, .null, .int 0, .null, .null, .null, .long 0, .int 0, .long 0, .long 0, .null] 5 := i1
  have G1 : ∀ i, i ≠ 50 → i ≠ 51 → L1 i = L i ∧ ad1 i = ad i := fun i a b => ⟨(g1 i a b).1.trans (G0 i a b).1, (g1 i a b).2.trans (G0 i a b).2⟩
  obtain ⟨v1, ev1⟩ : ∃ z, z = (vup (vup h0 q1 (.inl (dT 0, 4000, .inl (fun _ => 0)))) (ad 50 0) (.inr (13, [.int 0, .int 0, .int 0, .int 0, .ref q1, .int 0, .null, .int 0, .int 0, .int 0, .int 0, .long 0, .int 0, .null, .null, .null, .null, .null, .null, .null, .int 0, .null, .null, .null, .null, .null, .null, .null, .int 0, .null, .null, .null, .null, .null, .null, .null, .null, .null, .null, .int 0, .null, .null, .null, .null, .null, .int 0, .int 0, .long 0, .int 0, .null, .int 0, .null, .null, .null, .long 0, .int 0, .long 0, .long 0, .null]))) := ⟨_, rfl⟩
  have X : vO S0 D vcl (vup (vup h0 q1 (.inl (dT 0, 4000, .inl (fun _ => 0)))) (ad 50 0) (.inr (13, [.int 0, .int 0, .int 0, .int 0, .ref q1, .int 0, .null, .int 0, .int 0, .int 0, .int 0, .long 0, .int 0, .null, .null, .null, .null, .null, .null, .null, .int 0, .null, .null, .null, .null, .null, .null, .null, .int 0, .null, .null, .null, .null, .null, .null, .null, .null, .null, .null, .int 0, .null, .null, .null, .null, .null, .int 0, .int 0, .long 0, .int 0, .null, .int 0, .null, .null, .null, .long 0, .int 0, .long 0, .long 0, .null]))) s H locs := X
  rw [← ev1] at X
  have y1 : LR S0.heap.size hcv h0 ad L v1 ad1 L1 := by rw [ev1]; exact s1
  clear i1 s1 g1 G0 I0 y0
  have kM1 := y1.1.get (i := 50) (j := 0) I1.1
  rw [I1.2.1] at kM1
  clear ev1
  refine lv_aload_n hx hb d_MenuScreensModel_init_13 rfl (lv_at hl 0 rfl) ?_
  refine lv_sipush (v := 4000) hx hb d_MenuScreensModel_init_14 (by decide) ?_
  refine mv_newa C X (gt_1 123 (by decide +kernel) rfl) (ty := .int) rfl 0 rfl 4000 (a0 := (4000, .inl (fun _ => 0))) (fun _ => rfl) rfl (by decide) (by show 4000 * 4 ≤ _; omega) (by show (0 + 1) + 1 ≤ 36; omega) (by show (0 + 4000) + 4000 ≤ 17391; omega) d_MenuScreensModel_init_17 (fun q2 H z_q2 w_q2 X => ?_)
  have n__ad_50_0__q2 : (ad 50 0) ≠ q2 := vnf kM1 z_q2
  have X : vO S0 D vcl (vup v1 q2 (.inl (dT 0, 4000, .inl (fun _ => 0)))) s H locs := X
  refine mv_putF C X ((vup_n _ _ n__ad_50_0__q2).trans kM1) wM 6 hnm p_12_13_13 rfl rfl (Nat.le_of_ble_eq_true rfl) d_MenuScreensModel_init_19 (fun H locs X => ?_)
  have X : vO S0 D vcl (vup (vup v1 q2 (.inl (dT 0, 4000, .inl (fun _ => 0)))) (ad 50 0) (.inr (13, [.int 0, .int 0, .int 0, .int 0, .ref q1, .int 0, .ref q2, .int 0, .int 0, .int 0, .int 0, .long 0, .int 0, .null, .null, .null, .null, .null, .null, .null, .int 0, .null, .null, .null, .null, .null, .null, .null, .int 0, .null, .null, .null, .null, .null, .null, .null, .null, .null, .null, .int 0, .null, .null, .null, .null, .null, .int 0, .int 0, .long 0, .int 0, .null, .int 0, .null, .null, .null, .long 0, .int 0, .long 0, .long 0, .null]))) s H locs := X
  obtain ⟨ad2, L2, s2, i2, g2⟩ := mIn_step (k := 6) (e := .inl (dT 0, 4000, .inl (fun _ => 0))) y1 I1 z_q2 w_q2 (by show 6 < 59; decide) (fun j a b => (by decide : ∀ j, j < 6 → 5 ≤ j → mAr j = false) j b a) rfl
  have I2 : mIn dT ad2 L2 (ad 50 0) [.int 0, .int 0, .int 0, .int 0, .ref q1, .int 0, .ref q2, .int 0, .int 0, .int 0, .int 0, .long 0, .int 0, .null, .null, .null, .null, .null, .null, .null, .int 0, .null, .null, .null, .null, .null, .null, .null, .int 0, .null, .null, .null, .null, .null, .null, .null, .null, .null, .null, .int 0, .null, .null, .null, .null, .null, .int 0, .int 0, .long 0, .int 0, .null, .int 0, .null, .null, .null, .long 0, .int 0, .long 0, .long 0, .null] 7 := i2
  have G2 : ∀ i, i ≠ 50 → i ≠ 51 → L2 i = L i ∧ ad2 i = ad i := fun i a b => ⟨(g2 i a b).1.trans (G1 i a b).1, (g2 i a b).2.trans (G1 i a b).2⟩
  obtain ⟨v2, ev2⟩ : ∃ z, z = (vup (vup v1 q2 (.inl (dT 0, 4000, .inl (fun _ => 0)))) (ad 50 0) (.inr (13, [.int 0, .int 0, .int 0, .int 0, .ref q1, .int 0, .ref q2, .int 0, .int 0, .int 0, .int 0, .long 0, .int 0, .null, .null, .null, .null, .null, .null, .null, .int 0, .null, .null, .null, .null, .null, .null, .null, .int 0, .null, .null, .null, .null, .null, .null, .null, .null, .null, .null, .int 0, .null, .null, .null, .null, .null, .int 0, .int 0, .long 0, .int 0, .null, .int 0, .null, .null, .null, .long 0, .int 0, .long 0, .long 0, .null]))) := ⟨_, rfl⟩
  have X : vO S0 D vcl (vup (vup v1 q2 (.inl (dT 0, 4000, .inl (fun _ => 0)))) (ad 50 0) (.inr (13, [.int 0, .int 0, .int 0, .int 0, .ref q1, .int 0, .ref q2, .int 0, .int 0, .int 0, .int 0, .long 0, .int 0, .null, .null, .null, .null, .null, .null, .null, .int 0, .null, .null, .null, .null, .null, .null, .null, .int 0, .null, .null, .null, .null, .null, .null, .null, .null, .null, .null, .int 0, .null, .null, .null, .null, .null, .int 0, .int 0, .long 0, .int 0, .null, .int 0, .null, .null, .null, .long 0, .int 0, .long 0, .long 0, .null]))) s H locs := X
  rw [← ev2] at X
  have y2 : LR S0.heap.size hcv h0 ad L v2 ad2 L2 := by rw [ev2]; exact s2
  clear i2 s2 g2 G1 I1 y1
  have kM2 := y2.1.get (i := 50) (j := 0) I2.1
  rw [I2.2.1] at kM2
  clear ev2
  refine lv_aload_n hx hb d_MenuScreensModel_init_22 rfl (lv_at hl 0 rfl) ?_
  refine lv_bipush (v := 41) hx hb d_MenuScreensModel_init_23 (by decide) ?_
  refine mv_newa C X (gt_1 123 (by decide +kernel) rfl) (ty := .int) rfl 0 rfl 41 (a0 := (41, .inl (fun _ => 0))) (fun _ => rfl) rfl (by decide) (by show 41 * 4 ≤ _; omega) (by show ((0 + 1) + 1) + 1 ≤ 36; omega) (by show ((0 + 4000) + 4000) + 41 ≤ 17391; omega) d_MenuScreensModel_init_25 (fun q3 H z_q3 w_q3 X => ?_)
  have n__ad_50_0__q3 : (ad 50 0) ≠ q3 := vnf kM2 z_q3
  have X : vO S0 D vcl (vup v2 q3 (.inl (dT 0, 41, .inl (fun _ => 0)))) s H locs := X
  refine mv_putF C X ((vup_n _ _ n__ad_50_0__q3).trans kM2) wM 13 hnm p_12_16_13 rfl rfl (Nat.le_of_ble_eq_true rfl) d_MenuScreensModel_init_27 (fun H locs X => ?_)
  have X : vO S0 D vcl (vup (vup v2 q3 (.inl (dT 0, 41, .inl (fun _ => 0)))) (ad 50 0) (.inr (13, [.int 0, .int 0, .int 0, .int 0, .ref q1, .int 0, .ref q2, .int 0, .int 0, .int 0, .int 0, .long 0, .int 0, .ref q3, .null, .null, .null, .null, .null, .null, .int 0, .null, .null, .null, .null, .null, .null, .null, .int 0, .null, .null, .null, .null, .null, .null, .null, .null, .null, .null, .int 0, .null, .null, .null, .null, .null, .int 0, .int 0, .long 0, .int 0, .null, .int 0, .null, .null, .null, .long 0, .int 0, .long 0, .long 0, .null]))) s H locs := X
  obtain ⟨ad3, L3, s3, i3, g3⟩ := mIn_step (k := 13) (e := .inl (dT 0, 41, .inl (fun _ => 0))) y2 I2 z_q3 w_q3 (by show 13 < 59; decide) (fun j a b => (by decide : ∀ j, j < 13 → 7 ≤ j → mAr j = false) j b a) rfl
  have I3 : mIn dT ad3 L3 (ad 50 0) [.int 0, .int 0, .int 0, .int 0, .ref q1, .int 0, .ref q2, .int 0, .int 0, .int 0, .int 0, .long 0, .int 0, .ref q3, .null, .null, .null, .null, .null, .null, .int 0, .null, .null, .null, .null, .null, .null, .null, .int 0, .null, .null, .null, .null, .null, .null, .null, .null, .null, .null, .int 0, .null, .null, .null, .null, .null, .int 0, .int 0, .long 0, .int 0, .null, .int 0, .null, .null, .null, .long 0, .int 0, .long 0, .long 0, .null] 14 := i3
  have G3 : ∀ i, i ≠ 50 → i ≠ 51 → L3 i = L i ∧ ad3 i = ad i := fun i a b => ⟨(g3 i a b).1.trans (G2 i a b).1, (g3 i a b).2.trans (G2 i a b).2⟩
  obtain ⟨v3, ev3⟩ : ∃ z, z = (vup (vup v2 q3 (.inl (dT 0, 41, .inl (fun _ => 0)))) (ad 50 0) (.inr (13, [.int 0, .int 0, .int 0, .int 0, .ref q1, .int 0, .ref q2, .int 0, .int 0, .int 0, .int 0, .long 0, .int 0, .ref q3, .null, .null, .null, .null, .null, .null, .int 0, .null, .null, .null, .null, .null, .null, .null, .int 0, .null, .null, .null, .null, .null, .null, .null, .null, .null, .null, .int 0, .null, .null, .null, .null, .null, .int 0, .int 0, .long 0, .int 0, .null, .int 0, .null, .null, .null, .long 0, .int 0, .long 0, .long 0, .null]))) := ⟨_, rfl⟩
  have X : vO S0 D vcl (vup (vup v2 q3 (.inl (dT 0, 41, .inl (fun _ => 0)))) (ad 50 0) (.inr (13, [.int 0, .int 0, .int 0, .int 0, .ref q1, .int 0, .ref q2, .int 0, .int 0, .int 0, .int 0, .long 0, .int 0, .ref q3, .null, .null, .null, .null, .null, .null, .int 0, .null, .null, .null, .null, .null, .null, .null, .int 0, .null, .null, .null, .null, .null, .null, .null, .null, .null, .null, .int 0, .null, .null, .null, .null, .null, .int 0, .int 0, .long 0, .int 0, .null, .int 0, .null, .null, .null, .long 0, .int 0, .long 0, .long 0, .null]))) s H locs := X
  rw [← ev3] at X
  have y3 : LR S0.heap.size hcv h0 ad L v3 ad3 L3 := by rw [ev3]; exact s3
  clear i3 s3 g3 G2 I2 y2
  have kM3 := y3.1.get (i := 50) (j := 0) I3.1
  rw [I3.2.1] at kM3
  clear ev3
  refine lv_aload_n hx hb d_MenuScreensModel_init_30 rfl (lv_at hl 0 rfl) ?_
  refine lv_bipush (v := 41) hx hb d_MenuScreensModel_init_31 (by decide) ?_
  refine mv_newa C X (gt_1 123 (by decide +kernel) rfl) (ty := .int) rfl 0 rfl 41 (a0 := (41, .inl (fun _ => 0))) (fun _ => rfl) rfl (by decide) (by show 41 * 4 ≤ _; omega) (by show (((0 + 1) + 1) + 1) + 1 ≤ 36; omega) (by show (((0 + 4000) + 4000) + 41) + 41 ≤ 17391; omega) d_MenuScreensModel_init_33 (fun q4 H z_q4 w_q4 X => ?_)
  have n__ad_50_0__q4 : (ad 50 0) ≠ q4 := vnf kM3 z_q4
  have X : vO S0 D vcl (vup v3 q4 (.inl (dT 0, 41, .inl (fun _ => 0)))) s H locs := X
  refine mv_putF C X ((vup_n _ _ n__ad_50_0__q4).trans kM3) wM 14 hnm p_12_19_13 rfl rfl (Nat.le_of_ble_eq_true rfl) d_MenuScreensModel_init_35 (fun H locs X => ?_)
  have X : vO S0 D vcl (vup (vup v3 q4 (.inl (dT 0, 41, .inl (fun _ => 0)))) (ad 50 0) (.inr (13, [.int 0, .int 0, .int 0, .int 0, .ref q1, .int 0, .ref q2, .int 0, .int 0, .int 0, .int 0, .long 0, .int 0, .ref q3, .ref q4, .null, .null, .null, .null, .null, .int 0, .null, .null, .null, .null, .null, .null, .null, .int 0, .null, .null, .null, .null, .null, .null, .null, .null, .null, .null, .int 0, .null, .null, .null, .null, .null, .int 0, .int 0, .long 0, .int 0, .null, .int 0, .null, .null, .null, .long 0, .int 0, .long 0, .long 0, .null]))) s H locs := X
  obtain ⟨ad4, L4, s4, i4, g4⟩ := mIn_step (k := 14) (e := .inl (dT 0, 41, .inl (fun _ => 0))) y3 I3 z_q4 w_q4 (by show 14 < 59; decide) (fun j a b => (by decide : ∀ j, j < 14 → 14 ≤ j → mAr j = false) j b a) rfl
  have I4 : mIn dT ad4 L4 (ad 50 0) [.int 0, .int 0, .int 0, .int 0, .ref q1, .int 0, .ref q2, .int 0, .int 0, .int 0, .int 0, .long 0, .int 0, .ref q3, .ref q4, .null, .null, .null, .null, .null, .int 0, .null, .null, .null, .null, .null, .null, .null, .int 0, .null, .null, .null, .null, .null, .null, .null, .null, .null, .null, .int 0, .null, .null, .null, .null, .null, .int 0, .int 0, .long 0, .int 0, .null, .int 0, .null, .null, .null, .long 0, .int 0, .long 0, .long 0, .null] 15 := i4
  have G4 : ∀ i, i ≠ 50 → i ≠ 51 → L4 i = L i ∧ ad4 i = ad i := fun i a b => ⟨(g4 i a b).1.trans (G3 i a b).1, (g4 i a b).2.trans (G3 i a b).2⟩
  obtain ⟨v4, ev4⟩ : ∃ z, z = (vup (vup v3 q4 (.inl (dT 0, 41, .inl (fun _ => 0)))) (ad 50 0) (.inr (13, [.int 0, .int 0, .int 0, .int 0, .ref q1, .int 0, .ref q2, .int 0, .int 0, .int 0, .int 0, .long 0, .int 0, .ref q3, .ref q4, .null, .null, .null, .null, .null, .int 0, .null, .null, .null, .null, .null, .null, .null, .int 0, .null, .null, .null, .null, .null, .null, .null, .null, .null, .null, .int 0, .null, .null, .null, .null, .null, .int 0, .int 0, .long 0, .int 0, .null, .int 0, .null, .null, .null, .long 0, .int 0, .long 0, .long 0, .null]))) := ⟨_, rfl⟩
  have X : vO S0 D vcl (vup (vup v3 q4 (.inl (dT 0, 41, .inl (fun _ => 0)))) (ad 50 0) (.inr (13, [.int 0, .int 0, .int 0, .int 0, .ref q1, .int 0, .ref q2, .int 0, .int 0, .int 0, .int 0, .long 0, .int 0, .ref q3, .ref q4, .null, .null, .null, .null, .null, .int 0, .null, .null, .null, .null, .null, .null, .null, .int 0, .null, .null, .null, .null, .null, .null, .null, .null, .null, .null, .int 0, .null, .null, .null, .null, .null, .int 0, .int 0, .long 0, .int 0, .null, .int 0, .null, .null, .null, .long 0, .int 0, .long 0, .long 0, .null]))) s H locs := X
  rw [← ev4] at X
  have y4 : LR S0.heap.size hcv h0 ad L v4 ad4 L4 := by rw [ev4]; exact s4
  clear i4 s4 g4 G3 I3 y3
  have kM4 := y4.1.get (i := 50) (j := 0) I4.1
  rw [I4.2.1] at kM4
  clear ev4
  refine lv_aload_n hx hb d_MenuScreensModel_init_38 rfl (lv_at hl 0 rfl) ?_
  refine lv_bipush (v := 41) hx hb d_MenuScreensModel_init_39 (by decide) ?_
  refine mv_newa C X (gt_5 207 (by decide +kernel) rfl) (ty := .boolean) rfl 3 rfl 41 (a0 := (41, .inl (fun _ => 0))) (fun _ => rfl) rfl (by decide) (by show 41 * 1 ≤ _; omega) (by show ((((0 + 1) + 1) + 1) + 1) + 1 ≤ 36; omega) (by show ((((0 + 4000) + 4000) + 41) + 41) + 41 ≤ 17391; omega) d_MenuScreensModel_init_41 (fun q5 H z_q5 w_q5 X => ?_)
  have n__ad_50_0__q5 : (ad 50 0) ≠ q5 := vnf kM4 z_q5
  have X : vO S0 D vcl (vup v4 q5 (.inl (dT 3, 41, .inl (fun _ => 0)))) s H locs := X
  refine mv_putF C X ((vup_n _ _ n__ad_50_0__q5).trans kM4) wM 15 hnm p_12_22_13 rfl rfl (Nat.le_of_ble_eq_true rfl) d_MenuScreensModel_init_43 (fun H locs X => ?_)
  have X : vO S0 D vcl (vup (vup v4 q5 (.inl (dT 3, 41, .inl (fun _ => 0)))) (ad 50 0) (.inr (13, [.int 0, .int 0, .int 0, .int 0, .ref q1, .int 0, .ref q2, .int 0, .int 0, .int 0, .int 0, .long 0, .int 0, .ref q3, .ref q4, .ref q5, .null, .null, .null, .null, .int 0, .null, .null, .null, .null, .null, .null, .null, .int 0, .null, .null, .null, .null, .null, .null, .null, .null, .null, .null, .int 0, .null, .null, .null, .null, .null, .int 0, .int 0, .long 0, .int 0, .null, .int 0, .null, .null, .null, .long 0, .int 0, .long 0, .long 0, .null]))) s H locs := X
  obtain ⟨ad5, L5, s5, i5, g5⟩ := mIn_step (k := 15) (e := .inl (dT 3, 41, .inl (fun _ => 0))) y4 I4 z_q5 w_q5 (by show 15 < 59; decide) (fun j a b => (by decide : ∀ j, j < 15 → 15 ≤ j → mAr j = false) j b a) rfl
  have I5 : mIn dT ad5 L5 (ad 50 0) [.int 0, .int 0, .int 0, .int 0, .ref q1, .int 0, .ref q2, .int 0, .int 0, .int 0, .int 0, .long 0, .int 0, .ref q3, .ref q4, .ref q5, .null, .null, .null, .null, .int 0, .null, .null, .null, .null, .null, .null, .null, .int 0, .null, .null, .null, .null, .null, .null, .null, .null, .null, .null, .int 0, .null, .null, .null, .null, .null, .int 0, .int 0, .long 0, .int 0, .null, .int 0, .null, .null, .null, .long 0, .int 0, .long 0, .long 0, .null] 16 := i5
  have G5 : ∀ i, i ≠ 50 → i ≠ 51 → L5 i = L i ∧ ad5 i = ad i := fun i a b => ⟨(g5 i a b).1.trans (G4 i a b).1, (g5 i a b).2.trans (G4 i a b).2⟩
  obtain ⟨v5, ev5⟩ : ∃ z, z = (vup (vup v4 q5 (.inl (dT 3, 41, .inl (fun _ => 0)))) (ad 50 0) (.inr (13, [.int 0, .int 0, .int 0, .int 0, .ref q1, .int 0, .ref q2, .int 0, .int 0, .int 0, .int 0, .long 0, .int 0, .ref q3, .ref q4, .ref q5, .null, .null, .null, .null, .int 0, .null, .null, .null, .null, .null, .null, .null, .int 0, .null, .null, .null, .null, .null, .null, .null, .null, .null, .null, .int 0, .null, .null, .null, .null, .null, .int 0, .int 0, .long 0, .int 0, .null, .int 0, .null, .null, .null, .long 0, .int 0, .long 0, .long 0, .null]))) := ⟨_, rfl⟩
  have X : vO S0 D vcl (vup (vup v4 q5 (.inl (dT 3, 41, .inl (fun _ => 0)))) (ad 50 0) (.inr (13, [.int 0, .int 0, .int 0, .int 0, .ref q1, .int 0, .ref q2, .int 0, .int 0, .int 0, .int 0, .long 0, .int 0, .ref q3, .ref q4, .ref q5, .null, .null, .null, .null, .int 0, .null, .null, .null, .null, .null, .null, .null, .int 0, .null, .null, .null, .null, .null, .null, .null, .null, .null, .null, .int 0, .null, .null, .null, .null, .null, .int 0, .int 0, .long 0, .int 0, .null, .int 0, .null, .null, .null, .long 0, .int 0, .long 0, .long 0, .null]))) s H locs := X
  rw [← ev5] at X
  have y5 : LR S0.heap.size hcv h0 ad L v5 ad5 L5 := by rw [ev5]; exact s5
  clear i5 s5 g5 G4 I4 y4
  have kM5 := y5.1.get (i := 50) (j := 0) I5.1
  rw [I5.2.1] at kM5
  clear ev5
  refine lv_aload_n hx hb d_MenuScreensModel_init_46 rfl (lv_at hl 0 rfl) ?_
  refine lv_bipush (v := 41) hx hb d_MenuScreensModel_init_47 (by decide) ?_
  refine mv_newa C X (gt_1 183 (by decide +kernel) rfl) (ty := .long) rfl 1 rfl 41 (a0 := (41, .inr (.inl (fun _ => 0)))) (fun _ => rfl) rfl (by decide) (by show 41 * 8 ≤ _; omega) (by show (((((0 + 1) + 1) + 1) + 1) + 1) + 1 ≤ 36; omega) (by show (((((0 + 4000) + 4000) + 41) + 41) + 41) + 41 ≤ 17391; omega) d_MenuScreensModel_init_49 (fun q6 H z_q6 w_q6 X => ?_)
  have n__ad_50_0__q6 : (ad 50 0) ≠ q6 := vnf kM5 z_q6
  have X : vO S0 D vcl (vup v5 q6 (.inl (dT 1, 41, .inr (.inl (fun _ => 0))))) s H locs := X
  refine mv_putF C X ((vup_n _ _ n__ad_50_0__q6).trans kM5) wM 16 hnm p_12_26_13 rfl rfl (Nat.le_of_ble_eq_true rfl) d_MenuScreensModel_init_51 (fun H locs X => ?_)
  have X : vO S0 D vcl (vup (vup v5 q6 (.inl (dT 1, 41, .inr (.inl (fun _ => 0))))) (ad 50 0) (.inr (13, [.int 0, .int 0, .int 0, .int 0, .ref q1, .int 0, .ref q2, .int 0, .int 0, .int 0, .int 0, .long 0, .int 0, .ref q3, .ref q4, .ref q5, .ref q6, .null, .null, .null, .int 0, .null, .null, .null, .null, .null, .null, .null, .int 0, .null, .null, .null, .null, .null, .null, .null, .null, .null, .null, .int 0, .null, .null, .null, .null, .null, .int 0, .int 0, .long 0, .int 0, .null, .int 0, .null, .null, .null, .long 0, .int 0, .long 0, .long 0, .null]))) s H locs := X
  obtain ⟨ad6, L6, s6, i6, g6⟩ := mIn_step (k := 16) (e := .inl (dT 1, 41, .inr (.inl (fun _ => 0)))) y5 I5 z_q6 w_q6 (by show 16 < 59; decide) (fun j a b => (by decide : ∀ j, j < 16 → 16 ≤ j → mAr j = false) j b a) rfl
  have I6 : mIn dT ad6 L6 (ad 50 0) [.int 0, .int 0, .int 0, .int 0, .ref q1, .int 0, .ref q2, .int 0, .int 0, .int 0, .int 0, .long 0, .int 0, .ref q3, .ref q4, .ref q5, .ref q6, .null, .null, .null, .int 0, .null, .null, .null, .null, .null, .null, .null, .int 0, .null, .null, .null, .null, .null, .null, .null, .null, .null, .null, .int 0, .null, .null, .null, .null, .null, .int 0, .int 0, .long 0, .int 0, .null, .int 0, .null, .null, .null, .long 0, .int 0, .long 0, .long 0, .null] 17 := i6
  have G6 : ∀ i, i ≠ 50 → i ≠ 51 → L6 i = L i ∧ ad6 i = ad i := fun i a b => ⟨(g6 i a b).1.trans (G5 i a b).1, (g6 i a b).2.trans (G5 i a b).2⟩
  obtain ⟨v6, ev6⟩ : ∃ z, z = (vup (vup v5 q6 (.inl (dT 1, 41, .inr (.inl (fun _ => 0))))) (ad 50 0) (.inr (13, [.int 0, .int 0, .int 0, .int 0, .ref q1, .int 0, .ref q2, .int 0, .int 0, .int 0, .int 0, .long 0, .int 0, .ref q3, .ref q4, .ref q5, .ref q6, .null, .null, .null, .int 0, .null, .null, .null, .null, .null, .null, .null, .int 0, .null, .null, .null, .null, .null, .null, .null, .null, .null, .null, .int 0, .null, .null, .null, .null, .null, .int 0, .int 0, .long 0, .int 0, .null, .int 0, .null, .null, .null, .long 0, .int 0, .long 0, .long 0, .null]))) := ⟨_, rfl⟩
  have X : vO S0 D vcl (vup (vup v5 q6 (.inl (dT 1, 41, .inr (.inl (fun _ => 0))))) (ad 50 0) (.inr (13, [.int 0, .int 0, .int 0, .int 0, .ref q1, .int 0, .ref q2, .int 0, .int 0, .int 0, .int 0, .long 0, .int 0, .ref q3, .ref q4, .ref q5, .ref q6, .null, .null, .null, .int 0, .null, .null, .null, .null, .null, .null, .null, .int 0, .null, .null, .null, .null, .null, .null, .null, .null, .null, .null, .int 0, .null, .null, .null, .null, .null, .int 0, .int 0, .long 0, .int 0, .null, .int 0, .null, .null, .null, .long 0, .int 0, .long 0, .long 0, .null]))) s H locs := X
  rw [← ev6] at X
  have y6 : LR S0.heap.size hcv h0 ad L v6 ad6 L6 := by rw [ev6]; exact s6
  clear i6 s6 g6 G5 I5 y5
  have kM6 := y6.1.get (i := 50) (j := 0) I6.1
  rw [I6.2.1] at kM6
  clear ev6
  refine lv_aload_n hx hb d_MenuScreensModel_init_54 rfl (lv_at hl 0 rfl) ?_
  refine lv_bipush (v := 41) hx hb d_MenuScreensModel_init_55 (by decide) ?_
  refine mv_newa C X (gt_1 183 (by decide +kernel) rfl) (ty := .long) rfl 1 rfl 41 (a0 := (41, .inr (.inl (fun _ => 0)))) (fun _ => rfl) rfl (by decide) (by show 41 * 8 ≤ _; omega) (by show ((((((0 + 1) + 1) + 1) + 1) + 1) + 1) + 1 ≤ 36; omega) (by show ((((((0 + 4000) + 4000) + 41) + 41) + 41) + 41) + 41 ≤ 17391; omega) d_MenuScreensModel_init_57 (fun q7 H z_q7 w_q7 X => ?_)
  have n__ad_50_0__q7 : (ad 50 0) ≠ q7 := vnf kM6 z_q7
  have X : vO S0 D vcl (vup v6 q7 (.inl (dT 1, 41, .inr (.inl (fun _ => 0))))) s H locs := X
  refine mv_putF C X ((vup_n _ _ n__ad_50_0__q7).trans kM6) wM 17 hnm p_12_30_13 rfl rfl (Nat.le_of_ble_eq_true rfl) d_MenuScreensModel_init_59 (fun H locs X => ?_)
  have X : vO S0 D vcl (vup (vup v6 q7 (.inl (dT 1, 41, .inr (.inl (fun _ => 0))))) (ad 50 0) (.inr (13, [.int 0, .int 0, .int 0, .int 0, .ref q1, .int 0, .ref q2, .int 0, .int 0, .int 0, .int 0, .long 0, .int 0, .ref q3, .ref q4, .ref q5, .ref q6, .ref q7, .null, .null, .int 0, .null, .null, .null, .null, .null, .null, .null, .int 0, .null, .null, .null, .null, .null, .null, .null, .null, .null, .null, .int 0, .null, .null, .null, .null, .null, .int 0, .int 0, .long 0, .int 0, .null, .int 0, .null, .null, .null, .long 0, .int 0, .long 0, .long 0, .null]))) s H locs := X
  obtain ⟨ad7, L7, s7, i7, g7⟩ := mIn_step (k := 17) (e := .inl (dT 1, 41, .inr (.inl (fun _ => 0)))) y6 I6 z_q7 w_q7 (by show 17 < 59; decide) (fun j a b => (by decide : ∀ j, j < 17 → 17 ≤ j → mAr j = false) j b a) rfl
  have I7 : mIn dT ad7 L7 (ad 50 0) [.int 0, .int 0, .int 0, .int 0, .ref q1, .int 0, .ref q2, .int 0, .int 0, .int 0, .int 0, .long 0, .int 0, .ref q3, .ref q4, .ref q5, .ref q6, .ref q7, .null, .null, .int 0, .null, .null, .null, .null, .null, .null, .null, .int 0, .null, .null, .null, .null, .null, .null, .null, .null, .null, .null, .int 0, .null, .null, .null, .null, .null, .int 0, .int 0, .long 0, .int 0, .null, .int 0, .null, .null, .null, .long 0, .int 0, .long 0, .long 0, .null] 18 := i7
  have G7 : ∀ i, i ≠ 50 → i ≠ 51 → L7 i = L i ∧ ad7 i = ad i := fun i a b => ⟨(g7 i a b).1.trans (G6 i a b).1, (g7 i a b).2.trans (G6 i a b).2⟩
  obtain ⟨v7, ev7⟩ : ∃ z, z = (vup (vup v6 q7 (.inl (dT 1, 41, .inr (.inl (fun _ => 0))))) (ad 50 0) (.inr (13, [.int 0, .int 0, .int 0, .int 0, .ref q1, .int 0, .ref q2, .int 0, .int 0, .int 0, .int 0, .long 0, .int 0, .ref q3, .ref q4, .ref q5, .ref q6, .ref q7, .null, .null, .int 0, .null, .null, .null, .null, .null, .null, .null, .int 0, .null, .null, .null, .null, .null, .null, .null, .null, .null, .null, .int 0, .null, .null, .null, .null, .null, .int 0, .int 0, .long 0, .int 0, .null, .int 0, .null, .null, .null, .long 0, .int 0, .long 0, .long 0, .null]))) := ⟨_, rfl⟩
  have X : vO S0 D vcl (vup (vup v6 q7 (.inl (dT 1, 41, .inr (.inl (fun _ => 0))))) (ad 50 0) (.inr (13, [.int 0, .int 0, .int 0, .int 0, .ref q1, .int 0, .ref q2, .int 0, .int 0, .int 0, .int 0, .long 0, .int 0, .ref q3, .ref q4, .ref q5, .ref q6, .ref q7, .null, .null, .int 0, .null, .null, .null, .null, .null, .null, .null, .int 0, .null, .null, .null, .null, .null, .null, .null, .null, .null, .null, .int 0, .null, .null, .null, .null, .null, .int 0, .int 0, .long 0, .int 0, .null, .int 0, .null, .null, .null, .long 0, .int 0, .long 0, .long 0, .null]))) s H locs := X
  rw [← ev7] at X
  have y7 : LR S0.heap.size hcv h0 ad L v7 ad7 L7 := by rw [ev7]; exact s7
  clear i7 s7 g7 G6 I6 y6
  have kM7 := y7.1.get (i := 50) (j := 0) I7.1
  rw [I7.2.1] at kM7
  clear ev7
  refine lv_aload_n hx hb d_MenuScreensModel_init_62 rfl (lv_at hl 0 rfl) ?_
  refine lv_bipush (v := 41) hx hb d_MenuScreensModel_init_63 (by decide) ?_
  refine mv_newa C X (gt_1 183 (by decide +kernel) rfl) (ty := .long) rfl 1 rfl 41 (a0 := (41, .inr (.inl (fun _ => 0)))) (fun _ => rfl) rfl (by decide) (by show 41 * 8 ≤ _; omega) (by show (((((((0 + 1) + 1) + 1) + 1) + 1) + 1) + 1) + 1 ≤ 36; omega) (by show (((((((0 + 4000) + 4000) + 41) + 41) + 41) + 41) + 41) + 41 ≤ 17391; omega) d_MenuScreensModel_init_65 (fun q8 H z_q8 w_q8 X => ?_)
  have n__ad_50_0__q8 : (ad 50 0) ≠ q8 := vnf kM7 z_q8
  have X : vO S0 D vcl (vup v7 q8 (.inl (dT 1, 41, .inr (.inl (fun _ => 0))))) s H locs := X
  refine mv_putF C X ((vup_n _ _ n__ad_50_0__q8).trans kM7) wM 18 hnm p_12_33_13 rfl rfl (Nat.le_of_ble_eq_true rfl) d_MenuScreensModel_init_67 (fun H locs X => ?_)
  have X : vO S0 D vcl (vup (vup v7 q8 (.inl (dT 1, 41, .inr (.inl (fun _ => 0))))) (ad 50 0) (.inr (13, [.int 0, .int 0, .int 0, .int 0, .ref q1, .int 0, .ref q2, .int 0, .int 0, .int 0, .int 0, .long 0, .int 0, .ref q3, .ref q4, .ref q5, .ref q6, .ref q7, .ref q8, .null, .int 0, .null, .null, .null, .null, .null, .null, .null, .int 0, .null, .null, .null, .null, .null, .null, .null, .null, .null, .null, .int 0, .null, .null, .null, .null, .null, .int 0, .int 0, .long 0, .int 0, .null, .int 0, .null, .null, .null, .long 0, .int 0, .long 0, .long 0, .null]))) s H locs := X
  obtain ⟨ad8, L8, s8, i8, g8⟩ := mIn_step (k := 18) (e := .inl (dT 1, 41, .inr (.inl (fun _ => 0)))) y7 I7 z_q8 w_q8 (by show 18 < 59; decide) (fun j a b => (by decide : ∀ j, j < 18 → 18 ≤ j → mAr j = false) j b a) rfl
  have I8 : mIn dT ad8 L8 (ad 50 0) [.int 0, .int 0, .int 0, .int 0, .ref q1, .int 0, .ref q2, .int 0, .int 0, .int 0, .int 0, .long 0, .int 0, .ref q3, .ref q4, .ref q5, .ref q6, .ref q7, .ref q8, .null, .int 0, .null, .null, .null, .null, .null, .null, .null, .int 0, .null, .null, .null, .null, .null, .null, .null, .null, .null, .null, .int 0, .null, .null, .null, .null, .null, .int 0, .int 0, .long 0, .int 0, .null, .int 0, .null, .null, .null, .long 0, .int 0, .long 0, .long 0, .null] 19 := i8
  have G8 : ∀ i, i ≠ 50 → i ≠ 51 → L8 i = L i ∧ ad8 i = ad i := fun i a b => ⟨(g8 i a b).1.trans (G7 i a b).1, (g8 i a b).2.trans (G7 i a b).2⟩
  obtain ⟨v8, ev8⟩ : ∃ z, z = (vup (vup v7 q8 (.inl (dT 1, 41, .inr (.inl (fun _ => 0))))) (ad 50 0) (.inr (13, [.int 0, .int 0, .int 0, .int 0, .ref q1, .int 0, .ref q2, .int 0, .int 0, .int 0, .int 0, .long 0, .int 0, .ref q3, .ref q4, .ref q5, .ref q6, .ref q7, .ref q8, .null, .int 0, .null, .null, .null, .null, .null, .null, .null, .int 0, .null, .null, .null, .null, .null, .null, .null, .null, .null, .null, .int 0, .null, .null, .null, .null, .null, .int 0, .int 0, .long 0, .int 0, .null, .int 0, .null, .null, .null, .long 0, .int 0, .long 0, .long 0, .null]))) := ⟨_, rfl⟩
  have X : vO S0 D vcl (vup (vup v7 q8 (.inl (dT 1, 41, .inr (.inl (fun _ => 0))))) (ad 50 0) (.inr (13, [.int 0, .int 0, .int 0, .int 0, .ref q1, .int 0, .ref q2, .int 0, .int 0, .int 0, .int 0, .long 0, .int 0, .ref q3, .ref q4, .ref q5, .ref q6, .ref q7, .ref q8, .null, .int 0, .null, .null, .null, .null, .null, .null, .null, .int 0, .null, .null, .null, .null, .null, .null, .null, .null, .null, .null, .int 0, .null, .null, .null, .null, .null, .int 0, .int 0, .long 0, .int 0, .null, .int 0, .null, .null, .null, .long 0, .int 0, .long 0, .long 0, .null]))) s H locs := X
  rw [← ev8] at X
  have y8 : LR S0.heap.size hcv h0 ad L v8 ad8 L8 := by rw [ev8]; exact s8
  clear i8 s8 g8 G7 I7 y7
  have kM8 := y8.1.get (i := 50) (j := 0) I8.1
  rw [I8.2.1] at kM8
  clear ev8
  refine lv_aload_n hx hb d_MenuScreensModel_init_70 rfl (lv_at hl 0 rfl) ?_
  refine lv_bipush (v := 41) hx hb d_MenuScreensModel_init_71 (by decide) ?_
  refine mv_newa C X (gt_5 207 (by decide +kernel) rfl) (ty := .boolean) rfl 3 rfl 41 (a0 := (41, .inl (fun _ => 0))) (fun _ => rfl) rfl (by decide) (by show 41 * 1 ≤ _; omega) (by show ((((((((0 + 1) + 1) + 1) + 1) + 1) + 1) + 1) + 1) + 1 ≤ 36; omega) (by show ((((((((0 + 4000) + 4000) + 41) + 41) + 41) + 41) + 41) + 41) + 41 ≤ 17391; omega) d_MenuScreensModel_init_73 (fun q9 H z_q9 w_q9 X => ?_)
  have n__ad_50_0__q9 : (ad 50 0) ≠ q9 := vnf kM8 z_q9
  have X : vO S0 D vcl (vup v8 q9 (.inl (dT 3, 41, .inl (fun _ => 0)))) s H locs := X
  refine mv_putF C X ((vup_n _ _ n__ad_50_0__q9).trans kM8) wM 19 hnm p_12_36_13 rfl rfl (Nat.le_of_ble_eq_true rfl) d_MenuScreensModel_init_75 (fun H locs X => ?_)
  have X : vO S0 D vcl (vup (vup v8 q9 (.inl (dT 3, 41, .inl (fun _ => 0)))) (ad 50 0) (.inr (13, [.int 0, .int 0, .int 0, .int 0, .ref q1, .int 0, .ref q2, .int 0, .int 0, .int 0, .int 0, .long 0, .int 0, .ref q3, .ref q4, .ref q5, .ref q6, .ref q7, .ref q8, .ref q9, .int 0, .null, .null, .null, .null, .null, .null, .null, .int 0, .null, .null, .null, .null, .null, .null, .null, .null, .null, .null, .int 0, .null, .null, .null, .null, .null, .int 0, .int 0, .long 0, .int 0, .null, .int 0, .null, .null, .null, .long 0, .int 0, .long 0, .long 0, .null]))) s H locs := X
  obtain ⟨ad9, L9, s9, i9, g9⟩ := mIn_step (k := 19) (e := .inl (dT 3, 41, .inl (fun _ => 0))) y8 I8 z_q9 w_q9 (by show 19 < 59; decide) (fun j a b => (by decide : ∀ j, j < 19 → 19 ≤ j → mAr j = false) j b a) rfl
  have I9 : mIn dT ad9 L9 (ad 50 0) [.int 0, .int 0, .int 0, .int 0, .ref q1, .int 0, .ref q2, .int 0, .int 0, .int 0, .int 0, .long 0, .int 0, .ref q3, .ref q4, .ref q5, .ref q6, .ref q7, .ref q8, .ref q9, .int 0, .null, .null, .null, .null, .null, .null, .null, .int 0, .null, .null, .null, .null, .null, .null, .null, .null, .null, .null, .int 0, .null, .null, .null, .null, .null, .int 0, .int 0, .long 0, .int 0, .null, .int 0, .null, .null, .null, .long 0, .int 0, .long 0, .long 0, .null] 20 := i9
  have G9 : ∀ i, i ≠ 50 → i ≠ 51 → L9 i = L i ∧ ad9 i = ad i := fun i a b => ⟨(g9 i a b).1.trans (G8 i a b).1, (g9 i a b).2.trans (G8 i a b).2⟩
  obtain ⟨v9, ev9⟩ : ∃ z, z = (vup (vup v8 q9 (.inl (dT 3, 41, .inl (fun _ => 0)))) (ad 50 0) (.inr (13, [.int 0, .int 0, .int 0, .int 0, .ref q1, .int 0, .ref q2, .int 0, .int 0, .int 0, .int 0, .long 0, .int 0, .ref q3, .ref q4, .ref q5, .ref q6, .ref q7, .ref q8, .ref q9, .int 0, .null, .null, .null, .null, .null, .null, .null, .int 0, .null, .null, .null, .null, .null, .null, .null, .null, .null, .null, .int 0, .null, .null, .null, .null, .null, .int 0, .int 0, .long 0, .int 0, .null, .int 0, .null, .null, .null, .long 0, .int 0, .long 0, .long 0, .null]))) := ⟨_, rfl⟩
  have X : vO S0 D vcl (vup (vup v8 q9 (.inl (dT 3, 41, .inl (fun _ => 0)))) (ad 50 0) (.inr (13, [.int 0, .int 0, .int 0, .int 0, .ref q1, .int 0, .ref q2, .int 0, .int 0, .int 0, .int 0, .long 0, .int 0, .ref q3, .ref q4, .ref q5, .ref q6, .ref q7, .ref q8, .ref q9, .int 0, .null, .null, .null, .null, .null, .null, .null, .int 0, .null, .null, .null, .null, .null, .null, .null, .null, .null, .null, .int 0, .null, .null, .null, .null, .null, .int 0, .int 0, .long 0, .int 0, .null, .int 0, .null, .null, .null, .long 0, .int 0, .long 0, .long 0, .null]))) s H locs := X
  rw [← ev9] at X
  have y9 : LR S0.heap.size hcv h0 ad L v9 ad9 L9 := by rw [ev9]; exact s9
  clear i9 s9 g9 G8 I8 y8
  have kM9 := y9.1.get (i := 50) (j := 0) I9.1
  rw [I9.2.1] at kM9
  clear ev9
  refine lv_aload_n hx hb d_MenuScreensModel_init_78 rfl (lv_at hl 0 rfl) ?_
  refine lv_bipush (v := 31) hx hb d_MenuScreensModel_init_79 (by decide) ?_
  refine mv_newa C X (gt_1 123 (by decide +kernel) rfl) (ty := .int) rfl 0 rfl 31 (a0 := (31, .inl (fun _ => 0))) (fun _ => rfl) rfl (by decide) (by show 31 * 4 ≤ _; omega) (by show (((((((((0 + 1) + 1) + 1) + 1) + 1) + 1) + 1) + 1) + 1) + 1 ≤ 36; omega) (by show (((((((((0 + 4000) + 4000) + 41) + 41) + 41) + 41) + 41) + 41) + 41) + 31 ≤ 17391; omega) d_MenuScreensModel_init_81 (fun q10 H z_q10 w_q10 X => ?_)
  have n__ad_50_0__q10 : (ad 50 0) ≠ q10 := vnf kM9 z_q10
  have X : vO S0 D vcl (vup v9 q10 (.inl (dT 0, 31, .inl (fun _ => 0)))) s H locs := X
  refine mv_putF C X ((vup_n _ _ n__ad_50_0__q10).trans kM9) wM 21 hnm p_12_39_13 rfl rfl (Nat.le_of_ble_eq_true rfl) d_MenuScreensModel_init_83 (fun H locs X => ?_)
  have X : vO S0 D vcl (vup (vup v9 q10 (.inl (dT 0, 31, .inl (fun _ => 0)))) (ad 50 0) (.inr (13, [.int 0, .int 0, .int 0, .int 0, .ref q1, .int 0, .ref q2, .int 0, .int 0, .int 0, .int 0, .long 0, .int 0, .ref q3, .ref q4, .ref q5, .ref q6, .ref q7, .ref q8, .ref q9, .int 0, .ref q10, .null, .null, .null, .null, .null, .null, .int 0, .null, .null, .null, .null, .null, .null, .null, .null, .null, .null, .int 0, .null, .null, .null, .null, .null, .int 0, .int 0, .long 0, .int 0, .null, .int 0, .null, .null, .null, .long 0, .int 0, .long 0, .long 0, .null]))) s H locs := X
  obtain ⟨ad10, L10, s10, i10, g10⟩ := mIn_step (k := 21) (e := .inl (dT 0, 31, .inl (fun _ => 0))) y9 I9 z_q10 w_q10 (by show 21 < 59; decide) (fun j a b => (by decide : ∀ j, j < 21 → 20 ≤ j → mAr j = false) j b a) rfl
  have I10 : mIn dT ad10 L10 (ad 50 0) [.int 0, .int 0, .int 0, .int 0, .ref q1, .int 0, .ref q2, .int 0, .int 0, .int 0, .int 0, .long 0, .int 0, .ref q3, .ref q4, .ref q5, .ref q6, .ref q7, .ref q8, .ref q9, .int 0, .ref q10, .null, .null, .null, .null, .null, .null, .int 0, .null, .null, .null, .null, .null, .null, .null, .null, .null, .null, .int 0, .null, .null, .null, .null, .null, .int 0, .int 0, .long 0, .int 0, .null, .int 0, .null, .null, .null, .long 0, .int 0, .long 0, .long 0, .null] 22 := i10
  have G10 : ∀ i, i ≠ 50 → i ≠ 51 → L10 i = L i ∧ ad10 i = ad i := fun i a b => ⟨(g10 i a b).1.trans (G9 i a b).1, (g10 i a b).2.trans (G9 i a b).2⟩
  obtain ⟨v10, ev10⟩ : ∃ z, z = (vup (vup v9 q10 (.inl (dT 0, 31, .inl (fun _ => 0)))) (ad 50 0) (.inr (13, [.int 0, .int 0, .int 0, .int 0, .ref q1, .int 0, .ref q2, .int 0, .int 0, .int 0, .int 0, .long 0, .int 0, .ref q3, .ref q4, .ref q5, .ref q6, .ref q7, .ref q8, .ref q9, .int 0, .ref q10, .null, .null, .null, .null, .null, .null, .int 0, .null, .null, .null, .null, .null, .null, .null, .null, .null, .null, .int 0, .null, .null, .null, .null, .null, .int 0, .int 0, .long 0, .int 0, .null, .int 0, .null, .null, .null, .long 0, .int 0, .long 0, .long 0, .null]))) := ⟨_, rfl⟩
  have X : vO S0 D vcl (vup (vup v9 q10 (.inl (dT 0, 31, .inl (fun _ => 0)))) (ad 50 0) (.inr (13, [.int 0, .int 0, .int 0, .int 0, .ref q1, .int 0, .ref q2, .int 0, .int 0, .int 0, .int 0, .long 0, .int 0, .ref q3, .ref q4, .ref q5, .ref q6, .ref q7, .ref q8, .ref q9, .int 0, .ref q10, .null, .null, .null, .null, .null, .null, .int 0, .null, .null, .null, .null, .null, .null, .null, .null, .null, .null, .int 0, .null, .null, .null, .null, .null, .int 0, .int 0, .long 0, .int 0, .null, .int 0, .null, .null, .null, .long 0, .int 0, .long 0, .long 0, .null]))) s H locs := X
  rw [← ev10] at X
  have y10 : LR S0.heap.size hcv h0 ad L v10 ad10 L10 := by rw [ev10]; exact s10
  clear i10 s10 g10 G9 I9 y9
  have kM10 := y10.1.get (i := 50) (j := 0) I10.1
  rw [I10.2.1] at kM10
  clear ev10
  refine lv_aload_n hx hb d_MenuScreensModel_init_86 rfl (lv_at hl 0 rfl) ?_
  refine lv_bipush (v := 31) hx hb d_MenuScreensModel_init_87 (by decide) ?_
  refine mv_newa C X (gt_1 123 (by decide +kernel) rfl) (ty := .int) rfl 0 rfl 31 (a0 := (31, .inl (fun _ => 0))) (fun _ => rfl) rfl (by decide) (by show 31 * 4 ≤ _; omega) (by show ((((((((((0 + 1) + 1) + 1) + 1) + 1) + 1) + 1) + 1) + 1) + 1) + 1 ≤ 36; omega) (by show ((((((((((0 + 4000) + 4000) + 41) + 41) + 41) + 41) + 41) + 41) + 41) + 31) + 31 ≤ 17391; omega) d_MenuScreensModel_init_89 (fun q11 H z_q11 w_q11 X => ?_)
  have n__ad_50_0__q11 : (ad 50 0) ≠ q11 := vnf kM10 z_q11
  have X : vO S0 D vcl (vup v10 q11 (.inl (dT 0, 31, .inl (fun _ => 0)))) s H locs := X
  refine mv_putF C X ((vup_n _ _ n__ad_50_0__q11).trans kM10) wM 22 hnm p_12_42_13 rfl rfl (Nat.le_of_ble_eq_true rfl) d_MenuScreensModel_init_91 (fun H locs X => ?_)
  have X : vO S0 D vcl (vup (vup v10 q11 (.inl (dT 0, 31, .inl (fun _ => 0)))) (ad 50 0) (.inr (13, [.int 0, .int 0, .int 0, .int 0, .ref q1, .int 0, .ref q2, .int 0, .int 0, .int 0, .int 0, .long 0, .int 0, .ref q3, .ref q4, .ref q5, .ref q6, .ref q7, .ref q8, .ref q9, .int 0, .ref q10, .ref q11, .null, .null, .null, .null, .null, .int 0, .null, .null, .null, .null, .null, .null, .null, .null, .null, .null, .int 0, .null, .null, .null, .null, .null, .int 0, .int 0, .long 0, .int 0, .null, .int 0, .null, .null, .null, .long 0, .int 0, .long 0, .long 0, .null]))) s H locs := X
  obtain ⟨ad11, L11, s11, i11, g11⟩ := mIn_step (k := 22) (e := .inl (dT 0, 31, .inl (fun _ => 0))) y10 I10 z_q11 w_q11 (by show 22 < 59; decide) (fun j a b => (by decide : ∀ j, j < 22 → 22 ≤ j → mAr j = false) j b a) rfl
  have I11 : mIn dT ad11 L11 (ad 50 0) [.int 0, .int 0, .int 0, .int 0, .ref q1, .int 0, .ref q2, .int 0, .int 0, .int 0, .int 0, .long 0, .int 0, .ref q3, .ref q4, .ref q5, .ref q6, .ref q7, .ref q8, .ref q9, .int 0, .ref q10, .ref q11, .null, .null, .null, .null, .null, .int 0, .null, .null, .null, .null, .null, .null, .null, .null, .null, .null, .int 0, .null, .null, .null, .null, .null, .int 0, .int 0, .long 0, .int 0, .null, .int 0, .null, .null, .null, .long 0, .int 0, .long 0, .long 0, .null] 23 := i11
  have G11 : ∀ i, i ≠ 50 → i ≠ 51 → L11 i = L i ∧ ad11 i = ad i := fun i a b => ⟨(g11 i a b).1.trans (G10 i a b).1, (g11 i a b).2.trans (G10 i a b).2⟩
  obtain ⟨v11, ev11⟩ : ∃ z, z = (vup (vup v10 q11 (.inl (dT 0, 31, .inl (fun _ => 0)))) (ad 50 0) (.inr (13, [.int 0, .int 0, .int 0, .int 0, .ref q1, .int 0, .ref q2, .int 0, .int 0, .int 0, .int 0, .long 0, .int 0, .ref q3, .ref q4, .ref q5, .ref q6, .ref q7, .ref q8, .ref q9, .int 0, .ref q10, .ref q11, .null, .null, .null, .null, .null, .int 0, .null, .null, .null, .null, .null, .null, .null, .null, .null, .null, .int 0, .null, .null, .null, .null, .null, .int 0, .int 0, .long 0, .int 0, .null, .int 0, .null, .null, .null, .long 0, .int 0, .long 0, .long 0, .null]))) := ⟨_, rfl⟩
  have X : vO S0 D vcl (vup (vup v10 q11 (.inl (dT 0, 31, .inl (fun _ => 0)))) (ad 50 0) (.inr (13, [.int 0, .int 0, .int 0, .int 0, .ref q1, .int 0, .ref q2, .int 0, .int 0, .int 0, .int 0, .long 0, .int 0, .ref q3, .ref q4, .ref q5, .ref q6, .ref q7, .ref q8, .ref q9, .int 0, .ref q10, .ref q11, .null, .null, .null, .null, .null, .int 0, .null, .null, .null, .null, .null, .null, .null, .null, .null, .null, .int 0, .null, .null, .null, .null, .null, .int 0, .int 0, .long 0, .int 0, .null, .int 0, .null, .null, .null, .long 0, .int 0, .long 0, .long 0, .null]))) s H locs := X
  rw [← ev11] at X
  have y11 : LR S0.heap.size hcv h0 ad L v11 ad11 L11 := by rw [ev11]; exact s11
  clear i11 s11 g11 G10 I10 y10
  have kM11 := y11.1.get (i := 50) (j := 0) I11.1
  rw [I11.2.1] at kM11
  clear ev11
  refine lv_aload_n hx hb d_MenuScreensModel_init_94 rfl (lv_at hl 0 rfl) ?_
  refine lv_bipush (v := 31) hx hb d_MenuScreensModel_init_95 (by decide) ?_
  refine mv_newa C X (gt_1 123 (by decide +kernel) rfl) (ty := .int) rfl 0 rfl 31 (a0 := (31, .inl (fun _ => 0))) (fun _ => rfl) rfl (by decide) (by show 31 * 4 ≤ _; omega) (by show (((((((((((0 + 1) + 1) + 1) + 1) + 1) + 1) + 1) + 1) + 1) + 1) + 1) + 1 ≤ 36; omega) (by show (((((((((((0 + 4000) + 4000) + 41) + 41) + 41) + 41) + 41) + 41) + 41) + 31) + 31) + 31 ≤ 17391; omega) d_MenuScreensModel_init_97 (fun q12 H z_q12 w_q12 X => ?_)
  have n__ad_50_0__q12 : (ad 50 0) ≠ q12 := vnf kM11 z_q12
  have X : vO S0 D vcl (vup v11 q12 (.inl (dT 0, 31, .inl (fun _ => 0)))) s H locs := X
  refine mv_putF C X ((vup_n _ _ n__ad_50_0__q12).trans kM11) wM 23 hnm p_12_45_13 rfl rfl (Nat.le_of_ble_eq_true rfl) d_MenuScreensModel_init_99 (fun H locs X => ?_)
  have X : vO S0 D vcl (vup (vup v11 q12 (.inl (dT 0, 31, .inl (fun _ => 0)))) (ad 50 0) (.inr (13, [.int 0, .int 0, .int 0, .int 0, .ref q1, .int 0, .ref q2, .int 0, .int 0, .int 0, .int 0, .long 0, .int 0, .ref q3, .ref q4, .ref q5, .ref q6, .ref q7, .ref q8, .ref q9, .int 0, .ref q10, .ref q11, .ref q12, .null, .null, .null, .null, .int 0, .null, .null, .null, .null, .null, .null, .null, .null, .null, .null, .int 0, .null, .null, .null, .null, .null, .int 0, .int 0, .long 0, .int 0, .null, .int 0, .null, .null, .null, .long 0, .int 0, .long 0, .long 0, .null]))) s H locs := X
  obtain ⟨ad12, L12, s12, i12, g12⟩ := mIn_step (k := 23) (e := .inl (dT 0, 31, .inl (fun _ => 0))) y11 I11 z_q12 w_q12 (by show 23 < 59; decide) (fun j a b => (by decide : ∀ j, j < 23 → 23 ≤ j → mAr j = false) j b a) rfl
  have I12 : mIn dT ad12 L12 (ad 50 0) [.int 0, .int 0, .int 0, .int 0, .ref q1, .int 0, .ref q2, .int 0, .int 0, .int 0, .int 0, .long 0, .int 0, .ref q3, .ref q4, .ref q5, .ref q6, .ref q7, .ref q8, .ref q9, .int 0, .ref q10, .ref q11, .ref q12, .null, .null, .null, .null, .int 0, .null, .null, .null, .null, .null, .null, .null, .null, .null, .null, .int 0, .null, .null, .null, .null, .null, .int 0, .int 0, .long 0, .int 0, .null, .int 0, .null, .null, .null, .long 0, .int 0, .long 0, .long 0, .null] 24 := i12
  have G12 : ∀ i, i ≠ 50 → i ≠ 51 → L12 i = L i ∧ ad12 i = ad i := fun i a b => ⟨(g12 i a b).1.trans (G11 i a b).1, (g12 i a b).2.trans (G11 i a b).2⟩
  obtain ⟨v12, ev12⟩ : ∃ z, z = (vup (vup v11 q12 (.inl (dT 0, 31, .inl (fun _ => 0)))) (ad 50 0) (.inr (13, [.int 0, .int 0, .int 0, .int 0, .ref q1, .int 0, .ref q2, .int 0, .int 0, .int 0, .int 0, .long 0, .int 0, .ref q3, .ref q4, .ref q5, .ref q6, .ref q7, .ref q8, .ref q9, .int 0, .ref q10, .ref q11, .ref q12, .null, .null, .null, .null, .int 0, .null, .null, .null, .null, .null, .null, .null, .null, .null, .null, .int 0, .null, .null, .null, .null, .null, .int 0, .int 0, .long 0, .int 0, .null, .int 0, .null, .null, .null, .long 0, .int 0, .long 0, .long 0, .null]))) := ⟨_, rfl⟩
  have X : vO S0 D vcl (vup (vup v11 q12 (.inl (dT 0, 31, .inl (fun _ => 0)))) (ad 50 0) (.inr (13, [.int 0, .int 0, .int 0, .int 0, .ref q1, .int 0, .ref q2, .int 0, .int 0, .int 0, .int 0, .long 0, .int 0, .ref q3, .ref q4, .ref q5, .ref q6, .ref q7, .ref q8, .ref q9, .int 0, .ref q10, .ref q11, .ref q12, .null, .null, .null, .null, .int 0, .null, .null, .null, .null, .null, .null, .null, .null, .null, .null, .int 0, .null, .null, .null, .null, .null, .int 0, .int 0, .long 0, .int 0, .null, .int 0, .null, .null, .null, .long 0, .int 0, .long 0, .long 0, .null]))) s H locs := X
  rw [← ev12] at X
  have y12 : LR S0.heap.size hcv h0 ad L v12 ad12 L12 := by rw [ev12]; exact s12
  clear i12 s12 g12 G11 I11 y11
  have kM12 := y12.1.get (i := 50) (j := 0) I12.1
  rw [I12.2.1] at kM12
  clear ev12
  refine lv_aload_n hx hb d_MenuScreensModel_init_102 rfl (lv_at hl 0 rfl) ?_
  refine lv_bipush (v := 31) hx hb d_MenuScreensModel_init_103 (by decide) ?_
  refine mv_newa C X (gt_1 183 (by decide +kernel) rfl) (ty := .long) rfl 1 rfl 31 (a0 := (31, .inr (.inl (fun _ => 0)))) (fun _ => rfl) rfl (by decide) (by show 31 * 8 ≤ _; omega) (by show ((((((((((((0 + 1) + 1) + 1) + 1) + 1) + 1) + 1) + 1) + 1) + 1) + 1) + 1) + 1 ≤ 36; omega) (by show ((((((((((((0 + 4000) + 4000) + 41) + 41) + 41) + 41) + 41) + 41) + 41) + 31) + 31) + 31) + 31 ≤ 17391; omega) d_MenuScreensModel_init_105 (fun q13 H z_q13 w_q13 X => ?_)
  have n__ad_50_0__q13 : (ad 50 0) ≠ q13 := vnf kM12 z_q13
  have X : vO S0 D vcl (vup v12 q13 (.inl (dT 1, 31, .inr (.inl (fun _ => 0))))) s H locs := X
  refine mv_putF C X ((vup_n _ _ n__ad_50_0__q13).trans kM12) wM 24 hnm p_12_48_13 rfl rfl (Nat.le_of_ble_eq_true rfl) d_MenuScreensModel_init_107 (fun H locs X => ?_)
  have X : vO S0 D vcl (vup (vup v12 q13 (.inl (dT 1, 31, .inr (.inl (fun _ => 0))))) (ad 50 0) (.inr (13, [.int 0, .int 0, .int 0, .int 0, .ref q1, .int 0, .ref q2, .int 0, .int 0, .int 0, .int 0, .long 0, .int 0, .ref q3, .ref q4, .ref q5, .ref q6, .ref q7, .ref q8, .ref q9, .int 0, .ref q10, .ref q11, .ref q12, .ref q13, .null, .null, .null, .int 0, .null, .null, .null, .null, .null, .null, .null, .null, .null, .null, .int 0, .null, .null, .null, .null, .null, .int 0, .int 0, .long 0, .int 0, .null, .int 0, .null, .null, .null, .long 0, .int 0, .long 0, .long 0, .null]))) s H locs := X
  obtain ⟨ad13, L13, s13, i13, g13⟩ := mIn_step (k := 24) (e := .inl (dT 1, 31, .inr (.inl (fun _ => 0)))) y12 I12 z_q13 w_q13 (by show 24 < 59; decide) (fun j a b => (by decide : ∀ j, j < 24 → 24 ≤ j → mAr j = false) j b a) rfl
  have I13 : mIn dT ad13 L13 (ad 50 0) [.int 0, .int 0, .int 0, .int 0, .ref q1, .int 0, .ref q2, .int 0, .int 0, .int 0, .int 0, .long 0, .int 0, .ref q3, .ref q4, .ref q5, .ref q6, .ref q7, .ref q8, .ref q9, .int 0, .ref q10, .ref q11, .ref q12, .ref q13, .null, .null, .null, .int 0, .null, .null, .null, .null, .null, .null, .null, .null, .null, .null, .int 0, .null, .null, .null, .null, .null, .int 0, .int 0, .long 0, .int 0, .null, .int 0, .null, .null, .null, .long 0, .int 0, .long 0, .long 0, .null] 25 := i13
  have G13 : ∀ i, i ≠ 50 → i ≠ 51 → L13 i = L i ∧ ad13 i = ad i := fun i a b => ⟨(g13 i a b).1.trans (G12 i a b).1, (g13 i a b).2.trans (G12 i a b).2⟩
  obtain ⟨v13, ev13⟩ : ∃ z, z = (vup (vup v12 q13 (.inl (dT 1, 31, .inr (.inl (fun _ => 0))))) (ad 50 0) (.inr (13, [.int 0, .int 0, .int 0, .int 0, .ref q1, .int 0, .ref q2, .int 0, .int 0, .int 0, .int 0, .long 0, .int 0, .ref q3, .ref q4, .ref q5, .ref q6, .ref q7, .ref q8, .ref q9, .int 0, .ref q10, .ref q11, .ref q12, .ref q13, .null, .null, .null, .int 0, .null, .null, .null, .null, .null, .null, .null, .null, .null, .null, .int 0, .null, .null, .null, .null, .null, .int 0, .int 0, .long 0, .int 0, .null, .int 0, .null, .null, .null, .long 0, .int 0, .long 0, .long 0, .null]))) := ⟨_, rfl⟩
  have X : vO S0 D vcl (vup (vup v12 q13 (.inl (dT 1, 31, .inr (.inl (fun _ => 0))))) (ad 50 0) (.inr (13, [.int 0, .int 0, .int 0, .int 0, .ref q1, .int 0, .ref q2, .int 0, .int 0, .int 0, .int 0, .long 0, .int 0, .ref q3, .ref q4, .ref q5, .ref q6, .ref q7, .ref q8, .ref q9, .int 0, .ref q10, .ref q11, .ref q12, .ref q13, .null, .null, .null, .int 0, .null, .null, .null, .null, .null, .null, .null, .null, .null, .null, .int 0, .null, .null, .null, .null, .null, .int 0, .int 0, .long 0, .int 0, .null, .int 0, .null, .null, .null, .long 0, .int 0, .long 0, .long 0, .null]))) s H locs := X
  rw [← ev13] at X
  have y13 : LR S0.heap.size hcv h0 ad L v13 ad13 L13 := by rw [ev13]; exact s13
  clear i13 s13 g13 G12 I12 y12
  have kM13 := y13.1.get (i := 50) (j := 0) I13.1
  rw [I13.2.1] at kM13
  clear ev13
  refine lv_aload_n hx hb d_MenuScreensModel_init_110 rfl (lv_at hl 0 rfl) ?_
  refine lv_bipush (v := 31) hx hb d_MenuScreensModel_init_111 (by decide) ?_
  refine mv_newa C X (gt_5 207 (by decide +kernel) rfl) (ty := .boolean) rfl 3 rfl 31 (a0 := (31, .inl (fun _ => 0))) (fun _ => rfl) rfl (by decide) (by show 31 * 1 ≤ _; omega) (by show (((((((((((((0 + 1) + 1) + 1) + 1) + 1) + 1) + 1) + 1) + 1) + 1) + 1) + 1) + 1) + 1 ≤ 36; omega) (by show (((((((((((((0 + 4000) + 4000) + 41) + 41) + 41) + 41) + 41) + 41) + 41) + 31) + 31) + 31) + 31) + 31 ≤ 17391; omega) d_MenuScreensModel_init_113 (fun q14 H z_q14 w_q14 X => ?_)
  have n__ad_50_0__q14 : (ad 50 0) ≠ q14 := vnf kM13 z_q14
  have X : vO S0 D vcl (vup v13 q14 (.inl (dT 3, 31, .inl (fun _ => 0)))) s H locs := X
  refine mv_putF C X ((vup_n _ _ n__ad_50_0__q14).trans kM13) wM 25 hnm p_12_51_13 rfl rfl (Nat.le_of_ble_eq_true rfl) d_MenuScreensModel_init_115 (fun H locs X => ?_)
  have X : vO S0 D vcl (vup (vup v13 q14 (.inl (dT 3, 31, .inl (fun _ => 0)))) (ad 50 0) (.inr (13, [.int 0, .int 0, .int 0, .int 0, .ref q1, .int 0, .ref q2, .int 0, .int 0, .int 0, .int 0, .long 0, .int 0, .ref q3, .ref q4, .ref q5, .ref q6, .ref q7, .ref q8, .ref q9, .int 0, .ref q10, .ref q11, .ref q12, .ref q13, .ref q14, .null, .null, .int 0, .null, .null, .null, .null, .null, .null, .null, .null, .null, .null, .int 0, .null, .null, .null, .null, .null, .int 0, .int 0, .long 0, .int 0, .null, .int 0, .null, .null, .null, .long 0, .int 0, .long 0, .long 0, .null]))) s H locs := X
  obtain ⟨ad14, L14, s14, i14, g14⟩ := mIn_step (k := 25) (e := .inl (dT 3, 31, .inl (fun _ => 0))) y13 I13 z_q14 w_q14 (by show 25 < 59; decide) (fun j a b => (by decide : ∀ j, j < 25 → 25 ≤ j → mAr j = false) j b a) rfl
  have I14 : mIn dT ad14 L14 (ad 50 0) [.int 0, .int 0, .int 0, .int 0, .ref q1, .int 0, .ref q2, .int 0, .int 0, .int 0, .int 0, .long 0, .int 0, .ref q3, .ref q4, .ref q5, .ref q6, .ref q7, .ref q8, .ref q9, .int 0, .ref q10, .ref q11, .ref q12, .ref q13, .ref q14, .null, .null, .int 0, .null, .null, .null, .null, .null, .null, .null, .null, .null, .null, .int 0, .null, .null, .null, .null, .null, .int 0, .int 0, .long 0, .int 0, .null, .int 0, .null, .null, .null, .long 0, .int 0, .long 0, .long 0, .null] 26 := i14
  have G14 : ∀ i, i ≠ 50 → i ≠ 51 → L14 i = L i ∧ ad14 i = ad i := fun i a b => ⟨(g14 i a b).1.trans (G13 i a b).1, (g14 i a b).2.trans (G13 i a b).2⟩
  obtain ⟨v14, ev14⟩ : ∃ z, z = (vup (vup v13 q14 (.inl (dT 3, 31, .inl (fun _ => 0)))) (ad 50 0) (.inr (13, [.int 0, .int 0, .int 0, .int 0, .ref q1, .int 0, .ref q2, .int 0, .int 0, .int 0, .int 0, .long 0, .int 0, .ref q3, .ref q4, .ref q5, .ref q6, .ref q7, .ref q8, .ref q9, .int 0, .ref q10, .ref q11, .ref q12, .ref q13, .ref q14, .null, .null, .int 0, .null, .null, .null, .null, .null, .null, .null, .null, .null, .null, .int 0, .null, .null, .null, .null, .null, .int 0, .int 0, .long 0, .int 0, .null, .int 0, .null, .null, .null, .long 0, .int 0, .long 0, .long 0, .null]))) := ⟨_, rfl⟩
  have X : vO S0 D vcl (vup (vup v13 q14 (.inl (dT 3, 31, .inl (fun _ => 0)))) (ad 50 0) (.inr (13, [.int 0, .int 0, .int 0, .int 0, .ref q1, .int 0, .ref q2, .int 0, .int 0, .int 0, .int 0, .long 0, .int 0, .ref q3, .ref q4, .ref q5, .ref q6, .ref q7, .ref q8, .ref q9, .int 0, .ref q10, .ref q11, .ref q12, .ref q13, .ref q14, .null, .null, .int 0, .null, .null, .null, .null, .null, .null, .null, .null, .null, .null, .int 0, .null, .null, .null, .null, .null, .int 0, .int 0, .long 0, .int 0, .null, .int 0, .null, .null, .null, .long 0, .int 0, .long 0, .long 0, .null]))) s H locs := X
  rw [← ev14] at X
  have y14 : LR S0.heap.size hcv h0 ad L v14 ad14 L14 := by rw [ev14]; exact s14
  clear i14 s14 g14 G13 I13 y13
  have kM14 := y14.1.get (i := 50) (j := 0) I14.1
  rw [I14.2.1] at kM14
  clear ev14
  refine lv_aload_n hx hb d_MenuScreensModel_init_118 rfl (lv_at hl 0 rfl) ?_
  refine lv_sipush (v := 310) hx hb d_MenuScreensModel_init_119 (by decide) ?_
  refine mv_newa C X (gt_1 123 (by decide +kernel) rfl) (ty := .int) rfl 0 rfl 310 (a0 := (310, .inl (fun _ => 0))) (fun _ => rfl) rfl (by decide) (by show 310 * 4 ≤ _; omega) (by show ((((((((((((((0 + 1) + 1) + 1) + 1) + 1) + 1) + 1) + 1) + 1) + 1) + 1) + 1) + 1) + 1) + 1 ≤ 36; omega) (by show ((((((((((((((0 + 4000) + 4000) + 41) + 41) + 41) + 41) + 41) + 41) + 41) + 31) + 31) + 31) + 31) + 31) + 310 ≤ 17391; omega) d_MenuScreensModel_init_122 (fun q15 H z_q15 w_q15 X => ?_)
  have n__ad_50_0__q15 : (ad 50 0) ≠ q15 := vnf kM14 z_q15
  have X : vO S0 D vcl (vup v14 q15 (.inl (dT 0, 310, .inl (fun _ => 0)))) s H locs := X
  refine mv_putF C X ((vup_n _ _ n__ad_50_0__q15).trans kM14) wM 26 hnm p_12_54_13 rfl rfl (Nat.le_of_ble_eq_true rfl) d_MenuScreensModel_init_124 (fun H locs X => ?_)
  have X : vO S0 D vcl (vup (vup v14 q15 (.inl (dT 0, 310, .inl (fun _ => 0)))) (ad 50 0) (.inr (13, [.int 0, .int 0, .int 0, .int 0, .ref q1, .int 0, .ref q2, .int 0, .int 0, .int 0, .int 0, .long 0, .int 0, .ref q3, .ref q4, .ref q5, .ref q6, .ref q7, .ref q8, .ref q9, .int 0, .ref q10, .ref q11, .ref q12, .ref q13, .ref q14, .ref q15, .null, .int 0, .null, .null, .null, .null, .null, .null, .null, .null, .null, .null, .int 0, .null, .null, .null, .null, .null, .int 0, .int 0, .long 0, .int 0, .null, .int 0, .null, .null, .null, .long 0, .int 0, .long 0, .long 0, .null]))) s H locs := X
  obtain ⟨ad15, L15, s15, i15, g15⟩ := mIn_step (k := 26) (e := .inl (dT 0, 310, .inl (fun _ => 0))) y14 I14 z_q15 w_q15 (by show 26 < 59; decide) (fun j a b => (by decide : ∀ j, j < 26 → 26 ≤ j → mAr j = false) j b a) rfl
  have I15 : mIn dT ad15 L15 (ad 50 0) [.int 0, .int 0, .int 0, .int 0, .ref q1, .int 0, .ref q2, .int 0, .int 0, .int 0, .int 0, .long 0, .int 0, .ref q3, .ref q4, .ref q5, .ref q6, .ref q7, .ref q8, .ref q9, .int 0, .ref q10, .ref q11, .ref q12, .ref q13, .ref q14, .ref q15, .null, .int 0, .null, .null, .null, .null, .null, .null, .null, .null, .null, .null, .int 0, .null, .null, .null, .null, .null, .int 0, .int 0, .long 0, .int 0, .null, .int 0, .null, .null, .null, .long 0, .int 0, .long 0, .long 0, .null] 27 := i15
  have G15 : ∀ i, i ≠ 50 → i ≠ 51 → L15 i = L i ∧ ad15 i = ad i := fun i a b => ⟨(g15 i a b).1.trans (G14 i a b).1, (g15 i a b).2.trans (G14 i a b).2⟩
  obtain ⟨v15, ev15⟩ : ∃ z, z = (vup (vup v14 q15 (.inl (dT 0, 310, .inl (fun _ => 0)))) (ad 50 0) (.inr (13, [.int 0, .int 0, .int 0, .int 0, .ref q1, .int 0, .ref q2, .int 0, .int 0, .int 0, .int 0, .long 0, .int 0, .ref q3, .ref q4, .ref q5, .ref q6, .ref q7, .ref q8, .ref q9, .int 0, .ref q10, .ref q11, .ref q12, .ref q13, .ref q14, .ref q15, .null, .int 0, .null, .null, .null, .null, .null, .null, .null, .null, .null, .null, .int 0, .null, .null, .null, .null, .null, .int 0, .int 0, .long 0, .int 0, .null, .int 0, .null, .null, .null, .long 0, .int 0, .long 0, .long 0, .null]))) := ⟨_, rfl⟩
  have X : vO S0 D vcl (vup (vup v14 q15 (.inl (dT 0, 310, .inl (fun _ => 0)))) (ad 50 0) (.inr (13, [.int 0, .int 0, .int 0, .int 0, .ref q1, .int 0, .ref q2, .int 0, .int 0, .int 0, .int 0, .long 0, .int 0, .ref q3, .ref q4, .ref q5, .ref q6, .ref q7, .ref q8, .ref q9, .int 0, .ref q10, .ref q11, .ref q12, .ref q13, .ref q14, .ref q15, .null, .int 0, .null, .null, .null, .null, .null, .null, .null, .null, .null, .null, .int 0, .null, .null, .null, .null, .null, .int 0, .int 0, .long 0, .int 0, .null, .int 0, .null, .null, .null, .long 0, .int 0, .long 0, .long 0, .null]))) s H locs := X
  rw [← ev15] at X
  have y15 : LR S0.heap.size hcv h0 ad L v15 ad15 L15 := by rw [ev15]; exact s15
  clear i15 s15 g15 G14 I14 y14
  have kM15 := y15.1.get (i := 50) (j := 0) I15.1
  rw [I15.2.1] at kM15
  clear ev15
  refine lv_aload_n hx hb d_MenuScreensModel_init_127 rfl (lv_at hl 0 rfl) ?_
  refine lv_sipush (v := 310) hx hb d_MenuScreensModel_init_128 (by decide) ?_
  refine mv_newa C X (gt_1 123 (by decide +kernel) rfl) (ty := .int) rfl 0 rfl 310 (a0 := (310, .inl (fun _ => 0))) (fun _ => rfl) rfl (by decide) (by show 310 * 4 ≤ _; omega) (by show (((((((((((((((0 + 1) + 1) + 1) + 1) + 1) + 1) + 1) + 1) + 1) + 1) + 1) + 1) + 1) + 1) + 1) + 1 ≤ 36; omega) (by show (((((((((((((((0 + 4000) + 4000) + 41) + 41) + 41) + 41) + 41) + 41) + 41) + 31) + 31) + 31) + 31) + 31) + 310) + 310 ≤ 17391; omega) d_MenuScreensModel_init_131 (fun q16 H z_q16 w_q16 X => ?_)
  have n__ad_50_0__q16 : (ad 50 0) ≠ q16 := vnf kM15 z_q16
  have X : vO S0 D vcl (vup v15 q16 (.inl (dT 0, 310, .inl (fun _ => 0)))) s H locs := X
  refine mv_putF C X ((vup_n _ _ n__ad_50_0__q16).trans kM15) wM 27 hnm p_12_57_13 rfl rfl (Nat.le_of_ble_eq_true rfl) d_MenuScreensModel_init_133 (fun H locs X => ?_)
  have X : vO S0 D vcl (vup (vup v15 q16 (.inl (dT 0, 310, .inl (fun _ => 0)))) (ad 50 0) (.inr (13, [.int 0, .int 0, .int 0, .int 0, .ref q1, .int 0, .ref q2, .int 0, .int 0, .int 0, .int 0, .long 0, .int 0, .ref q3, .ref q4, .ref q5, .ref q6, .ref q7, .ref q8, .ref q9, .int 0, .ref q10, .ref q11, .ref q12, .ref q13, .ref q14, .ref q15, .ref q16, .int 0, .null, .null, .null, .null, .null, .null, .null, .null, .null, .null, .int 0, .null, .null, .null, .null, .null, .int 0, .int 0, .long 0, .int 0, .null, .int 0, .null, .null, .null, .long 0, .int 0, .long 0, .long 0, .null]))) s H locs := X
  obtain ⟨ad16, L16, s16, i16, g16⟩ := mIn_step (k := 27) (e := .inl (dT 0, 310, .inl (fun _ => 0))) y15 I15 z_q16 w_q16 (by show 27 < 59; decide) (fun j a b => (by decide : ∀ j, j < 27 → 27 ≤ j → mAr j = false) j b a) rfl
  have I16 : mIn dT ad16 L16 (ad 50 0) [.int 0, .int 0, .int 0, .int 0, .ref q1, .int 0, .ref q2, .int 0, .int 0, .int 0, .int 0, .long 0, .int 0, .ref q3, .ref q4, .ref q5, .ref q6, .ref q7, .ref q8, .ref q9, .int 0, .ref q10, .ref q11, .ref q12, .ref q13, .ref q14, .ref q15, .ref q16, .int 0, .null, .null, .null, .null, .null, .null, .null, .null, .null, .null, .int 0, .null, .null, .null, .null, .null, .int 0, .int 0, .long 0, .int 0, .null, .int 0, .null, .null, .null, .long 0, .int 0, .long 0, .long 0, .null] 28 := i16
  have G16 : ∀ i, i ≠ 50 → i ≠ 51 → L16 i = L i ∧ ad16 i = ad i := fun i a b => ⟨(g16 i a b).1.trans (G15 i a b).1, (g16 i a b).2.trans (G15 i a b).2⟩
  obtain ⟨v16, ev16⟩ : ∃ z, z = (vup (vup v15 q16 (.inl (dT 0, 310, .inl (fun _ => 0)))) (ad 50 0) (.inr (13, [.int 0, .int 0, .int 0, .int 0, .ref q1, .int 0, .ref q2, .int 0, .int 0, .int 0, .int 0, .long 0, .int 0, .ref q3, .ref q4, .ref q5, .ref q6, .ref q7, .ref q8, .ref q9, .int 0, .ref q10, .ref q11, .ref q12, .ref q13, .ref q14, .ref q15, .ref q16, .int 0, .null, .null, .null, .null, .null, .null, .null, .null, .null, .null, .int 0, .null, .null, .null, .null, .null, .int 0, .int 0, .long 0, .int 0, .null, .int 0, .null, .null, .null, .long 0, .int 0, .long 0, .long 0, .null]))) := ⟨_, rfl⟩
  have X : vO S0 D vcl (vup (vup v15 q16 (.inl (dT 0, 310, .inl (fun _ => 0)))) (ad 50 0) (.inr (13, [.int 0, .int 0, .int 0, .int 0, .ref q1, .int 0, .ref q2, .int 0, .int 0, .int 0, .int 0, .long 0, .int 0, .ref q3, .ref q4, .ref q5, .ref q6, .ref q7, .ref q8, .ref q9, .int 0, .ref q10, .ref q11, .ref q12, .ref q13, .ref q14, .ref q15, .ref q16, .int 0, .null, .null, .null, .null, .null, .null, .null, .null, .null, .null, .int 0, .null, .null, .null, .null, .null, .int 0, .int 0, .long 0, .int 0, .null, .int 0, .null, .null, .null, .long 0, .int 0, .long 0, .long 0, .null]))) s H locs := X
  rw [← ev16] at X
  have y16 : LR S0.heap.size hcv h0 ad L v16 ad16 L16 := by rw [ev16]; exact s16
  clear i16 s16 g16 G15 I15 y15
  have kM16 := y16.1.get (i := 50) (j := 0) I16.1
  rw [I16.2.1] at kM16
  clear ev16
  refine lv_aload_n hx hb d_MenuScreensModel_init_136 rfl (lv_at hl 0 rfl) ?_
  refine lv_sipush (v := 512) hx hb d_MenuScreensModel_init_137 (by decide) ?_
  refine mv_newa C X (gt_1 123 (by decide +kernel) rfl) (ty := .int) rfl 0 rfl 512 (a0 := (512, .inl (fun _ => 0))) (fun _ => rfl) rfl (by decide) (by show 512 * 4 ≤ _; omega) (by show ((((((((((((((((0 + 1) + 1) + 1) + 1) + 1) + 1) + 1) + 1) + 1) + 1) + 1) + 1) + 1) + 1) + 1) + 1) + 1 ≤ 36; omega) (by show ((((((((((((((((0 + 4000) + 4000) + 41) + 41) + 41) + 41) + 41) + 41) + 41) + 31) + 31) + 31) + 31) + 31) + 310) + 310) + 512 ≤ 17391; omega) d_MenuScreensModel_init_140 (fun q17 H z_q17 w_q17 X => ?_)
  have n__ad_50_0__q17 : (ad 50 0) ≠ q17 := vnf kM16 z_q17
  have X : vO S0 D vcl (vup v16 q17 (.inl (dT 0, 512, .inl (fun _ => 0)))) s H locs := X
  refine mv_putF C X ((vup_n _ _ n__ad_50_0__q17).trans kM16) wM 29 hnm p_12_60_13 rfl rfl (Nat.le_of_ble_eq_true rfl) d_MenuScreensModel_init_142 (fun H locs X => ?_)
  have X : vO S0 D vcl (vup (vup v16 q17 (.inl (dT 0, 512, .inl (fun _ => 0)))) (ad 50 0) (.inr (13, [.int 0, .int 0, .int 0, .int 0, .ref q1, .int 0, .ref q2, .int 0, .int 0, .int 0, .int 0, .long 0, .int 0, .ref q3, .ref q4, .ref q5, .ref q6, .ref q7, .ref q8, .ref q9, .int 0, .ref q10, .ref q11, .ref q12, .ref q13, .ref q14, .ref q15, .ref q16, .int 0, .ref q17, .null, .null, .null, .null, .null, .null, .null, .null, .null, .int 0, .null, .null, .null, .null, .null, .int 0, .int 0, .long 0, .int 0, .null, .int 0, .null, .null, .null, .long 0, .int 0, .long 0, .long 0, .null]))) s H locs := X
  obtain ⟨ad17, L17, s17, i17, g17⟩ := mIn_step (k := 29) (e := .inl (dT 0, 512, .inl (fun _ => 0))) y16 I16 z_q17 w_q17 (by show 29 < 59; decide) (fun j a b => (by decide : ∀ j, j < 29 → 28 ≤ j → mAr j = false) j b a) rfl
  have I17 : mIn dT ad17 L17 (ad 50 0) [.int 0, .int 0, .int 0, .int 0, .ref q1, .int 0, .ref q2, .int 0, .int 0, .int 0, .int 0, .long 0, .int 0, .ref q3, .ref q4, .ref q5, .ref q6, .ref q7, .ref q8, .ref q9, .int 0, .ref q10, .ref q11, .ref q12, .ref q13, .ref q14, .ref q15, .ref q16, .int 0, .ref q17, .null, .null, .null, .null, .null, .null, .null, .null, .null, .int 0, .null, .null, .null, .null, .null, .int 0, .int 0, .long 0, .int 0, .null, .int 0, .null, .null, .null, .long 0, .int 0, .long 0, .long 0, .null] 30 := i17
  have G17 : ∀ i, i ≠ 50 → i ≠ 51 → L17 i = L i ∧ ad17 i = ad i := fun i a b => ⟨(g17 i a b).1.trans (G16 i a b).1, (g17 i a b).2.trans (G16 i a b).2⟩
  obtain ⟨v17, ev17⟩ : ∃ z, z = (vup (vup v16 q17 (.inl (dT 0, 512, .inl (fun _ => 0)))) (ad 50 0) (.inr (13, [.int 0, .int 0, .int 0, .int 0, .ref q1, .int 0, .ref q2, .int 0, .int 0, .int 0, .int 0, .long 0, .int 0, .ref q3, .ref q4, .ref q5, .ref q6, .ref q7, .ref q8, .ref q9, .int 0, .ref q10, .ref q11, .ref q12, .ref q13, .ref q14, .ref q15, .ref q16, .int 0, .ref q17, .null, .null, .null, .null, .null, .null, .null, .null, .null, .int 0, .null, .null, .null, .null, .null, .int 0, .int 0, .long 0, .int 0, .null, .int 0, .null, .null, .null, .long 0, .int 0, .long 0, .long 0, .null]))) := ⟨_, rfl⟩
  have X : vO S0 D vcl (vup (vup v16 q17 (.inl (dT 0, 512, .inl (fun _ => 0)))) (ad 50 0) (.inr (13, [.int 0, .int 0, .int 0, .int 0, .ref q1, .int 0, .ref q2, .int 0, .int 0, .int 0, .int 0, .long 0, .int 0, .ref q3, .ref q4, .ref q5, .ref q6, .ref q7, .ref q8, .ref q9, .int 0, .ref q10, .ref q11, .ref q12, .ref q13, .ref q14, .ref q15, .ref q16, .int 0, .ref q17, .null, .null, .null, .null, .null, .null, .null, .null, .null, .int 0, .null, .null, .null, .null, .null, .int 0, .int 0, .long 0, .int 0, .null, .int 0, .null, .null, .null, .long 0, .int 0, .long 0, .long 0, .null]))) s H locs := X
  rw [← ev17] at X
  have y17 : LR S0.heap.size hcv h0 ad L v17 ad17 L17 := by rw [ev17]; exact s17
  clear i17 s17 g17 G16 I16 y16
  have kM17 := y17.1.get (i := 50) (j := 0) I17.1
  rw [I17.2.1] at kM17
  clear ev17
  refine lv_aload_n hx hb d_MenuScreensModel_init_145 rfl (lv_at hl 0 rfl) ?_
  refine lv_sipush (v := 512) hx hb d_MenuScreensModel_init_146 (by decide) ?_
  refine mv_newa C X (gt_1 123 (by decide +kernel) rfl) (ty := .int) rfl 0 rfl 512 (a0 := (512, .inl (fun _ => 0))) (fun _ => rfl) rfl (by decide) (by show 512 * 4 ≤ _; omega) (by show (((((((((((((((((0 + 1) + 1) + 1) + 1) + 1) + 1) + 1) + 1) + 1) + 1) + 1) + 1) + 1) + 1) + 1) + 1) + 1) + 1 ≤ 36; omega) (by show (((((((((((((((((0 + 4000) + 4000) + 41) + 41) + 41) + 41) + 41) + 41) + 41) + 31) + 31) + 31) + 31) + 31) + 310) + 310) + 512) + 512 ≤ 17391; omega) d_MenuScreensModel_init_149 (fun q18 H z_q18 w_q18 X => ?_)
  have n__ad_50_0__q18 : (ad 50 0) ≠ q18 := vnf kM17 z_q18
  have X : vO S0 D vcl (vup v17 q18 (.inl (dT 0, 512, .inl (fun _ => 0)))) s H locs := X
  refine mv_putF C X ((vup_n _ _ n__ad_50_0__q18).trans kM17) wM 30 hnm p_12_63_13 rfl rfl (Nat.le_of_ble_eq_true rfl) d_MenuScreensModel_init_151 (fun H locs X => ?_)
  have X : vO S0 D vcl (vup (vup v17 q18 (.inl (dT 0, 512, .inl (fun _ => 0)))) (ad 50 0) (.inr (13, [.int 0, .int 0, .int 0, .int 0, .ref q1, .int 0, .ref q2, .int 0, .int 0, .int 0, .int 0, .long 0, .int 0, .ref q3, .ref q4, .ref q5, .ref q6, .ref q7, .ref q8, .ref q9, .int 0, .ref q10, .ref q11, .ref q12, .ref q13, .ref q14, .ref q15, .ref q16, .int 0, .ref q17, .ref q18, .null, .null, .null, .null, .null, .null, .null, .null, .int 0, .null, .null, .null, .null, .null, .int 0, .int 0, .long 0, .int 0, .null, .int 0, .null, .null, .null, .long 0, .int 0, .long 0, .long 0, .null]))) s H locs := X
  obtain ⟨ad18, L18, s18, i18, g18⟩ := mIn_step (k := 30) (e := .inl (dT 0, 512, .inl (fun _ => 0))) y17 I17 z_q18 w_q18 (by show 30 < 59; decide) (fun j a b => (by decide : ∀ j, j < 30 → 30 ≤ j → mAr j = false) j b a) rfl
  have I18 : mIn dT ad18 L18 (ad 50 0) [.int 0, .int 0, .int 0, .int 0, .ref q1, .int 0, .ref q2, .int 0, .int 0, .int 0, .int 0, .long 0, .int 0, .ref q3, .ref q4, .ref q5, .ref q6, .ref q7, .ref q8, .ref q9, .int 0, .ref q10, .ref q11, .ref q12, .ref q13, .ref q14, .ref q15, .ref q16, .int 0, .ref q17, .ref q18, .null, .null, .null, .null, .null, .null, .null, .null, .int 0, .null, .null, .null, .null, .null, .int 0, .int 0, .long 0, .int 0, .null, .int 0, .null, .null, .null, .long 0, .int 0, .long 0, .long 0, .null] 31 := i18
  have G18 : ∀ i, i ≠ 50 → i ≠ 51 → L18 i = L i ∧ ad18 i = ad i := fun i a b => ⟨(g18 i a b).1.trans (G17 i a b).1, (g18 i a b).2.trans (G17 i a b).2⟩
  obtain ⟨v18, ev18⟩ : ∃ z, z = (vup (vup v17 q18 (.inl (dT 0, 512, .inl (fun _ => 0)))) (ad 50 0) (.inr (13, [.int 0, .int 0, .int 0, .int 0, .ref q1, .int 0, .ref q2, .int 0, .int 0, .int 0, .int 0, .long 0, .int 0, .ref q3, .ref q4, .ref q5, .ref q6, .ref q7, .ref q8, .ref q9, .int 0, .ref q10, .ref q11, .ref q12, .ref q13, .ref q14, .ref q15, .ref q16, .int 0, .ref q17, .ref q18, .null, .null, .null, .null, .null, .null, .null, .null, .int 0, .null, .null, .null, .null, .null, .int 0, .int 0, .long 0, .int 0, .null, .int 0, .null, .null, .null, .long 0, .int 0, .long 0, .long 0, .null]))) := ⟨_, rfl⟩
  have X : vO S0 D vcl (vup (vup v17 q18 (.inl (dT 0, 512, .inl (fun _ => 0)))) (ad 50 0) (.inr (13, [.int 0, .int 0, .int 0, .int 0, .ref q1, .int 0, .ref q2, .int 0, .int 0, .int 0, .int 0, .long 0, .int 0, .ref q3, .ref q4, .ref q5, .ref q6, .ref q7, .ref q8, .ref q9, .int 0, .ref q10, .ref q11, .ref q12, .ref q13, .ref q14, .ref q15, .ref q16, .int 0, .ref q17, .ref q18, .null, .null, .null, .null, .null, .null, .null, .null, .int 0, .null, .null, .null, .null, .null, .int 0, .int 0, .long 0, .int 0, .null, .int 0, .null, .null, .null, .long 0, .int 0, .long 0, .long 0, .null]))) s H locs := X
  rw [← ev18] at X
  have y18 : LR S0.heap.size hcv h0 ad L v18 ad18 L18 := by rw [ev18]; exact s18
  clear i18 s18 g18 G17 I17 y17
  have kM18 := y18.1.get (i := 50) (j := 0) I18.1
  rw [I18.2.1] at kM18
  clear ev18
  refine lv_aload_n hx hb d_MenuScreensModel_init_154 rfl (lv_at hl 0 rfl) ?_
  refine lv_sipush (v := 512) hx hb d_MenuScreensModel_init_155 (by decide) ?_
  refine mv_newa C X (gt_1 123 (by decide +kernel) rfl) (ty := .int) rfl 0 rfl 512 (a0 := (512, .inl (fun _ => 0))) (fun _ => rfl) rfl (by decide) (by show 512 * 4 ≤ _; omega) (by show ((((((((((((((((((0 + 1) + 1) + 1) + 1) + 1) + 1) + 1) + 1) + 1) + 1) + 1) + 1) + 1) + 1) + 1) + 1) + 1) + 1) + 1 ≤ 36; omega) (by show ((((((((((((((((((0 + 4000) + 4000) + 41) + 41) + 41) + 41) + 41) + 41) + 41) + 31) + 31) + 31) + 31) + 31) + 310) + 310) + 512) + 512) + 512 ≤ 17391; omega) d_MenuScreensModel_init_158 (fun q19 H z_q19 w_q19 X => ?_)
  have n__ad_50_0__q19 : (ad 50 0) ≠ q19 := vnf kM18 z_q19
  have X : vO S0 D vcl (vup v18 q19 (.inl (dT 0, 512, .inl (fun _ => 0)))) s H locs := X
  refine mv_putF C X ((vup_n _ _ n__ad_50_0__q19).trans kM18) wM 31 hnm p_12_66_13 rfl rfl (Nat.le_of_ble_eq_true rfl) d_MenuScreensModel_init_160 (fun H locs X => ?_)
  have X : vO S0 D vcl (vup (vup v18 q19 (.inl (dT 0, 512, .inl (fun _ => 0)))) (ad 50 0) (.inr (13, [.int 0, .int 0, .int 0, .int 0, .ref q1, .int 0, .ref q2, .int 0, .int 0, .int 0, .int 0, .long 0, .int 0, .ref q3, .ref q4, .ref q5, .ref q6, .ref q7, .ref q8, .ref q9, .int 0, .ref q10, .ref q11, .ref q12, .ref q13, .ref q14, .ref q15, .ref q16, .int 0, .ref q17, .ref q18, .ref q19, .null, .null, .null, .null, .null, .null, .null, .int 0, .null, .null, .null, .null, .null, .int 0, .int 0, .long 0, .int 0, .null, .int 0, .null, .null, .null, .long 0, .int 0, .long 0, .long 0, .null]))) s H locs := X
  obtain ⟨ad19, L19, s19, i19, g19⟩ := mIn_step (k := 31) (e := .inl (dT 0, 512, .inl (fun _ => 0))) y18 I18 z_q19 w_q19 (by show 31 < 59; decide) (fun j a b => (by decide : ∀ j, j < 31 → 31 ≤ j → mAr j = false) j b a) rfl
  have I19 : mIn dT ad19 L19 (ad 50 0) [.int 0, .int 0, .int 0, .int 0, .ref q1, .int 0, .ref q2, .int 0, .int 0, .int 0, .int 0, .long 0, .int 0, .ref q3, .ref q4, .ref q5, .ref q6, .ref q7, .ref q8, .ref q9, .int 0, .ref q10, .ref q11, .ref q12, .ref q13, .ref q14, .ref q15, .ref q16, .int 0, .ref q17, .ref q18, .ref q19, .null, .null, .null, .null, .null, .null, .null, .int 0, .null, .null, .null, .null, .null, .int 0, .int 0, .long 0, .int 0, .null, .int 0, .null, .null, .null, .long 0, .int 0, .long 0, .long 0, .null] 32 := i19
  have G19 : ∀ i, i ≠ 50 → i ≠ 51 → L19 i = L i ∧ ad19 i = ad i := fun i a b => ⟨(g19 i a b).1.trans (G18 i a b).1, (g19 i a b).2.trans (G18 i a b).2⟩
  obtain ⟨v19, ev19⟩ : ∃ z, z = (vup (vup v18 q19 (.inl (dT 0, 512, .inl (fun _ => 0)))) (ad 50 0) (.inr (13, [.int 0, .int 0, .int 0, .int 0, .ref q1, .int 0, .ref q2, .int 0, .int 0, .int 0, .int 0, .long 0, .int 0, .ref q3, .ref q4, .ref q5, .ref q6, .ref q7, .ref q8, .ref q9, .int 0, .ref q10, .ref q11, .ref q12, .ref q13, .ref q14, .ref q15, .ref q16, .int 0, .ref q17, .ref q18, .ref q19, .null, .null, .null, .null, .null, .null, .null, .int 0, .null, .null, .null, .null, .null, .int 0, .int 0, .long 0, .int 0, .null, .int 0, .null, .null, .null, .long 0, .int 0, .long 0, .long 0, .null]))) := ⟨_, rfl⟩
  have X : vO S0 D vcl (vup (vup v18 q19 (.inl (dT 0, 512, .inl (fun _ => 0)))) (ad 50 0) (.inr (13, [.int 0, .int 0, .int 0, .int 0, .ref q1, .int 0, .ref q2, .int 0, .int 0, .int 0, .int 0, .long 0, .int 0, .ref q3, .ref q4, .ref q5, .ref q6, .ref q7, .ref q8, .ref q9, .int 0, .ref q10, .ref q11, .ref q12, .ref q13, .ref q14, .ref q15, .ref q16, .int 0, .ref q17, .ref q18, .ref q19, .null, .null, .null, .null, .null, .null, .null, .int 0, .null, .null, .null, .null, .null, .int 0, .int 0, .long 0, .int 0, .null, .int 0, .null, .null, .null, .long 0, .int 0, .long 0, .long 0, .null]))) s H locs := X
  rw [← ev19] at X
  have y19 : LR S0.heap.size hcv h0 ad L v19 ad19 L19 := by rw [ev19]; exact s19
  clear i19 s19 g19 G18 I18 y18
  have kM19 := y19.1.get (i := 50) (j := 0) I19.1
  rw [I19.2.1] at kM19
  clear ev19
  refine lv_aload_n hx hb d_MenuScreensModel_init_163 rfl (lv_at hl 0 rfl) ?_
  refine lv_sipush (v := 512) hx hb d_MenuScreensModel_init_164 (by decide) ?_
  refine mv_newa C X (gt_1 123 (by decide +kernel) rfl) (ty := .int) rfl 0 rfl 512 (a0 := (512, .inl (fun _ => 0))) (fun _ => rfl) rfl (by decide) (by show 512 * 4 ≤ _; omega) (by show (((((((((((((((((((0 + 1) + 1) + 1) + 1) + 1) + 1) + 1) + 1) + 1) + 1) + 1) + 1) + 1) + 1) + 1) + 1) + 1) + 1) + 1) + 1 ≤ 36; omega) (by show (((((((((((((((((((0 + 4000) + 4000) + 41) + 41) + 41) + 41) + 41) + 41) + 41) + 31) + 31) + 31) + 31) + 31) + 310) + 310) + 512) + 512) + 512) + 512 ≤ 17391; omega) d_MenuScreensModel_init_167 (fun q20 H z_q20 w_q20 X => ?_)
  have n__ad_50_0__q20 : (ad 50 0) ≠ q20 := vnf kM19 z_q20
  have X : vO S0 D vcl (vup v19 q20 (.inl (dT 0, 512, .inl (fun _ => 0)))) s H locs := X
  refine mv_putF C X ((vup_n _ _ n__ad_50_0__q20).trans kM19) wM 32 hnm p_12_69_13 rfl rfl (Nat.le_of_ble_eq_true rfl) d_MenuScreensModel_init_169 (fun H locs X => ?_)
  have X : vO S0 D vcl (vup (vup v19 q20 (.inl (dT 0, 512, .inl (fun _ => 0)))) (ad 50 0) (.inr (13, [.int 0, .int 0, .int 0, .int 0, .ref q1, .int 0, .ref q2, .int 0, .int 0, .int 0, .int 0, .long 0, .int 0, .ref q3, .ref q4, .ref q5, .ref q6, .ref q7, .ref q8, .ref q9, .int 0, .ref q10, .ref q11, .ref q12, .ref q13, .ref q14, .ref q15, .ref q16, .int 0, .ref q17, .ref q18, .ref q19, .ref q20, .null, .null, .null, .null, .null, .null, .int 0, .null, .null, .null, .null, .null, .int 0, .int 0, .long 0, .int 0, .null, .int 0, .null, .null, .null, .long 0, .int 0, .long 0, .long 0, .null]))) s H locs := X
  obtain ⟨ad20, L20, s20, i20, g20⟩ := mIn_step (k := 32) (e := .inl (dT 0, 512, .inl (fun _ => 0))) y19 I19 z_q20 w_q20 (by show 32 < 59; decide) (fun j a b => (by decide : ∀ j, j < 32 → 32 ≤ j → mAr j = false) j b a) rfl
  have I20 : mIn dT ad20 L20 (ad 50 0) [.int 0, .int 0, .int 0, .int 0, .ref q1, .int 0, .ref q2, .int 0, .int 0, .int 0, .int 0, .long 0, .int 0, .ref q3, .ref q4, .ref q5, .ref q6, .ref q7, .ref q8, .ref q9, .int 0, .ref q10, .ref q11, .ref q12, .ref q13, .ref q14, .ref q15, .ref q16, .int 0, .ref q17, .ref q18, .ref q19, .ref q20, .null, .null, .null, .null, .null, .null, .int 0, .null, .null, .null, .null, .null, .int 0, .int 0, .long 0, .int 0, .null, .int 0, .null, .null, .null, .long 0, .int 0, .long 0, .long 0, .null] 33 := i20
  have G20 : ∀ i, i ≠ 50 → i ≠ 51 → L20 i = L i ∧ ad20 i = ad i := fun i a b => ⟨(g20 i a b).1.trans (G19 i a b).1, (g20 i a b).2.trans (G19 i a b).2⟩
  obtain ⟨v20, ev20⟩ : ∃ z, z = (vup (vup v19 q20 (.inl (dT 0, 512, .inl (fun _ => 0)))) (ad 50 0) (.inr (13, [.int 0, .int 0, .int 0, .int 0, .ref q1, .int 0, .ref q2, .int 0, .int 0, .int 0, .int 0, .long 0, .int 0, .ref q3, .ref q4, .ref q5, .ref q6, .ref q7, .ref q8, .ref q9, .int 0, .ref q10, .ref q11, .ref q12, .ref q13, .ref q14, .ref q15, .ref q16, .int 0, .ref q17, .ref q18, .ref q19, .ref q20, .null, .null, .null, .null, .null, .null, .int 0, .null, .null, .null, .null, .null, .int 0, .int 0, .long 0, .int 0, .null, .int 0, .null, .null, .null, .long 0, .int 0, .long 0, .long 0, .null]))) := ⟨_, rfl⟩
  have X : vO S0 D vcl (vup (vup v19 q20 (.inl (dT 0, 512, .inl (fun _ => 0)))) (ad 50 0) (.inr (13, [.int 0, .int 0, .int 0, .int 0, .ref q1, .int 0, .ref q2, .int 0, .int 0, .int 0, .int 0, .long 0, .int 0, .ref q3, .ref q4, .ref q5, .ref q6, .ref q7, .ref q8, .ref q9, .int 0, .ref q10, .ref q11, .ref q12, .ref q13, .ref q14, .ref q15, .ref q16, .int 0, .ref q17, .ref q18, .ref q19, .ref q20, .null, .null, .null, .null, .null, .null, .int 0, .null, .null, .null, .null, .null, .int 0, .int 0, .long 0, .int 0, .null, .int 0, .null, .null, .null, .long 0, .int 0, .long 0, .long 0, .null]))) s H locs := X
  rw [← ev20] at X
  have y20 : LR S0.heap.size hcv h0 ad L v20 ad20 L20 := by rw [ev20]; exact s20
  clear i20 s20 g20 G19 I19 y19
  have kM20 := y20.1.get (i := 50) (j := 0) I20.1
  rw [I20.2.1] at kM20
  clear ev20
  refine lv_aload_n hx hb d_MenuScreensModel_init_172 rfl (lv_at hl 0 rfl) ?_
  refine lv_sipush (v := 512) hx hb d_MenuScreensModel_init_173 (by decide) ?_
  refine mv_newa C X (gt_1 123 (by decide +kernel) rfl) (ty := .int) rfl 0 rfl 512 (a0 := (512, .inl (fun _ => 0))) (fun _ => rfl) rfl (by decide) (by show 512 * 4 ≤ _; omega) (by show ((((((((((((((((((((0 + 1) + 1) + 1) + 1) + 1) + 1) + 1) + 1) + 1) + 1) + 1) + 1) + 1) + 1) + 1) + 1) + 1) + 1) + 1) + 1) + 1 ≤ 36; omega) (by show ((((((((((((((((((((0 + 4000) + 4000) + 41) + 41) + 41) + 41) + 41) + 41) + 41) + 31) + 31) + 31) + 31) + 31) + 310) + 310) + 512) + 512) + 512) + 512) + 512 ≤ 17391; omega) d_MenuScreensModel_init_176 (fun q21 H z_q21 w_q21 X => ?_)
  have n__ad_50_0__q21 : (ad 50 0) ≠ q21 := vnf kM20 z_q21
  have X : vO S0 D vcl (vup v20 q21 (.inl (dT 0, 512, .inl (fun _ => 0)))) s H locs := X
  refine mv_putF C X ((vup_n _ _ n__ad_50_0__q21).trans kM20) wM 33 hnm p_12_72_13 rfl rfl (Nat.le_of_ble_eq_true rfl) d_MenuScreensModel_init_178 (fun H locs X => ?_)
  have X : vO S0 D vcl (vup (vup v20 q21 (.inl (dT 0, 512, .inl (fun _ => 0)))) (ad 50 0) (.inr (13, [.int 0, .int 0, .int 0, .int 0, .ref q1, .int 0, .ref q2, .int 0, .int 0, .int 0, .int 0, .long 0, .int 0, .ref q3, .ref q4, .ref q5, .ref q6, .ref q7, .ref q8, .ref q9, .int 0, .ref q10, .ref q11, .ref q12, .ref q13, .ref q14, .ref q15, .ref q16, .int 0, .ref q17, .ref q18, .ref q19, .ref q20, .ref q21, .null, .null, .null, .null, .null, .int 0, .null, .null, .null, .null, .null, .int 0, .int 0, .long 0, .int 0, .null, .int 0, .null, .null, .null, .long 0, .int 0, .long 0, .long 0, .null]))) s H locs := X
  obtain ⟨ad21, L21, s21, i21, g21⟩ := mIn_step (k := 33) (e := .inl (dT 0, 512, .inl (fun _ => 0))) y20 I20 z_q21 w_q21 (by show 33 < 59; decide) (fun j a b => (by decide : ∀ j, j < 33 → 33 ≤ j → mAr j = false) j b a) rfl
  have I21 : mIn dT ad21 L21 (ad 50 0) [.int 0, .int 0, .int 0, .int 0, .ref q1, .int 0, .ref q2, .int 0, .int 0, .int 0, .int 0, .long 0, .int 0, .ref q3, .ref q4, .ref q5, .ref q6, .ref q7, .ref q8, .ref q9, .int 0, .ref q10, .ref q11, .ref q12, .ref q13, .ref q14, .ref q15, .ref q16, .int 0, .ref q17, .ref q18, .ref q19, .ref q20, .ref q21, .null, .null, .null, .null, .null, .int 0, .null, .null, .null, .null, .null, .int 0, .int 0, .long 0, .int 0, .null, .int 0, .null, .null, .null, .long 0, .int 0, .long 0, .long 0, .null] 34 := i21
  have G21 : ∀ i, i ≠ 50 → i ≠ 51 → L21 i = L i ∧ ad21 i = ad i := fun i a b => ⟨(g21 i a b).1.trans (G20 i a b).1, (g21 i a b).2.trans (G20 i a b).2⟩
  obtain ⟨v21, ev21⟩ : ∃ z, z = (vup (vup v20 q21 (.inl (dT 0, 512, .inl (fun _ => 0)))) (ad 50 0) (.inr (13, [.int 0, .int 0, .int 0, .int 0, .ref q1, .int 0, .ref q2, .int 0, .int 0, .int 0, .int 0, .long 0, .int 0, .ref q3, .ref q4, .ref q5, .ref q6, .ref q7, .ref q8, .ref q9, .int 0, .ref q10, .ref q11, .ref q12, .ref q13, .ref q14, .ref q15, .ref q16, .int 0, .ref q17, .ref q18, .ref q19, .ref q20, .ref q21, .null, .null, .null, .null, .null, .int 0, .null, .null, .null, .null, .null, .int 0, .int 0, .long 0, .int 0, .null, .int 0, .null, .null, .null, .long 0, .int 0, .long 0, .long 0, .null]))) := ⟨_, rfl⟩
  have X : vO S0 D vcl (vup (vup v20 q21 (.inl (dT 0, 512, .inl (fun _ => 0)))) (ad 50 0) (.inr (13, [.int 0, .int 0, .int 0, .int 0, .ref q1, .int 0, .ref q2, .int 0, .int 0, .int 0, .int 0, .long 0, .int 0, .ref q3, .ref q4, .ref q5, .ref q6, .ref q7, .ref q8, .ref q9, .int 0, .ref q10, .ref q11, .ref q12, .ref q13, .ref q14, .ref q15, .ref q16, .int 0, .ref q17, .ref q18, .ref q19, .ref q20, .ref q21, .null, .null, .null, .null, .null, .int 0, .null, .null, .null, .null, .null, .int 0, .int 0, .long 0, .int 0, .null, .int 0, .null, .null, .null, .long 0, .int 0, .long 0, .long 0, .null]))) s H locs := X
  rw [← ev21] at X
  have y21 : LR S0.heap.size hcv h0 ad L v21 ad21 L21 := by rw [ev21]; exact s21
  clear i21 s21 g21 G20 I20 y20
  have kM21 := y21.1.get (i := 50) (j := 0) I21.1
  rw [I21.2.1] at kM21
  clear ev21
  refine lv_aload_n hx hb d_MenuScreensModel_init_181 rfl (lv_at hl 0 rfl) ?_
  refine lv_sipush (v := 512) hx hb d_MenuScreensModel_init_182 (by decide) ?_
  refine mv_newa C X (gt_1 123 (by decide +kernel) rfl) (ty := .int) rfl 0 rfl 512 (a0 := (512, .inl (fun _ => 0))) (fun _ => rfl) rfl (by decide) (by show 512 * 4 ≤ _; omega) (by show (((((((((((((((((((((0 + 1) + 1) + 1) + 1) + 1) + 1) + 1) + 1) + 1) + 1) + 1) + 1) + 1) + 1) + 1) + 1) + 1) + 1) + 1) + 1) + 1) + 1 ≤ 36; omega) (by show (((((((((((((((((((((0 + 4000) + 4000) + 41) + 41) + 41) + 41) + 41) + 41) + 41) + 31) + 31) + 31) + 31) + 31) + 310) + 310) + 512) + 512) + 512) + 512) + 512) + 512 ≤ 17391; omega) d_MenuScreensModel_init_185 (fun q22 H z_q22 w_q22 X => ?_)
  have n__ad_50_0__q22 : (ad 50 0) ≠ q22 := vnf kM21 z_q22
  have X : vO S0 D vcl (vup v21 q22 (.inl (dT 0, 512, .inl (fun _ => 0)))) s H locs := X
  refine mv_putF C X ((vup_n _ _ n__ad_50_0__q22).trans kM21) wM 34 hnm p_12_75_13 rfl rfl (Nat.le_of_ble_eq_true rfl) d_MenuScreensModel_init_187 (fun H locs X => ?_)
  have X : vO S0 D vcl (vup (vup v21 q22 (.inl (dT 0, 512, .inl (fun _ => 0)))) (ad 50 0) (.inr (13, [.int 0, .int 0, .int 0, .int 0, .ref q1, .int 0, .ref q2, .int 0, .int 0, .int 0, .int 0, .long 0, .int 0, .ref q3, .ref q4, .ref q5, .ref q6, .ref q7, .ref q8, .ref q9, .int 0, .ref q10, .ref q11, .ref q12, .ref q13, .ref q14, .ref q15, .ref q16, .int 0, .ref q17, .ref q18, .ref q19, .ref q20, .ref q21, .ref q22, .null, .null, .null, .null, .int 0, .null, .null, .null, .null, .null, .int 0, .int 0, .long 0, .int 0, .null, .int 0, .null, .null, .null, .long 0, .int 0, .long 0, .long 0, .null]))) s H locs := X
  obtain ⟨ad22, L22, s22, i22, g22⟩ := mIn_step (k := 34) (e := .inl (dT 0, 512, .inl (fun _ => 0))) y21 I21 z_q22 w_q22 (by show 34 < 59; decide) (fun j a b => (by decide : ∀ j, j < 34 → 34 ≤ j → mAr j = false) j b a) rfl
  have I22 : mIn dT ad22 L22 (ad 50 0) [.int 0, .int 0, .int 0, .int 0, .ref q1, .int 0, .ref q2, .int 0, .int 0, .int 0, .int 0, .long 0, .int 0, .ref q3, .ref q4, .ref q5, .ref q6, .ref q7, .ref q8, .ref q9, .int 0, .ref q10, .ref q11, .ref q12, .ref q13, .ref q14, .ref q15, .ref q16, .int 0, .ref q17, .ref q18, .ref q19, .ref q20, .ref q21, .ref q22, .null, .null, .null, .null, .int 0, .null, .null, .null, .null, .null, .int 0, .int 0, .long 0, .int 0, .null, .int 0, .null, .null, .null, .long 0, .int 0, .long 0, .long 0, .null] 35 := i22
  have G22 : ∀ i, i ≠ 50 → i ≠ 51 → L22 i = L i ∧ ad22 i = ad i := fun i a b => ⟨(g22 i a b).1.trans (G21 i a b).1, (g22 i a b).2.trans (G21 i a b).2⟩
  obtain ⟨v22, ev22⟩ : ∃ z, z = (vup (vup v21 q22 (.inl (dT 0, 512, .inl (fun _ => 0)))) (ad 50 0) (.inr (13, [.int 0, .int 0, .int 0, .int 0, .ref q1, .int 0, .ref q2, .int 0, .int 0, .int 0, .int 0, .long 0, .int 0, .ref q3, .ref q4, .ref q5, .ref q6, .ref q7, .ref q8, .ref q9, .int 0, .ref q10, .ref q11, .ref q12, .ref q13, .ref q14, .ref q15, .ref q16, .int 0, .ref q17, .ref q18, .ref q19, .ref q20, .ref q21, .ref q22, .null, .null, .null, .null, .int 0, .null, .null, .null, .null, .null, .int 0, .int 0, .long 0, .int 0, .null, .int 0, .null, .null, .null, .long 0, .int 0, .long 0, .long 0, .null]))) := ⟨_, rfl⟩
  have X : vO S0 D vcl (vup (vup v21 q22 (.inl (dT 0, 512, .inl (fun _ => 0)))) (ad 50 0) (.inr (13, [.int 0, .int 0, .int 0, .int 0, .ref q1, .int 0, .ref q2, .int 0, .int 0, .int 0, .int 0, .long 0, .int 0, .ref q3, .ref q4, .ref q5, .ref q6, .ref q7, .ref q8, .ref q9, .int 0, .ref q10, .ref q11, .ref q12, .ref q13, .ref q14, .ref q15, .ref q16, .int 0, .ref q17, .ref q18, .ref q19, .ref q20, .ref q21, .ref q22, .null, .null, .null, .null, .int 0, .null, .null, .null, .null, .null, .int 0, .int 0, .long 0, .int 0, .null, .int 0, .null, .null, .null, .long 0, .int 0, .long 0, .long 0, .null]))) s H locs := X
  rw [← ev22] at X
  have y22 : LR S0.heap.size hcv h0 ad L v22 ad22 L22 := by rw [ev22]; exact s22
  clear i22 s22 g22 G21 I21 y21
  have kM22 := y22.1.get (i := 50) (j := 0) I22.1
  rw [I22.2.1] at kM22
  clear ev22
  refine lv_aload_n hx hb d_MenuScreensModel_init_190 rfl (lv_at hl 0 rfl) ?_
  refine lv_sipush (v := 512) hx hb d_MenuScreensModel_init_191 (by decide) ?_
  refine mv_newa C X (gt_1 123 (by decide +kernel) rfl) (ty := .int) rfl 0 rfl 512 (a0 := (512, .inl (fun _ => 0))) (fun _ => rfl) rfl (by decide) (by show 512 * 4 ≤ _; omega) (by show ((((((((((((((((((((((0 + 1) + 1) + 1) + 1) + 1) + 1) + 1) + 1) + 1) + 1) + 1) + 1) + 1) + 1) + 1) + 1) + 1) + 1) + 1) + 1) + 1) + 1) + 1 ≤ 36; omega) (by show ((((((((((((((((((((((0 + 4000) + 4000) + 41) + 41) + 41) + 41) + 41) + 41) + 41) + 31) + 31) + 31) + 31) + 31) + 310) + 310) + 512) + 512) + 512) + 512) + 512) + 512) + 512 ≤ 17391; omega) d_MenuScreensModel_init_194 (fun q23 H z_q23 w_q23 X => ?_)
  have n__ad_50_0__q23 : (ad 50 0) ≠ q23 := vnf kM22 z_q23
  have X : vO S0 D vcl (vup v22 q23 (.inl (dT 0, 512, .inl (fun _ => 0)))) s H locs := X
  refine mv_putF C X ((vup_n _ _ n__ad_50_0__q23).trans kM22) wM 35 hnm p_12_78_13 rfl rfl (Nat.le_of_ble_eq_true rfl) d_MenuScreensModel_init_196 (fun H locs X => ?_)
  have X : vO S0 D vcl (vup (vup v22 q23 (.inl (dT 0, 512, .inl (fun _ => 0)))) (ad 50 0) (.inr (13, [.int 0, .int 0, .int 0, .int 0, .ref q1, .int 0, .ref q2, .int 0, .int 0, .int 0, .int 0, .long 0, .int 0, .ref q3, .ref q4, .ref q5, .ref q6, .ref q7, .ref q8, .ref q9, .int 0, .ref q10, .ref q11, .ref q12, .ref q13, .ref q14, .ref q15, .ref q16, .int 0, .ref q17, .ref q18, .ref q19, .ref q20, .ref q21, .ref q22, .ref q23, .null, .null, .null, .int 0, .null, .null, .null, .null, .null, .int 0, .int 0, .long 0, .int 0, .null, .int 0, .null, .null, .null, .long 0, .int 0, .long 0, .long 0, .null]))) s H locs := X
  obtain ⟨ad23, L23, s23, i23, g23⟩ := mIn_step (k := 35) (e := .inl (dT 0, 512, .inl (fun _ => 0))) y22 I22 z_q23 w_q23 (by show 35 < 59; decide) (fun j a b => (by decide : ∀ j, j < 35 → 35 ≤ j → mAr j = false) j b a) rfl
  have I23 : mIn dT ad23 L23 (ad 50 0) [.int 0, .int 0, .int 0, .int 0, .ref q1, .int 0, .ref q2, .int 0, .int 0, .int 0, .int 0, .long 0, .int 0, .ref q3, .ref q4, .ref q5, .ref q6, .ref q7, .ref q8, .ref q9, .int 0, .ref q10, .ref q11, .ref q12, .ref q13, .ref q14, .ref q15, .ref q16, .int 0, .ref q17, .ref q18, .ref q19, .ref q20, .ref q21, .ref q22, .ref q23, .null, .null, .null, .int 0, .null, .null, .null, .null, .null, .int 0, .int 0, .long 0, .int 0, .null, .int 0, .null, .null, .null, .long 0, .int 0, .long 0, .long 0, .null] 36 := i23
  have G23 : ∀ i, i ≠ 50 → i ≠ 51 → L23 i = L i ∧ ad23 i = ad i := fun i a b => ⟨(g23 i a b).1.trans (G22 i a b).1, (g23 i a b).2.trans (G22 i a b).2⟩
  obtain ⟨v23, ev23⟩ : ∃ z, z = (vup (vup v22 q23 (.inl (dT 0, 512, .inl (fun _ => 0)))) (ad 50 0) (.inr (13, [.int 0, .int 0, .int 0, .int 0, .ref q1, .int 0, .ref q2, .int 0, .int 0, .int 0, .int 0, .long 0, .int 0, .ref q3, .ref q4, .ref q5, .ref q6, .ref q7, .ref q8, .ref q9, .int 0, .ref q10, .ref q11, .ref q12, .ref q13, .ref q14, .ref q15, .ref q16, .int 0, .ref q17, .ref q18, .ref q19, .ref q20, .ref q21, .ref q22, .ref q23, .null, .null, .null, .int 0, .null, .null, .null, .null, .null, .int 0, .int 0, .long 0, .int 0, .null, .int 0, .null, .null, .null, .long 0, .int 0, .long 0, .long 0, .null]))) := ⟨_, rfl⟩
  have X : vO S0 D vcl (vup (vup v22 q23 (.inl (dT 0, 512, .inl (fun _ => 0)))) (ad 50 0) (.inr (13, [.int 0, .int 0, .int 0, .int 0, .ref q1, .int 0, .ref q2, .int 0, .int 0, .int 0, .int 0, .long 0, .int 0, .ref q3, .ref q4, .ref q5, .ref q6, .ref q7, .ref q8, .ref q9, .int 0, .ref q10, .ref q11, .ref q12, .ref q13, .ref q14, .ref q15, .ref q16, .int 0, .ref q17, .ref q18, .ref q19, .ref q20, .ref q21, .ref q22, .ref q23, .null, .null, .null, .int 0, .null, .null, .null, .null, .null, .int 0, .int 0, .long 0, .int 0, .null, .int 0, .null, .null, .null, .long 0, .int 0, .long 0, .long 0, .null]))) s H locs := X
  rw [← ev23] at X
  have y23 : LR S0.heap.size hcv h0 ad L v23 ad23 L23 := by rw [ev23]; exact s23
  clear i23 s23 g23 G22 I22 y22
  have kM23 := y23.1.get (i := 50) (j := 0) I23.1
  rw [I23.2.1] at kM23
  clear ev23
  refine lv_aload_n hx hb d_MenuScreensModel_init_199 rfl (lv_at hl 0 rfl) ?_
  refine lv_sipush (v := 512) hx hb d_MenuScreensModel_init_200 (by decide) ?_
  refine mv_newa C X (gt_1 123 (by decide +kernel) rfl) (ty := .int) rfl 0 rfl 512 (a0 := (512, .inl (fun _ => 0))) (fun _ => rfl) rfl (by decide) (by show 512 * 4 ≤ _; omega) (by show (((((((((((((((((((((((0 + 1) + 1) + 1) + 1) + 1) + 1) + 1) + 1) + 1) + 1) + 1) + 1) + 1) + 1) + 1) + 1) + 1) + 1) + 1) + 1) + 1) + 1) + 1) + 1 ≤ 36; omega) (by show (((((((((((((((((((((((0 + 4000) + 4000) + 41) + 41) + 41) + 41) + 41) + 41) + 41) + 31) + 31) + 31) + 31) + 31) + 310) + 310) + 512) + 512) + 512) + 512) + 512) + 512) + 512) + 512 ≤ 17391; omega) d_MenuScreensModel_init_203 (fun q24 H z_q24 w_q24 X => ?_)
  have n__ad_50_0__q24 : (ad 50 0) ≠ q24 := vnf kM23 z_q24
  have X : vO S0 D vcl (vup v23 q24 (.inl (dT 0, 512, .inl (fun _ => 0)))) s H locs := X
  refine mv_putF C X ((vup_n _ _ n__ad_50_0__q24).trans kM23) wM 36 hnm p_12_81_13 rfl rfl (Nat.le_of_ble_eq_true rfl) d_MenuScreensModel_init_205 (fun H locs X => ?_)
  have X : vO S0 D vcl (vup (vup v23 q24 (.inl (dT 0, 512, .inl (fun _ => 0)))) (ad 50 0) (.inr (13, [.int 0, .int 0, .int 0, .int 0, .ref q1, .int 0, .ref q2, .int 0, .int 0, .int 0, .int 0, .long 0, .int 0, .ref q3, .ref q4, .ref q5, .ref q6, .ref q7, .ref q8, .ref q9, .int 0, .ref q10, .ref q11, .ref q12, .ref q13, .ref q14, .ref q15, .ref q16, .int 0, .ref q17, .ref q18, .ref q19, .ref q20, .ref q21, .ref q22, .ref q23, .ref q24, .null, .null, .int 0, .null, .null, .null, .null, .null, .int 0, .int 0, .long 0, .int 0, .null, .int 0, .null, .null, .null, .long 0, .int 0, .long 0, .long 0, .null]))) s H locs := X
  obtain ⟨ad24, L24, s24, i24, g24⟩ := mIn_step (k := 36) (e := .inl (dT 0, 512, .inl (fun _ => 0))) y23 I23 z_q24 w_q24 (by show 36 < 59; decide) (fun j a b => (by decide : ∀ j, j < 36 → 36 ≤ j → mAr j = false) j b a) rfl
  have I24 : mIn dT ad24 L24 (ad 50 0) [.int 0, .int 0, .int 0, .int 0, .ref q1, .int 0, .ref q2, .int 0, .int 0, .int 0, .int 0, .long 0, .int 0, .ref q3, .ref q4, .ref q5, .ref q6, .ref q7, .ref q8, .ref q9, .int 0, .ref q10, .ref q11, .ref q12, .ref q13, .ref q14, .ref q15, .ref q16, .int 0, .ref q17, .ref q18, .ref q19, .ref q20, .ref q21, .ref q22, .ref q23, .ref q24, .null, .null, .int 0, .null, .null, .null, .null, .null, .int 0, .int 0, .long 0, .int 0, .null, .int 0, .null, .null, .null, .long 0, .int 0, .long 0, .long 0, .null] 37 := i24
  have G24 : ∀ i, i ≠ 50 → i ≠ 51 → L24 i = L i ∧ ad24 i = ad i := fun i a b => ⟨(g24 i a b).1.trans (G23 i a b).1, (g24 i a b).2.trans (G23 i a b).2⟩
  obtain ⟨v24, ev24⟩ : ∃ z, z = (vup (vup v23 q24 (.inl (dT 0, 512, .inl (fun _ => 0)))) (ad 50 0) (.inr (13, [.int 0, .int 0, .int 0, .int 0, .ref q1, .int 0, .ref q2, .int 0, .int 0, .int 0, .int 0, .long 0, .int 0, .ref q3, .ref q4, .ref q5, .ref q6, .ref q7, .ref q8, .ref q9, .int 0, .ref q10, .ref q11, .ref q12, .ref q13, .ref q14, .ref q15, .ref q16, .int 0, .ref q17, .ref q18, .ref q19, .ref q20, .ref q21, .ref q22, .ref q23, .ref q24, .null, .null, .int 0, .null, .null, .null, .null, .null, .int 0, .int 0, .long 0, .int 0, .null, .int 0, .null, .null, .null, .long 0, .int 0, .long 0, .long 0, .null]))) := ⟨_, rfl⟩
  have X : vO S0 D vcl (vup (vup v23 q24 (.inl (dT 0, 512, .inl (fun _ => 0)))) (ad 50 0) (.inr (13, [.int 0, .int 0, .int 0, .int 0, .ref q1, .int 0, .ref q2, .int 0, .int 0, .int 0, .int 0, .long 0, .int 0, .ref q3, .ref q4, .ref q5, .ref q6, .ref q7, .ref q8, .ref q9, .int 0, .ref q10, .ref q11, .ref q12, .ref q13, .ref q14, .ref q15, .ref q16, .int 0, .ref q17, .ref q18, .ref q19, .ref q20, .ref q21, .ref q22, .ref q23, .ref q24, .null, .null, .int 0, .null, .null, .null, .null, .null, .int 0, .int 0, .long 0, .int 0, .null, .int 0, .null, .null, .null, .long 0, .int 0, .long 0, .long 0, .null]))) s H locs := X
  rw [← ev24] at X
  have y24 : LR S0.heap.size hcv h0 ad L v24 ad24 L24 := by rw [ev24]; exact s24
  clear i24 s24 g24 G23 I23 y23
  have kM24 := y24.1.get (i := 50) (j := 0) I24.1
  rw [I24.2.1] at kM24
  clear ev24
  refine lv_aload_n hx hb d_MenuScreensModel_init_208 rfl (lv_at hl 0 rfl) ?_
  refine lv_sipush (v := 512) hx hb d_MenuScreensModel_init_209 (by decide) ?_
  refine mv_newa C X (gt_1 123 (by decide +kernel) rfl) (ty := .int) rfl 0 rfl 512 (a0 := (512, .inl (fun _ => 0))) (fun _ => rfl) rfl (by decide) (by show 512 * 4 ≤ _; omega) (by show ((((((((((((((((((((((((0 + 1) + 1) + 1) + 1) + 1) + 1) + 1) + 1) + 1) + 1) + 1) + 1) + 1) + 1) + 1) + 1) + 1) + 1) + 1) + 1) + 1) + 1) + 1) + 1) + 1 ≤ 36; omega) (by show ((((((((((((((((((((((((0 + 4000) + 4000) + 41) + 41) + 41) + 41) + 41) + 41) + 41) + 31) + 31) + 31) + 31) + 31) + 310) + 310) + 512) + 512) + 512) + 512) + 512) + 512) + 512) + 512) + 512 ≤ 17391; omega) d_MenuScreensModel_init_212 (fun q25 H z_q25 w_q25 X => ?_)
  have n__ad_50_0__q25 : (ad 50 0) ≠ q25 := vnf kM24 z_q25
  have X : vO S0 D vcl (vup v24 q25 (.inl (dT 0, 512, .inl (fun _ => 0)))) s H locs := X
  refine mv_putF C X ((vup_n _ _ n__ad_50_0__q25).trans kM24) wM 37 hnm p_12_84_13 rfl rfl (Nat.le_of_ble_eq_true rfl) d_MenuScreensModel_init_214 (fun H locs X => ?_)
  have X : vO S0 D vcl (vup (vup v24 q25 (.inl (dT 0, 512, .inl (fun _ => 0)))) (ad 50 0) (.inr (13, [.int 0, .int 0, .int 0, .int 0, .ref q1, .int 0, .ref q2, .int 0, .int 0, .int 0, .int 0, .long 0, .int 0, .ref q3, .ref q4, .ref q5, .ref q6, .ref q7, .ref q8, .ref q9, .int 0, .ref q10, .ref q11, .ref q12, .ref q13, .ref q14, .ref q15, .ref q16, .int 0, .ref q17, .ref q18, .ref q19, .ref q20, .ref q21, .ref q22, .ref q23, .ref q24, .ref q25, .null, .int 0, .null, .null, .null, .null, .null, .int 0, .int 0, .long 0, .int 0, .null, .int 0, .null, .null, .null, .long 0, .int 0, .long 0, .long 0, .null]))) s H locs := X
  obtain ⟨ad25, L25, s25, i25, g25⟩ := mIn_step (k := 37) (e := .inl (dT 0, 512, .inl (fun _ => 0))) y24 I24 z_q25 w_q25 (by show 37 < 59; decide) (fun j a b => (by decide : ∀ j, j < 37 → 37 ≤ j → mAr j = false) j b a) rfl
  have I25 : mIn dT ad25 L25 (ad 50 0) [.int 0, .int 0, .int 0, .int 0, .ref q1, .int 0, .ref q2, .int 0, .int 0, .int 0, .int 0, .long 0, .int 0, .ref q3, .ref q4, .ref q5, .ref q6, .ref q7, .ref q8, .ref q9, .int 0, .ref q10, .ref q11, .ref q12, .ref q13, .ref q14, .ref q15, .ref q16, .int 0, .ref q17, .ref q18, .ref q19, .ref q20, .ref q21, .ref q22, .ref q23, .ref q24, .ref q25, .null, .int 0, .null, .null, .null, .null, .null, .int 0, .int 0, .long 0, .int 0, .null, .int 0, .null, .null, .null, .long 0, .int 0, .long 0, .long 0, .null] 38 := i25
  have G25 : ∀ i, i ≠ 50 → i ≠ 51 → L25 i = L i ∧ ad25 i = ad i := fun i a b => ⟨(g25 i a b).1.trans (G24 i a b).1, (g25 i a b).2.trans (G24 i a b).2⟩
  obtain ⟨v25, ev25⟩ : ∃ z, z = (vup (vup v24 q25 (.inl (dT 0, 512, .inl (fun _ => 0)))) (ad 50 0) (.inr (13, [.int 0, .int 0, .int 0, .int 0, .ref q1, .int 0, .ref q2, .int 0, .int 0, .int 0, .int 0, .long 0, .int 0, .ref q3, .ref q4, .ref q5, .ref q6, .ref q7, .ref q8, .ref q9, .int 0, .ref q10, .ref q11, .ref q12, .ref q13, .ref q14, .ref q15, .ref q16, .int 0, .ref q17, .ref q18, .ref q19, .ref q20, .ref q21, .ref q22, .ref q23, .ref q24, .ref q25, .null, .int 0, .null, .null, .null, .null, .null, .int 0, .int 0, .long 0, .int 0, .null, .int 0, .null, .null, .null, .long 0, .int 0, .long 0, .long 0, .null]))) := ⟨_, rfl⟩
  have X : vO S0 D vcl (vup (vup v24 q25 (.inl (dT 0, 512, .inl (fun _ => 0)))) (ad 50 0) (.inr (13, [.int 0, .int 0, .int 0, .int 0, .ref q1, .int 0, .ref q2, .int 0, .int 0, .int 0, .int 0, .long 0, .int 0, .ref q3, .ref q4, .ref q5, .ref q6, .ref q7, .ref q8, .ref q9, .int 0, .ref q10, .ref q11, .ref q12, .ref q13, .ref q14, .ref q15, .ref q16, .int 0, .ref q17, .ref q18, .ref q19, .ref q20, .ref q21, .ref q22, .ref q23, .ref q24, .ref q25, .null, .int 0, .null, .null, .null, .null, .null, .int 0, .int 0, .long 0, .int 0, .null, .int 0, .null, .null, .null, .long 0, .int 0, .long 0, .long 0, .null]))) s H locs := X
  rw [← ev25] at X
  have y25 : LR S0.heap.size hcv h0 ad L v25 ad25 L25 := by rw [ev25]; exact s25
  clear i25 s25 g25 G24 I24 y24
  have kM25 := y25.1.get (i := 50) (j := 0) I25.1
  rw [I25.2.1] at kM25
  clear ev25
  refine lv_aload_n hx hb d_MenuScreensModel_init_217 rfl (lv_at hl 0 rfl) ?_
  refine lv_sipush (v := 512) hx hb d_MenuScreensModel_init_218 (by decide) ?_
  refine mv_newa C X (gt_1 123 (by decide +kernel) rfl) (ty := .int) rfl 0 rfl 512 (a0 := (512, .inl (fun _ => 0))) (fun _ => rfl) rfl (by decide) (by show 512 * 4 ≤ _; omega) (by show (((((((((((((((((((((((((0 + 1) + 1) + 1) + 1) + 1) + 1) + 1) + 1) + 1) + 1) + 1) + 1) + 1) + 1) + 1) + 1) + 1) + 1) + 1) + 1) + 1) + 1) + 1) + 1) + 1) + 1 ≤ 36; omega) (by show (((((((((((((((((((((((((0 + 4000) + 4000) + 41) + 41) + 41) + 41) + 41) + 41) + 41) + 31) + 31) + 31) + 31) + 31) + 310) + 310) + 512) + 512) + 512) + 512) + 512) + 512) + 512) + 512) + 512) + 512 ≤ 17391; omega) d_MenuScreensModel_init_221 (fun q26 H z_q26 w_q26 X => ?_)
  have n__ad_50_0__q26 : (ad 50 0) ≠ q26 := vnf kM25 z_q26
  have X : vO S0 D vcl (vup v25 q26 (.inl (dT 0, 512, .inl (fun _ => 0)))) s H locs := X
  refine mv_putF C X ((vup_n _ _ n__ad_50_0__q26).trans kM25) wM 38 hnm p_12_87_13 rfl rfl (Nat.le_of_ble_eq_true rfl) d_MenuScreensModel_init_223 (fun H locs X => ?_)
  have X : vO S0 D vcl (vup (vup v25 q26 (.inl (dT 0, 512, .inl (fun _ => 0)))) (ad 50 0) (.inr (13, [.int 0, .int 0, .int 0, .int 0, .ref q1, .int 0, .ref q2, .int 0, .int 0, .int 0, .int 0, .long 0, .int 0, .ref q3, .ref q4, .ref q5, .ref q6, .ref q7, .ref q8, .ref q9, .int 0, .ref q10, .ref q11, .ref q12, .ref q13, .ref q14, .ref q15, .ref q16, .int 0, .ref q17, .ref q18, .ref q19, .ref q20, .ref q21, .ref q22, .ref q23, .ref q24, .ref q25, .ref q26, .int 0, .null, .null, .null, .null, .null, .int 0, .int 0, .long 0, .int 0, .null, .int 0, .null, .null, .null, .long 0, .int 0, .long 0, .long 0, .null]))) s H locs := X
  obtain ⟨ad26, L26, s26, i26, g26⟩ := mIn_step (k := 38) (e := .inl (dT 0, 512, .inl (fun _ => 0))) y25 I25 z_q26 w_q26 (by show 38 < 59; decide) (fun j a b => (by decide : ∀ j, j < 38 → 38 ≤ j → mAr j = false) j b a) rfl
  have I26 : mIn dT ad26 L26 (ad 50 0) [.int 0, .int 0, .int 0, .int 0, .ref q1, .int 0, .ref q2, .int 0, .int 0, .int 0, .int 0, .long 0, .int 0, .ref q3, .ref q4, .ref q5, .ref q6, .ref q7, .ref q8, .ref q9, .int 0, .ref q10, .ref q11, .ref q12, .ref q13, .ref q14, .ref q15, .ref q16, .int 0, .ref q17, .ref q18, .ref q19, .ref q20, .ref q21, .ref q22, .ref q23, .ref q24, .ref q25, .ref q26, .int 0, .null, .null, .null, .null, .null, .int 0, .int 0, .long 0, .int 0, .null, .int 0, .null, .null, .null, .long 0, .int 0, .long 0, .long 0, .null] 39 := i26
  have G26 : ∀ i, i ≠ 50 → i ≠ 51 → L26 i = L i ∧ ad26 i = ad i := fun i a b => ⟨(g26 i a b).1.trans (G25 i a b).1, (g26 i a b).2.trans (G25 i a b).2⟩
  obtain ⟨v26, ev26⟩ : ∃ z, z = (vup (vup v25 q26 (.inl (dT 0, 512, .inl (fun _ => 0)))) (ad 50 0) (.inr (13, [.int 0, .int 0, .int 0, .int 0, .ref q1, .int 0, .ref q2, .int 0, .int 0, .int 0, .int 0, .long 0, .int 0, .ref q3, .ref q4, .ref q5, .ref q6, .ref q7, .ref q8, .ref q9, .int 0, .ref q10, .ref q11, .ref q12, .ref q13, .ref q14, .ref q15, .ref q16, .int 0, .ref q17, .ref q18, .ref q19, .ref q20, .ref q21, .ref q22, .ref q23, .ref q24, .ref q25, .ref q26, .int 0, .null, .null, .null, .null, .null, .int 0, .int 0, .long 0, .int 0, .null, .int 0, .null, .null, .null, .long 0, .int 0, .long 0, .long 0, .null]))) := ⟨_, rfl⟩
  have X : vO S0 D vcl (vup (vup v25 q26 (.inl (dT 0, 512, .inl (fun _ => 0)))) (ad 50 0) (.inr (13, [.int 0, .int 0, .int 0, .int 0, .ref q1, .int 0, .ref q2, .int 0, .int 0, .int 0, .int 0, .long 0, .int 0, .ref q3, .ref q4, .ref q5, .ref q6, .ref q7, .ref q8, .ref q9, .int 0, .ref q10, .ref q11, .ref q12, .ref q13, .ref q14, .ref q15, .ref q16, .int 0, .ref q17, .ref q18, .ref q19, .ref q20, .ref q21, .ref q22, .ref q23, .ref q24, .ref q25, .ref q26, .int 0, .null, .null, .null, .null, .null, .int 0, .int 0, .long 0, .int 0, .null, .int 0, .null, .null, .null, .long 0, .int 0, .long 0, .long 0, .null]))) s H locs := X
  rw [← ev26] at X
  have y26 : LR S0.heap.size hcv h0 ad L v26 ad26 L26 := by rw [ev26]; exact s26
  clear i26 s26 g26 G25 I25 y25
  have kM26 := y26.1.get (i := 50) (j := 0) I26.1
  rw [I26.2.1] at kM26
  clear ev26
  refine lv_aload_n hx hb d_MenuScreensModel_init_226 rfl (lv_at hl 0 rfl) ?_
  refine lv_sipush (v := 512) hx hb d_MenuScreensModel_init_227 (by decide) ?_
  refine mv_newa C X (gt_1 123 (by decide +kernel) rfl) (ty := .int) rfl 0 rfl 512 (a0 := (512, .inl (fun _ => 0))) (fun _ => rfl) rfl (by decide) (by show 512 * 4 ≤ _; omega) (by show ((((((((((((((((((((((((((0 + 1) + 1) + 1) + 1) + 1) + 1) + 1) + 1) + 1) + 1) + 1) + 1) + 1) + 1) + 1) + 1) + 1) + 1) + 1) + 1) + 1) + 1) + 1) + 1) + 1) + 1) + 1 ≤ 36; omega) (by show ((((((((((((((((((((((((((0 + 4000) + 4000) + 41) + 41) + 41) + 41) + 41) + 41) + 41) + 31) + 31) + 31) + 31) + 31) + 310) + 310) + 512) + 512) + 512) + 512) + 512) + 512) + 512) + 512) + 512) + 512) + 512 ≤ 17391; omega) d_MenuScreensModel_init_230 (fun q27 H z_q27 w_q27 X => ?_)
  have n__ad_50_0__q27 : (ad 50 0) ≠ q27 := vnf kM26 z_q27
  have X : vO S0 D vcl (vup v26 q27 (.inl (dT 0, 512, .inl (fun _ => 0)))) s H locs := X
  refine mv_putF C X ((vup_n _ _ n__ad_50_0__q27).trans kM26) wM 40 hnm p_12_90_13 rfl rfl (Nat.le_of_ble_eq_true rfl) d_MenuScreensModel_init_232 (fun H locs X => ?_)
  have X : vO S0 D vcl (vup (vup v26 q27 (.inl (dT 0, 512, .inl (fun _ => 0)))) (ad 50 0) (.inr (13, [.int 0, .int 0, .int 0, .int 0, .ref q1, .int 0, .ref q2, .int 0, .int 0, .int 0, .int 0, .long 0, .int 0, .ref q3, .ref q4, .ref q5, .ref q6, .ref q7, .ref q8, .ref q9, .int 0, .ref q10, .ref q11, .ref q12, .ref q13, .ref q14, .ref q15, .ref q16, .int 0, .ref q17, .ref q18, .ref q19, .ref q20, .ref q21, .ref q22, .ref q23, .ref q24, .ref q25, .ref q26, .int 0, .ref q27, .null, .null, .null, .null, .int 0, .int 0, .long 0, .int 0, .null, .int 0, .null, .null, .null, .long 0, .int 0, .long 0, .long 0, .null]))) s H locs := X
  obtain ⟨ad27, L27, s27, i27, g27⟩ := mIn_step (k := 40) (e := .inl (dT 0, 512, .inl (fun _ => 0))) y26 I26 z_q27 w_q27 (by show 40 < 59; decide) (fun j a b => (by decide : ∀ j, j < 40 → 39 ≤ j → mAr j = false) j b a) rfl
  have I27 : mIn dT ad27 L27 (ad 50 0) [.int 0, .int 0, .int 0, .int 0, .ref q1, .int 0, .ref q2, .int 0, .int 0, .int 0, .int 0, .long 0, .int 0, .ref q3, .ref q4, .ref q5, .ref q6, .ref q7, .ref q8, .ref q9, .int 0, .ref q10, .ref q11, .ref q12, .ref q13, .ref q14, .ref q15, .ref q16, .int 0, .ref q17, .ref q18, .ref q19, .ref q20, .ref q21, .ref q22, .ref q23, .ref q24, .ref q25, .ref q26, .int 0, .ref q27, .null, .null, .null, .null, .int 0, .int 0, .long 0, .int 0, .null, .int 0, .null, .null, .null, .long 0, .int 0, .long 0, .long 0, .null] 41 := i27
  have G27 : ∀ i, i ≠ 50 → i ≠ 51 → L27 i = L i ∧ ad27 i = ad i := fun i a b => ⟨(g27 i a b).1.trans (G26 i a b).1, (g27 i a b).2.trans (G26 i a b).2⟩
  obtain ⟨v27, ev27⟩ : ∃ z, z = (vup (vup v26 q27 (.inl (dT 0, 512, .inl (fun _ => 0)))) (ad 50 0) (.inr (13, [.int 0, .int 0, .int 0, .int 0, .ref q1, .int 0, .ref q2, .int 0, .int 0, .int 0, .int 0, .long 0, .int 0, .ref q3, .ref q4, .ref q5, .ref q6, .ref q7, .ref q8, .ref q9, .int 0, .ref q10, .ref q11, .ref q12, .ref q13, .ref q14, .ref q15, .ref q16, .int 0, .ref q17, .ref q18, .ref q19, .ref q20, .ref q21, .ref q22, .ref q23, .ref q24, .ref q25, .ref q26, .int 0, .ref q27, .null, .null, .null, .null, .int 0, .int 0, .long 0, .int 0, .null, .int 0, .null, .null, .null, .long 0, .int 0, .long 0, .long 0, .null]))) := ⟨_, rfl⟩
  have X : vO S0 D vcl (vup (vup v26 q27 (.inl (dT 0, 512, .inl (fun _ => 0)))) (ad 50 0) (.inr (13, [.int 0, .int 0, .int 0, .int 0, .ref q1, .int 0, .ref q2, .int 0, .int 0, .int 0, .int 0, .long 0, .int 0, .ref q3, .ref q4, .ref q5, .ref q6, .ref q7, .ref q8, .ref q9, .int 0, .ref q10, .ref q11, .ref q12, .ref q13, .ref q14, .ref q15, .ref q16, .int 0, .ref q17, .ref q18, .ref q19, .ref q20, .ref q21, .ref q22, .ref q23, .ref q24, .ref q25, .ref q26, .int 0, .ref q27, .null, .null, .null, .null, .int 0, .int 0, .long 0, .int 0, .null, .int 0, .null, .null, .null, .long 0, .int 0, .long 0, .long 0, .null]))) s H locs := X
  rw [← ev27] at X
  have y27 : LR S0.heap.size hcv h0 ad L v27 ad27 L27 := by rw [ev27]; exact s27
  clear i27 s27 g27 G26 I26 y26
  have kM27 := y27.1.get (i := 50) (j := 0) I27.1
  rw [I27.2.1] at kM27
  clear ev27
  refine lv_aload_n hx hb d_MenuScreensModel_init_235 rfl (lv_at hl 0 rfl) ?_
  refine lv_sipush (v := 512) hx hb d_MenuScreensModel_init_236 (by decide) ?_
  refine mv_newa C X (gt_1 123 (by decide +kernel) rfl) (ty := .int) rfl 0 rfl 512 (a0 := (512, .inl (fun _ => 0))) (fun _ => rfl) rfl (by decide) (by show 512 * 4 ≤ _; omega) (by show (((((((((((((((((((((((((((0 + 1) + 1) + 1) + 1) + 1) + 1) + 1) + 1) + 1) + 1) + 1) + 1) + 1) + 1) + 1) + 1) + 1) + 1) + 1) + 1) + 1) + 1) + 1) + 1) + 1) + 1) + 1) + 1 ≤ 36; omega) (by show (((((((((((((((((((((((((((0 + 4000) + 4000) + 41) + 41) + 41) + 41) + 41) + 41) + 41) + 31) + 31) + 31) + 31) + 31) + 310) + 310) + 512) + 512) + 512) + 512) + 512) + 512) + 512) + 512) + 512) + 512) + 512) + 512 ≤ 17391; omega) d_MenuScreensModel_init_239 (fun q28 H z_q28 w_q28 X => ?_)
  have n__ad_50_0__q28 : (ad 50 0) ≠ q28 := vnf kM27 z_q28
  have X : vO S0 D vcl (vup v27 q28 (.inl (dT 0, 512, .inl (fun _ => 0)))) s H locs := X
  refine mv_putF C X ((vup_n _ _ n__ad_50_0__q28).trans kM27) wM 41 hnm p_12_93_13 rfl rfl (Nat.le_of_ble_eq_true rfl) d_MenuScreensModel_init_241 (fun H locs X => ?_)
  have X : vO S0 D vcl (vup (vup v27 q28 (.inl (dT 0, 512, .inl (fun _ => 0)))) (ad 50 0) (.inr (13, [.int 0, .int 0, .int 0, .int 0, .ref q1, .int 0, .ref q2, .int 0, .int 0, .int 0, .int 0, .long 0, .int 0, .ref q3, .ref q4, .ref q5, .ref q6, .ref q7, .ref q8, .ref q9, .int 0, .ref q10, .ref q11, .ref q12, .ref q13, .ref q14, .ref q15, .ref q16, .int 0, .ref q17, .ref q18, .ref q19, .ref q20, .ref q21, .ref q22, .ref q23, .ref q24, .ref q25, .ref q26, .int 0, .ref q27, .ref q28, .null, .null, .null, .int 0, .int 0, .long 0, .int 0, .null, .int 0, .null, .null, .null, .long 0, .int 0, .long 0, .long 0, .null]))) s H locs := X
  obtain ⟨ad28, L28, s28, i28, g28⟩ := mIn_step (k := 41) (e := .inl (dT 0, 512, .inl (fun _ => 0))) y27 I27 z_q28 w_q28 (by show 41 < 59; decide) (fun j a b => (by decide : ∀ j, j < 41 → 41 ≤ j → mAr j = false) j b a) rfl
  have I28 : mIn dT ad28 L28 (ad 50 0) [.int 0, .int 0, .int 0, .int 0, .ref q1, .int 0, .ref q2, .int 0, .int 0, .int 0, .int 0, .long 0, .int 0, .ref q3, .ref q4, .ref q5, .ref q6, .ref q7, .ref q8, .ref q9, .int 0, .ref q10, .ref q11, .ref q12, .ref q13, .ref q14, .ref q15, .ref q16, .int 0, .ref q17, .ref q18, .ref q19, .ref q20, .ref q21, .ref q22, .ref q23, .ref q24, .ref q25, .ref q26, .int 0, .ref q27, .ref q28, .null, .null, .null, .int 0, .int 0, .long 0, .int 0, .null, .int 0, .null, .null, .null, .long 0, .int 0, .long 0, .long 0, .null] 42 := i28
  have G28 : ∀ i, i ≠ 50 → i ≠ 51 → L28 i = L i ∧ ad28 i = ad i := fun i a b => ⟨(g28 i a b).1.trans (G27 i a b).1, (g28 i a b).2.trans (G27 i a b).2⟩
  obtain ⟨v28, ev28⟩ : ∃ z, z = (vup (vup v27 q28 (.inl (dT 0, 512, .inl (fun _ => 0)))) (ad 50 0) (.inr (13, [.int 0, .int 0, .int 0, .int 0, .ref q1, .int 0, .ref q2, .int 0, .int 0, .int 0, .int 0, .long 0, .int 0, .ref q3, .ref q4, .ref q5, .ref q6, .ref q7, .ref q8, .ref q9, .int 0, .ref q10, .ref q11, .ref q12, .ref q13, .ref q14, .ref q15, .ref q16, .int 0, .ref q17, .ref q18, .ref q19, .ref q20, .ref q21, .ref q22, .ref q23, .ref q24, .ref q25, .ref q26, .int 0, .ref q27, .ref q28, .null, .null, .null, .int 0, .int 0, .long 0, .int 0, .null, .int 0, .null, .null, .null, .long 0, .int 0, .long 0, .long 0, .null]))) := ⟨_, rfl⟩
  have X : vO S0 D vcl (vup (vup v27 q28 (.inl (dT 0, 512, .inl (fun _ => 0)))) (ad 50 0) (.inr (13, [.int 0, .int 0, .int 0, .int 0, .ref q1, .int 0, .ref q2, .int 0, .int 0, .int 0, .int 0, .long 0, .int 0, .ref q3, .ref q4, .ref q5, .ref q6, .ref q7, .ref q8, .ref q9, .int 0, .ref q10, .ref q11, .ref q12, .ref q13, .ref q14, .ref q15, .ref q16, .int 0, .ref q17, .ref q18, .ref q19, .ref q20, .ref q21, .ref q22, .ref q23, .ref q24, .ref q25, .ref q26, .int 0, .ref q27, .ref q28, .null, .null, .null, .int 0, .int 0, .long 0, .int 0, .null, .int 0, .null, .null, .null, .long 0, .int 0, .long 0, .long 0, .null]))) s H locs := X
  rw [← ev28] at X
  have y28 : LR S0.heap.size hcv h0 ad L v28 ad28 L28 := by rw [ev28]; exact s28
  clear i28 s28 g28 G27 I27 y27
  have kM28 := y28.1.get (i := 50) (j := 0) I28.1
  rw [I28.2.1] at kM28
  clear ev28
  refine lv_aload_n hx hb d_MenuScreensModel_init_244 rfl (lv_at hl 0 rfl) ?_
  refine lv_sipush (v := 512) hx hb d_MenuScreensModel_init_245 (by decide) ?_
  refine mv_newa C X (gt_1 123 (by decide +kernel) rfl) (ty := .int) rfl 0 rfl 512 (a0 := (512, .inl (fun _ => 0))) (fun _ => rfl) rfl (by decide) (by show 512 * 4 ≤ _; omega) (by show ((((((((((((((((((((((((((((0 + 1) + 1) + 1) + 1) + 1) + 1) + 1) + 1) + 1) + 1) + 1) + 1) + 1) + 1) + 1) + 1) + 1) + 1) + 1) + 1) + 1) + 1) + 1) + 1) + 1) + 1) + 1) + 1) + 1 ≤ 36; omega) (by show ((((((((((((((((((((((((((((0 + 4000) + 4000) + 41) + 41) + 41) + 41) + 41) + 41) + 41) + 31) + 31) + 31) + 31) + 31) + 310) + 310) + 512) + 512) + 512) + 512) + 512) + 512) + 512) + 512) + 512) + 512) + 512) + 512) + 512 ≤ 17391; omega) d_MenuScreensModel_init_248 (fun q29 H z_q29 w_q29 X => ?_)
  have n__ad_50_0__q29 : (ad 50 0) ≠ q29 := vnf kM28 z_q29
  have X : vO S0 D vcl (vup v28 q29 (.inl (dT 0, 512, .inl (fun _ => 0)))) s H locs := X
  refine mv_putF C X ((vup_n _ _ n__ad_50_0__q29).trans kM28) wM 42 hnm p_12_96_13 rfl rfl (Nat.le_of_ble_eq_true rfl) d_MenuScreensModel_init_250 (fun H locs X => ?_)
  have X : vO S0 D vcl (vup (vup v28 q29 (.inl (dT 0, 512, .inl (fun _ => 0)))) (ad 50 0) (.inr (13, [.int 0, .int 0, .int 0, .int 0, .ref q1, .int 0, .ref q2, .int 0, .int 0, .int 0, .int 0, .long 0, .int 0, .ref q3, .ref q4, .ref q5, .ref q6, .ref q7, .ref q8, .ref q9, .int 0, .ref q10, .ref q11, .ref q12, .ref q13, .ref q14, .ref q15, .ref q16, .int 0, .ref q17, .ref q18, .ref q19, .ref q20, .ref q21, .ref q22, .ref q23, .ref q24, .ref q25, .ref q26, .int 0, .ref q27, .ref q28, .ref q29, .null, .null, .int 0, .int 0, .long 0, .int 0, .null, .int 0, .null, .null, .null, .long 0, .int 0, .long 0, .long 0, .null]))) s H locs := X
  obtain ⟨ad29, L29, s29, i29, g29⟩ := mIn_step (k := 42) (e := .inl (dT 0, 512, .inl (fun _ => 0))) y28 I28 z_q29 w_q29 (by show 42 < 59; decide) (fun j a b => (by decide : ∀ j, j < 42 → 42 ≤ j → mAr j = false) j b a) rfl
  have I29 : mIn dT ad29 L29 (ad 50 0) [.int 0, .int 0, .int 0, .int 0, .ref q1, .int 0, .ref q2, .int 0, .int 0, .int 0, .int 0, .long 0, .int 0, .ref q3, .ref q4, .ref q5, .ref q6, .ref q7, .ref q8, .ref q9, .int 0, .ref q10, .ref q11, .ref q12, .ref q13, .ref q14, .ref q15, .ref q16, .int 0, .ref q17, .ref q18, .ref q19, .ref q20, .ref q21, .ref q22, .ref q23, .ref q24, .ref q25, .ref q26, .int 0, .ref q27, .ref q28, .ref q29, .null, .null, .int 0, .int 0, .long 0, .int 0, .null, .int 0, .null, .null, .null, .long 0, .int 0, .long 0, .long 0, .null] 43 := i29
  have G29 : ∀ i, i ≠ 50 → i ≠ 51 → L29 i = L i ∧ ad29 i = ad i := fun i a b => ⟨(g29 i a b).1.trans (G28 i a b).1, (g29 i a b).2.trans (G28 i a b).2⟩
  obtain ⟨v29, ev29⟩ : ∃ z, z = (vup (vup v28 q29 (.inl (dT 0, 512, .inl (fun _ => 0)))) (ad 50 0) (.inr (13, [.int 0, .int 0, .int 0, .int 0, .ref q1, .int 0, .ref q2, .int 0, .int 0, .int 0, .int 0, .long 0, .int 0, .ref q3, .ref q4, .ref q5, .ref q6, .ref q7, .ref q8, .ref q9, .int 0, .ref q10, .ref q11, .ref q12, .ref q13, .ref q14, .ref q15, .ref q16, .int 0, .ref q17, .ref q18, .ref q19, .ref q20, .ref q21, .ref q22, .ref q23, .ref q24, .ref q25, .ref q26, .int 0, .ref q27, .ref q28, .ref q29, .null, .null, .int 0, .int 0, .long 0, .int 0, .null, .int 0, .null, .null, .null, .long 0, .int 0, .long 0, .long 0, .null]))) := ⟨_, rfl⟩
  have X : vO S0 D vcl (vup (vup v28 q29 (.inl (dT 0, 512, .inl (fun _ => 0)))) (ad 50 0) (.inr (13, [.int 0, .int 0, .int 0, .int 0, .ref q1, .int 0, .ref q2, .int 0, .int 0, .int 0, .int 0, .long 0, .int 0, .ref q3, .ref q4, .ref q5, .ref q6, .ref q7, .ref q8, .ref q9, .int 0, .ref q10, .ref q11, .ref q12, .ref q13, .ref q14, .ref q15, .ref q16, .int 0, .ref q17, .ref q18, .ref q19, .ref q20, .ref q21, .ref q22, .ref q23, .ref q24, .ref q25, .ref q26, .int 0, .ref q27, .ref q28, .ref q29, .null, .null, .int 0, .int 0, .long 0, .int 0, .null, .int 0, .null, .null, .null, .long 0, .int 0, .long 0, .long 0, .null]))) s H locs := X
  rw [← ev29] at X
  have y29 : LR S0.heap.size hcv h0 ad L v29 ad29 L29 := by rw [ev29]; exact s29
  clear i29 s29 g29 G28 I28 y28
  have kM29 := y29.1.get (i := 50) (j := 0) I29.1
  rw [I29.2.1] at kM29
  clear ev29
  refine lv_aload_n hx hb d_MenuScreensModel_init_253 rfl (lv_at hl 0 rfl) ?_
  refine lv_sipush (v := 512) hx hb d_MenuScreensModel_init_254 (by decide) ?_
  refine mv_newa C X (gt_1 123 (by decide +kernel) rfl) (ty := .int) rfl 0 rfl 512 (a0 := (512, .inl (fun _ => 0))) (fun _ => rfl) rfl (by decide) (by show 512 * 4 ≤ _; omega) (by show (((((((((((((((((((((((((((((0 + 1) + 1) + 1) + 1) + 1) + 1) + 1) + 1) + 1) + 1) + 1) + 1) + 1) + 1) + 1) + 1) + 1) + 1) + 1) + 1) + 1) + 1) + 1) + 1) + 1) + 1) + 1) + 1) + 1) + 1 ≤ 36; omega) (by show (((((((((((((((((((((((((((((0 + 4000) + 4000) + 41) + 41) + 41) + 41) + 41) + 41) + 41) + 31) + 31) + 31) + 31) + 31) + 310) + 310) + 512) + 512) + 512) + 512) + 512) + 512) + 512) + 512) + 512) + 512) + 512) + 512) + 512) + 512 ≤ 17391; omega) d_MenuScreensModel_init_257 (fun q30 H z_q30 w_q30 X => ?_)
  have n__ad_50_0__q30 : (ad 50 0) ≠ q30 := vnf kM29 z_q30
  have X : vO S0 D vcl (vup v29 q30 (.inl (dT 0, 512, .inl (fun _ => 0)))) s H locs := X
  refine mv_putF C X ((vup_n _ _ n__ad_50_0__q30).trans kM29) wM 43 hnm p_12_99_13 rfl rfl (Nat.le_of_ble_eq_true rfl) d_MenuScreensModel_init_259 (fun H locs X => ?_)
  have X : vO S0 D vcl (vup (vup v29 q30 (.inl (dT 0, 512, .inl (fun _ => 0)))) (ad 50 0) (.inr (13, [.int 0, .int 0, .int 0, .int 0, .ref q1, .int 0, .ref q2, .int 0, .int 0, .int 0, .int 0, .long 0, .int 0, .ref q3, .ref q4, .ref q5, .ref q6, .ref q7, .ref q8, .ref q9, .int 0, .ref q10, .ref q11, .ref q12, .ref q13, .ref q14, .ref q15, .ref q16, .int 0, .ref q17, .ref q18, .ref q19, .ref q20, .ref q21, .ref q22, .ref q23, .ref q24, .ref q25, .ref q26, .int 0, .ref q27, .ref q28, .ref q29, .ref q30, .null, .int 0, .int 0, .long 0, .int 0, .null, .int 0, .null, .null, .null, .long 0, .int 0, .long 0, .long 0, .null]))) s H locs := X
  obtain ⟨ad30, L30, s30, i30, g30⟩ := mIn_step (k := 43) (e := .inl (dT 0, 512, .inl (fun _ => 0))) y29 I29 z_q30 w_q30 (by show 43 < 59; decide) (fun j a b => (by decide : ∀ j, j < 43 → 43 ≤ j → mAr j = false) j b a) rfl
  have I30 : mIn dT ad30 L30 (ad 50 0) [.int 0, .int 0, .int 0, .int 0, .ref q1, .int 0, .ref q2, .int 0, .int 0, .int 0, .int 0, .long 0, .int 0, .ref q3, .ref q4, .ref q5, .ref q6, .ref q7, .ref q8, .ref q9, .int 0, .ref q10, .ref q11, .ref q12, .ref q13, .ref q14, .ref q15, .ref q16, .int 0, .ref q17, .ref q18, .ref q19, .ref q20, .ref q21, .ref q22, .ref q23, .ref q24, .ref q25, .ref q26, .int 0, .ref q27, .ref q28, .ref q29, .ref q30, .null, .int 0, .int 0, .long 0, .int 0, .null, .int 0, .null, .null, .null, .long 0, .int 0, .long 0, .long 0, .null] 44 := i30
  have G30 : ∀ i, i ≠ 50 → i ≠ 51 → L30 i = L i ∧ ad30 i = ad i := fun i a b => ⟨(g30 i a b).1.trans (G29 i a b).1, (g30 i a b).2.trans (G29 i a b).2⟩
  obtain ⟨v30, ev30⟩ : ∃ z, z = (vup (vup v29 q30 (.inl (dT 0, 512, .inl (fun _ => 0)))) (ad 50 0) (.inr (13, [.int 0, .int 0, .int 0, .int 0, .ref q1, .int 0, .ref q2, .int 0, .int 0, .int 0, .int 0, .long 0, .int 0, .ref q3, .ref q4, .ref q5, .ref q6, .ref q7, .ref q8, .ref q9, .int 0, .ref q10, .ref q11, .ref q12, .ref q13, .ref q14, .ref q15, .ref q16, .int 0, .ref q17, .ref q18, .ref q19, .ref q20, .ref q21, .ref q22, .ref q23, .ref q24, .ref q25, .ref q26, .int 0, .ref q27, .ref q28, .ref q29, .ref q30, .null, .int 0, .int 0, .long 0, .int 0, .null, .int 0, .null, .null, .null, .long 0, .int 0, .long 0, .long 0, .null]))) := ⟨_, rfl⟩
  have X : vO S0 D vcl (vup (vup v29 q30 (.inl (dT 0, 512, .inl (fun _ => 0)))) (ad 50 0) (.inr (13, [.int 0, .int 0, .int 0, .int 0, .ref q1, .int 0, .ref q2, .int 0, .int 0, .int 0, .int 0, .long 0, .int 0, .ref q3, .ref q4, .ref q5, .ref q6, .ref q7, .ref q8, .ref q9, .int 0, .ref q10, .ref q11, .ref q12, .ref q13, .ref q14, .ref q15, .ref q16, .int 0, .ref q17, .ref q18, .ref q19, .ref q20, .ref q21, .ref q22, .ref q23, .ref q24, .ref q25, .ref q26, .int 0, .ref q27, .ref q28, .ref q29, .ref q30, .null, .int 0, .int 0, .long 0, .int 0, .null, .int 0, .null, .null, .null, .long 0, .int 0, .long 0, .long 0, .null]))) s H locs := X
  rw [← ev30] at X
  have y30 : LR S0.heap.size hcv h0 ad L v30 ad30 L30 := by rw [ev30]; exact s30
  clear i30 s30 g30 G29 I29 y29
  have kM30 := y30.1.get (i := 50) (j := 0) I30.1
  rw [I30.2.1] at kM30
  clear ev30
  refine lv_aload_n hx hb d_MenuScreensModel_init_262 rfl (lv_at hl 0 rfl) ?_
  refine lv_sipush (v := 512) hx hb d_MenuScreensModel_init_263 (by decide) ?_
  refine mv_newa C X (gt_1 183 (by decide +kernel) rfl) (ty := .long) rfl 1 rfl 512 (a0 := (512, .inr (.inl (fun _ => 0)))) (fun _ => rfl) rfl (by decide) (by show 512 * 8 ≤ _; omega) (by show ((((((((((((((((((((((((((((((0 + 1) + 1) + 1) + 1) + 1) + 1) + 1) + 1) + 1) + 1) + 1) + 1) + 1) + 1) + 1) + 1) + 1) + 1) + 1) + 1) + 1) + 1) + 1) + 1) + 1) + 1) + 1) + 1) + 1) + 1) + 1 ≤ 36; omega) (by show ((((((((((((((((((((((((((((((0 + 4000) + 4000) + 41) + 41) + 41) + 41) + 41) + 41) + 41) + 31) + 31) + 31) + 31) + 31) + 310) + 310) + 512) + 512) + 512) + 512) + 512) + 512) + 512) + 512) + 512) + 512) + 512) + 512) + 512) + 512) + 512 ≤ 17391; omega) d_MenuScreensModel_init_266 (fun q31 H z_q31 w_q31 X => ?_)
  have n__ad_50_0__q31 : (ad 50 0) ≠ q31 := vnf kM30 z_q31
  have X : vO S0 D vcl (vup v30 q31 (.inl (dT 1, 512, .inr (.inl (fun _ => 0))))) s H locs := X
  refine mv_putF C X ((vup_n _ _ n__ad_50_0__q31).trans kM30) wM 44 hnm p_12_102_13 rfl rfl (Nat.le_of_ble_eq_true rfl) d_MenuScreensModel_init_268 (fun H locs X => ?_)
  have X : vO S0 D vcl (vup (vup v30 q31 (.inl (dT 1, 512, .inr (.inl (fun _ => 0))))) (ad 50 0) (.inr (13, [.int 0, .int 0, .int 0, .int 0, .ref q1, .int 0, .ref q2, .int 0, .int 0, .int 0, .int 0, .long 0, .int 0, .ref q3, .ref q4, .ref q5, .ref q6, .ref q7, .ref q8, .ref q9, .int 0, .ref q10, .ref q11, .ref q12, .ref q13, .ref q14, .ref q15, .ref q16, .int 0, .ref q17, .ref q18, .ref q19, .ref q20, .ref q21, .ref q22, .ref q23, .ref q24, .ref q25, .ref q26, .int 0, .ref q27, .ref q28, .ref q29, .ref q30, .ref q31, .int 0, .int 0, .long 0, .int 0, .null, .int 0, .null, .null, .null, .long 0, .int 0, .long 0, .long 0, .null]))) s H locs := X
  obtain ⟨ad31, L31, s31, i31, g31⟩ := mIn_step (k := 44) (e := .inl (dT 1, 512, .inr (.inl (fun _ => 0)))) y30 I30 z_q31 w_q31 (by show 44 < 59; decide) (fun j a b => (by decide : ∀ j, j < 44 → 44 ≤ j → mAr j = false) j b a) rfl
  have I31 : mIn dT ad31 L31 (ad 50 0) [.int 0, .int 0, .int 0, .int 0, .ref q1, .int 0, .ref q2, .int 0, .int 0, .int 0, .int 0, .long 0, .int 0, .ref q3, .ref q4, .ref q5, .ref q6, .ref q7, .ref q8, .ref q9, .int 0, .ref q10, .ref q11, .ref q12, .ref q13, .ref q14, .ref q15, .ref q16, .int 0, .ref q17, .ref q18, .ref q19, .ref q20, .ref q21, .ref q22, .ref q23, .ref q24, .ref q25, .ref q26, .int 0, .ref q27, .ref q28, .ref q29, .ref q30, .ref q31, .int 0, .int 0, .long 0, .int 0, .null, .int 0, .null, .null, .null, .long 0, .int 0, .long 0, .long 0, .null] 45 := i31
  have G31 : ∀ i, i ≠ 50 → i ≠ 51 → L31 i = L i ∧ ad31 i = ad i := fun i a b => ⟨(g31 i a b).1.trans (G30 i a b).1, (g31 i a b).2.trans (G30 i a b).2⟩
  obtain ⟨v31, ev31⟩ : ∃ z, z = (vup (vup v30 q31 (.inl (dT 1, 512, .inr (.inl (fun _ => 0))))) (ad 50 0) (.inr (13, [.int 0, .int 0, .int 0, .int 0, .ref q1, .int 0, .ref q2, .int 0, .int 0, .int 0, .int 0, .long 0, .int 0, .ref q3, .ref q4, .ref q5, .ref q6, .ref q7, .ref q8, .ref q9, .int 0, .ref q10, .ref q11, .ref q12, .ref q13, .ref q14, .ref q15, .ref q16, .int 0, .ref q17, .ref q18, .ref q19, .ref q20, .ref q21, .ref q22, .ref q23, .ref q24, .ref q25, .ref q26, .int 0, .ref q27, .ref q28, .ref q29, .ref q30, .ref q31, .int 0, .int 0, .long 0, .int 0, .null, .int 0, .null, .null, .null, .long 0, .int 0, .long 0, .long 0, .null]))) := ⟨_, rfl⟩
  have X : vO S0 D vcl (vup (vup v30 q31 (.inl (dT 1, 512, .inr (.inl (fun _ => 0))))) (ad 50 0) (.inr (13, [.int 0, .int 0, .int 0, .int 0, .ref q1, .int 0, .ref q2, .int 0, .int 0, .int 0, .int 0, .long 0, .int 0, .ref q3, .ref q4, .ref q5, .ref q6, .ref q7, .ref q8, .ref q9, .int 0, .ref q10, .ref q11, .ref q12, .ref q13, .ref q14, .ref q15, .ref q16, .int 0, .ref q17, .ref q18, .ref q19, .ref q20, .ref q21, .ref q22, .ref q23, .ref q24, .ref q25, .ref q26, .int 0, .ref q27, .ref q28, .ref q29, .ref q30, .ref q31, .int 0, .int 0, .long 0, .int 0, .null, .int 0, .null, .null, .null, .long 0, .int 0, .long 0, .long 0, .null]))) s H locs := X
  rw [← ev31] at X
  have y31 : LR S0.heap.size hcv h0 ad L v31 ad31 L31 := by rw [ev31]; exact s31
  clear i31 s31 g31 G30 I30 y30
  have kM31 := y31.1.get (i := 50) (j := 0) I31.1
  rw [I31.2.1] at kM31
  clear ev31
  refine lv_aload_n hx hb d_MenuScreensModel_init_271 rfl (lv_at hl 0 rfl) ?_
  refine lv_bipush (v := 30) hx hb d_MenuScreensModel_init_272 (by decide) ?_
  refine mv_newa C X (gt_1 123 (by decide +kernel) rfl) (ty := .int) rfl 0 rfl 30 (a0 := (30, .inl (fun _ => 0))) (fun _ => rfl) rfl (by decide) (by show 30 * 4 ≤ _; omega) (by show (((((((((((((((((((((((((((((((0 + 1) + 1) + 1) + 1) + 1) + 1) + 1) + 1) + 1) + 1) + 1) + 1) + 1) + 1) + 1) + 1) + 1) + 1) + 1) + 1) + 1) + 1) + 1) + 1) + 1) + 1) + 1) + 1) + 1) + 1) + 1) + 1 ≤ 36; omega) (by show (((((((((((((((((((((((((((((((0 + 4000) + 4000) + 41) + 41) + 41) + 41) + 41) + 41) + 41) + 31) + 31) + 31) + 31) + 31) + 310) + 310) + 512) + 512) + 512) + 512) + 512) + 512) + 512) + 512) + 512) + 512) + 512) + 512) + 512) + 512) + 512) + 30 ≤ 17391; omega) d_MenuScreensModel_init_274 (fun q32 H z_q32 w_q32 X => ?_)
  have n__ad_50_0__q32 : (ad 50 0) ≠ q32 := vnf kM31 z_q32
  have X : vO S0 D vcl (vup v31 q32 (.inl (dT 0, 30, .inl (fun _ => 0)))) s H locs := X
  refine mv_putF C X ((vup_n _ _ n__ad_50_0__q32).trans kM31) wM 49 hnm p_12_105_13 rfl rfl (Nat.le_of_ble_eq_true rfl) d_MenuScreensModel_init_276 (fun H locs X => ?_)
  have X : vO S0 D vcl (vup (vup v31 q32 (.inl (dT 0, 30, .inl (fun _ => 0)))) (ad 50 0) (.inr (13, [.int 0, .int 0, .int 0, .int 0, .ref q1, .int 0, .ref q2, .int 0, .int 0, .int 0, .int 0, .long 0, .int 0, .ref q3, .ref q4, .ref q5, .ref q6, .ref q7, .ref q8, .ref q9, .int 0, .ref q10, .ref q11, .ref q12, .ref q13, .ref q14, .ref q15, .ref q16, .int 0, .ref q17, .ref q18, .ref q19, .ref q20, .ref q21, .ref q22, .ref q23, .ref q24, .ref q25, .ref q26, .int 0, .ref q27, .ref q28, .ref q29, .ref q30, .ref q31, .int 0, .int 0, .long 0, .int 0, .ref q32, .int 0, .null, .null, .null, .long 0, .int 0, .long 0, .long 0, .null]))) s H locs := X
  obtain ⟨ad32, L32, s32, i32, g32⟩ := mIn_step (k := 49) (e := .inl (dT 0, 30, .inl (fun _ => 0))) y31 I31 z_q32 w_q32 (by show 49 < 59; decide) (fun j a b => (by decide : ∀ j, j < 49 → 45 ≤ j → mAr j = false) j b a) rfl
  have I32 : mIn dT ad32 L32 (ad 50 0) [.int 0, .int 0, .int 0, .int 0, .ref q1, .int 0, .ref q2, .int 0, .int 0, .int 0, .int 0, .long 0, .int 0, .ref q3, .ref q4, .ref q5, .ref q6, .ref q7, .ref q8, .ref q9, .int 0, .ref q10, .ref q11, .ref q12, .ref q13, .ref q14, .ref q15, .ref q16, .int 0, .ref q17, .ref q18, .ref q19, .ref q20, .ref q21, .ref q22, .ref q23, .ref q24, .ref q25, .ref q26, .int 0, .ref q27, .ref q28, .ref q29, .ref q30, .ref q31, .int 0, .int 0, .long 0, .int 0, .ref q32, .int 0, .null, .null, .null, .long 0, .int 0, .long 0, .long 0, .null] 50 := i32
  have G32 : ∀ i, i ≠ 50 → i ≠ 51 → L32 i = L i ∧ ad32 i = ad i := fun i a b => ⟨(g32 i a b).1.trans (G31 i a b).1, (g32 i a b).2.trans (G31 i a b).2⟩
  obtain ⟨v32, ev32⟩ : ∃ z, z = (vup (vup v31 q32 (.inl (dT 0, 30, .inl (fun _ => 0)))) (ad 50 0) (.inr (13, [.int 0, .int 0, .int 0, .int 0, .ref q1, .int 0, .ref q2, .int 0, .int 0, .int 0, .int 0, .long 0, .int 0, .ref q3, .ref q4, .ref q5, .ref q6, .ref q7, .ref q8, .ref q9, .int 0, .ref q10, .ref q11, .ref q12, .ref q13, .ref q14, .ref q15, .ref q16, .int 0, .ref q17, .ref q18, .ref q19, .ref q20, .ref q21, .ref q22, .ref q23, .ref q24, .ref q25, .ref q26, .int 0, .ref q27, .ref q28, .ref q29, .ref q30, .ref q31, .int 0, .int 0, .long 0, .int 0, .ref q32, .int 0, .null, .null, .null, .long 0, .int 0, .long 0, .long 0, .null]))) := ⟨_, rfl⟩
  have X : vO S0 D vcl (vup (vup v31 q32 (.inl (dT 0, 30, .inl (fun _ => 0)))) (ad 50 0) (.inr (13, [.int 0, .int 0, .int 0, .int 0, .ref q1, .int 0, .ref q2, .int 0, .int 0, .int 0, .int 0, .long 0, .int 0, .ref q3, .ref q4, .ref q5, .ref q6, .ref q7, .ref q8, .ref q9, .int 0, .ref q10, .ref q11, .ref q12, .ref q13, .ref q14, .ref q15, .ref q16, .int 0, .ref q17, .ref q18, .ref q19, .ref q20, .ref q21, .ref q22, .ref q23, .ref q24, .ref q25, .ref q26, .int 0, .ref q27, .ref q28, .ref q29, .ref q30, .ref q31, .int 0, .int 0, .long 0, .int 0, .ref q32, .int 0, .null, .null, .null, .long 0, .int 0, .long 0, .long 0, .null]))) s H locs := X
  rw [← ev32] at X
  have y32 : LR S0.heap.size hcv h0 ad L v32 ad32 L32 := by rw [ev32]; exact s32
  clear i32 s32 g32 G31 I31 y31
  have kM32 := y32.1.get (i := 50) (j := 0) I32.1
  rw [I32.2.1] at kM32
  clear ev32
  refine lv_aload_n hx hb d_MenuScreensModel_init_279 rfl (lv_at hl 0 rfl) ?_
  refine lv_sipush (v := 201) hx hb d_MenuScreensModel_init_280 (by decide) ?_
  refine mv_newa C X (gt_1 123 (by decide +kernel) rfl) (ty := .int) rfl 0 rfl 201 (a0 := (201, .inl (fun _ => 0))) (fun _ => rfl) rfl (by decide) (by show 201 * 4 ≤ _; omega) (by show ((((((((((((((((((((((((((((((((0 + 1) + 1) + 1) + 1) + 1) + 1) + 1) + 1) + 1) + 1) + 1) + 1) + 1) + 1) + 1) + 1) + 1) + 1) + 1) + 1) + 1) + 1) + 1) + 1) + 1) + 1) + 1) + 1) + 1) + 1) + 1) + 1) + 1 ≤ 36; omega) (by show ((((((((((((((((((((((((((((((((0 + 4000) + 4000) + 41) + 41) + 41) + 41) + 41) + 41) + 41) + 31) + 31) + 31) + 31) + 31) + 310) + 310) + 512) + 512) + 512) + 512) + 512) + 512) + 512) + 512) + 512) + 512) + 512) + 512) + 512) + 512) + 512) + 30) + 201 ≤ 17391; omega) d_MenuScreensModel_init_283 (fun q33 H z_q33 w_q33 X => ?_)
  have n__ad_50_0__q33 : (ad 50 0) ≠ q33 := vnf kM32 z_q33
  have X : vO S0 D vcl (vup v32 q33 (.inl (dT 0, 201, .inl (fun _ => 0)))) s H locs := X
  refine mv_putF C X ((vup_n _ _ n__ad_50_0__q33).trans kM32) wM 51 hnm p_12_108_13 rfl rfl (Nat.le_of_ble_eq_true rfl) d_MenuScreensModel_init_285 (fun H locs X => ?_)
  have X : vO S0 D vcl (vup (vup v32 q33 (.inl (dT 0, 201, .inl (fun _ => 0)))) (ad 50 0) (.inr (13, [.int 0, .int 0, .int 0, .int 0, .ref q1, .int 0, .ref q2, .int 0, .int 0, .int 0, .int 0, .long 0, .int 0, .ref q3, .ref q4, .ref q5, .ref q6, .ref q7, .ref q8, .ref q9, .int 0, .ref q10, .ref q11, .ref q12, .ref q13, .ref q14, .ref q15, .ref q16, .int 0, .ref q17, .ref q18, .ref q19, .ref q20, .ref q21, .ref q22, .ref q23, .ref q24, .ref q25, .ref q26, .int 0, .ref q27, .ref q28, .ref q29, .ref q30, .ref q31, .int 0, .int 0, .long 0, .int 0, .ref q32, .int 0, .ref q33, .null, .null, .long 0, .int 0, .long 0, .long 0, .null]))) s H locs := X
  obtain ⟨ad33, L33, s33, i33, g33⟩ := mIn_step (k := 51) (e := .inl (dT 0, 201, .inl (fun _ => 0))) y32 I32 z_q33 w_q33 (by show 51 < 59; decide) (fun j a b => (by decide : ∀ j, j < 51 → 50 ≤ j → mAr j = false) j b a) rfl
  have I33 : mIn dT ad33 L33 (ad 50 0) [.int 0, .int 0, .int 0, .int 0, .ref q1, .int 0, .ref q2, .int 0, .int 0, .int 0, .int 0, .long 0, .int 0, .ref q3, .ref q4, .ref q5, .ref q6, .ref q7, .ref q8, .ref q9, .int 0, .ref q10, .ref q11, .ref q12, .ref q13, .ref q14, .ref q15, .ref q16, .int 0, .ref q17, .ref q18, .ref q19, .ref q20, .ref q21, .ref q22, .ref q23, .ref q24, .ref q25, .ref q26, .int 0, .ref q27, .ref q28, .ref q29, .ref q30, .ref q31, .int 0, .int 0, .long 0, .int 0, .ref q32, .int 0, .ref q33, .null, .null, .long 0, .int 0, .long 0, .long 0, .null] 52 := i33
  have G33 : ∀ i, i ≠ 50 → i ≠ 51 → L33 i = L i ∧ ad33 i = ad i := fun i a b => ⟨(g33 i a b).1.trans (G32 i a b).1, (g33 i a b).2.trans (G32 i a b).2⟩
  obtain ⟨v33, ev33⟩ : ∃ z, z = (vup (vup v32 q33 (.inl (dT 0, 201, .inl (fun _ => 0)))) (ad 50 0) (.inr (13, [.int 0, .int 0, .int 0, .int 0, .ref q1, .int 0, .ref q2, .int 0, .int 0, .int 0, .int 0, .long 0, .int 0, .ref q3, .ref q4, .ref q5, .ref q6, .ref q7, .ref q8, .ref q9, .int 0, .ref q10, .ref q11, .ref q12, .ref q13, .ref q14, .ref q15, .ref q16, .int 0, .ref q17, .ref q18, .ref q19, .ref q20, .ref q21, .ref q22, .ref q23, .ref q24, .ref q25, .ref q26, .int 0, .ref q27, .ref q28, .ref q29, .ref q30, .ref q31, .int 0, .int 0, .long 0, .int 0, .ref q32, .int 0, .ref q33, .null, .null, .long 0, .int 0, .long 0, .long 0, .null]))) := ⟨_, rfl⟩
  have X : vO S0 D vcl (vup (vup v32 q33 (.inl (dT 0, 201, .inl (fun _ => 0)))) (ad 50 0) (.inr (13, [.int 0, .int 0, .int 0, .int 0, .ref q1, .int 0, .ref q2, .int 0, .int 0, .int 0, .int 0, .long 0, .int 0, .ref q3, .ref q4, .ref q5, .ref q6, .ref q7, .ref q8, .ref q9, .int 0, .ref q10, .ref q11, .ref q12, .ref q13, .ref q14, .ref q15, .ref q16, .int 0, .ref q17, .ref q18, .ref q19, .ref q20, .ref q21, .ref q22, .ref q23, .ref q24, .ref q25, .ref q26, .int 0, .ref q27, .ref q28, .ref q29, .ref q30, .ref q31, .int 0, .int 0, .long 0, .int 0, .ref q32, .int 0, .ref q33, .null, .null, .long 0, .int 0, .long 0, .long 0, .null]))) s H locs := X
  rw [← ev33] at X
  have y33 : LR S0.heap.size hcv h0 ad L v33 ad33 L33 := by rw [ev33]; exact s33
  clear i33 s33 g33 G32 I32 y32
  have kM33 := y33.1.get (i := 50) (j := 0) I33.1
  rw [I33.2.1] at kM33
  clear ev33
  refine lv_aload_n hx hb d_MenuScreensModel_init_288 rfl (lv_at hl 0 rfl) ?_
  refine lv_sipush (v := 201) hx hb d_MenuScreensModel_init_289 (by decide) ?_
  refine mv_newa C X (gt_1 183 (by decide +kernel) rfl) (ty := .long) rfl 1 rfl 201 (a0 := (201, .inr (.inl (fun _ => 0)))) (fun _ => rfl) rfl (by decide) (by show 201 * 8 ≤ _; omega) (by show (((((((((((((((((((((((((((((((((0 + 1) + 1) + 1) + 1) + 1) + 1) + 1) + 1) + 1) + 1) + 1) + 1) + 1) + 1) + 1) + 1) + 1) + 1) + 1) + 1) + 1) + 1) + 1) + 1) + 1) + 1) + 1) + 1) + 1) + 1) + 1) + 1) + 1) + 1 ≤ 36; omega) (by show (((((((((((((((((((((((((((((((((0 + 4000) + 4000) + 41) + 41) + 41) + 41) + 41) + 41) + 41) + 31) + 31) + 31) + 31) + 31) + 310) + 310) + 512) + 512) + 512) + 512) + 512) + 512) + 512) + 512) + 512) + 512) + 512) + 512) + 512) + 512) + 512) + 30) + 201) + 201 ≤ 17391; omega) d_MenuScreensModel_init_292 (fun q34 H z_q34 w_q34 X => ?_)
  have n__ad_50_0__q34 : (ad 50 0) ≠ q34 := vnf kM33 z_q34
  have X : vO S0 D vcl (vup v33 q34 (.inl (dT 1, 201, .inr (.inl (fun _ => 0))))) s H locs := X
  refine mv_putF C X ((vup_n _ _ n__ad_50_0__q34).trans kM33) wM 52 hnm p_12_111_13 rfl rfl (Nat.le_of_ble_eq_true rfl) d_MenuScreensModel_init_294 (fun H locs X => ?_)
  have X : vO S0 D vcl (vup (vup v33 q34 (.inl (dT 1, 201, .inr (.inl (fun _ => 0))))) (ad 50 0) (.inr (13, [.int 0, .int 0, .int 0, .int 0, .ref q1, .int 0, .ref q2, .int 0, .int 0, .int 0, .int 0, .long 0, .int 0, .ref q3, .ref q4, .ref q5, .ref q6, .ref q7, .ref q8, .ref q9, .int 0, .ref q10, .ref q11, .ref q12, .ref q13, .ref q14, .ref q15, .ref q16, .int 0, .ref q17, .ref q18, .ref q19, .ref q20, .ref q21, .ref q22, .ref q23, .ref q24, .ref q25, .ref q26, .int 0, .ref q27, .ref q28, .ref q29, .ref q30, .ref q31, .int 0, .int 0, .long 0, .int 0, .ref q32, .int 0, .ref q33, .ref q34, .null, .long 0, .int 0, .long 0, .long 0, .null]))) s H locs := X
  obtain ⟨ad34, L34, s34, i34, g34⟩ := mIn_step (k := 52) (e := .inl (dT 1, 201, .inr (.inl (fun _ => 0)))) y33 I33 z_q34 w_q34 (by show 52 < 59; decide) (fun j a b => (by decide : ∀ j, j < 52 → 52 ≤ j → mAr j = false) j b a) rfl
  have I34 : mIn dT ad34 L34 (ad 50 0) [.int 0, .int 0, .int 0, .int 0, .ref q1, .int 0, .ref q2, .int 0, .int 0, .int 0, .int 0, .long 0, .int 0, .ref q3, .ref q4, .ref q5, .ref q6, .ref q7, .ref q8, .ref q9, .int 0, .ref q10, .ref q11, .ref q12, .ref q13, .ref q14, .ref q15, .ref q16, .int 0, .ref q17, .ref q18, .ref q19, .ref q20, .ref q21, .ref q22, .ref q23, .ref q24, .ref q25, .ref q26, .int 0, .ref q27, .ref q28, .ref q29, .ref q30, .ref q31, .int 0, .int 0, .long 0, .int 0, .ref q32, .int 0, .ref q33, .ref q34, .null, .long 0, .int 0, .long 0, .long 0, .null] 53 := i34
  have G34 : ∀ i, i ≠ 50 → i ≠ 51 → L34 i = L i ∧ ad34 i = ad i := fun i a b => ⟨(g34 i a b).1.trans (G33 i a b).1, (g34 i a b).2.trans (G33 i a b).2⟩
  obtain ⟨v34, ev34⟩ : ∃ z, z = (vup (vup v33 q34 (.inl (dT 1, 201, .inr (.inl (fun _ => 0))))) (ad 50 0) (.inr (13, [.int 0, .int 0, .int 0, .int 0, .ref q1, .int 0, .ref q2, .int 0, .int 0, .int 0, .int 0, .long 0, .int 0, .ref q3, .ref q4, .ref q5, .ref q6, .ref q7, .ref q8, .ref q9, .int 0, .ref q10, .ref q11, .ref q12, .ref q13, .ref q14, .ref q15, .ref q16, .int 0, .ref q17, .ref q18, .ref q19, .ref q20, .ref q21, .ref q22, .ref q23, .ref q24, .ref q25, .ref q26, .int 0, .ref q27, .ref q28, .ref q29, .ref q30, .ref q31, .int 0, .int 0, .long 0, .int 0, .ref q32, .int 0, .ref q33, .ref q34, .null, .long 0, .int 0, .long 0, .long 0, .null]))) := ⟨_, rfl⟩
  have X : vO S0 D vcl (vup (vup v33 q34 (.inl (dT 1, 201, .inr (.inl (fun _ => 0))))) (ad 50 0) (.inr (13, [.int 0, .int 0, .int 0, .int 0, .ref q1, .int 0, .ref q2, .int 0, .int 0, .int 0, .int 0, .long 0, .int 0, .ref q3, .ref q4, .ref q5, .ref q6, .ref q7, .ref q8, .ref q9, .int 0, .ref q10, .ref q11, .ref q12, .ref q13, .ref q14, .ref q15, .ref q16, .int 0, .ref q17, .ref q18, .ref q19, .ref q20, .ref q21, .ref q22, .ref q23, .ref q24, .ref q25, .ref q26, .int 0, .ref q27, .ref q28, .ref q29, .ref q30, .ref q31, .int 0, .int 0, .long 0, .int 0, .ref q32, .int 0, .ref q33, .ref q34, .null, .long 0, .int 0, .long 0, .long 0, .null]))) s H locs := X
  rw [← ev34] at X
  have y34 : LR S0.heap.size hcv h0 ad L v34 ad34 L34 := by rw [ev34]; exact s34
  clear i34 s34 g34 G33 I33 y33
  have kM34 := y34.1.get (i := 50) (j := 0) I34.1
  rw [I34.2.1] at kM34
  clear ev34
  refine lv_aload_n hx hb d_MenuScreensModel_init_297 rfl (lv_at hl 0 rfl) ?_
  refine lv_sipush (v := 201) hx hb d_MenuScreensModel_init_298 (by decide) ?_
  refine mv_newa C X (gt_5 207 (by decide +kernel) rfl) (ty := .boolean) rfl 3 rfl 201 (a0 := (201, .inl (fun _ => 0))) (fun _ => rfl) rfl (by decide) (by show 201 * 1 ≤ _; omega) (by show ((((((((((((((((((((((((((((((((((0 + 1) + 1) + 1) + 1) + 1) + 1) + 1) + 1) + 1) + 1) + 1) + 1) + 1) + 1) + 1) + 1) + 1) + 1) + 1) + 1) + 1) + 1) + 1) + 1) + 1) + 1) + 1) + 1) + 1) + 1) + 1) + 1) + 1) + 1) + 1 ≤ 36; omega) (by show ((((((((((((((((((((((((((((((((((0 + 4000) + 4000) + 41) + 41) + 41) + 41) + 41) + 41) + 41) + 31) + 31) + 31) + 31) + 31) + 310) + 310) + 512) + 512) + 512) + 512) + 512) + 512) + 512) + 512) + 512) + 512) + 512) + 512) + 512) + 512) + 512) + 30) + 201) + 201) + 201 ≤ 17391; omega) d_MenuScreensModel_init_301 (fun q35 H z_q35 w_q35 X => ?_)
  have n__ad_50_0__q35 : (ad 50 0) ≠ q35 := vnf kM34 z_q35
  have X : vO S0 D vcl (vup v34 q35 (.inl (dT 3, 201, .inl (fun _ => 0)))) s H locs := X
  refine mv_putF C X ((vup_n _ _ n__ad_50_0__q35).trans kM34) wM 53 hnm p_12_114_13 rfl rfl (Nat.le_of_ble_eq_true rfl) d_MenuScreensModel_init_303 (fun H locs X => ?_)
  have X : vO S0 D vcl (vup (vup v34 q35 (.inl (dT 3, 201, .inl (fun _ => 0)))) (ad 50 0) (.inr (13, [.int 0, .int 0, .int 0, .int 0, .ref q1, .int 0, .ref q2, .int 0, .int 0, .int 0, .int 0, .long 0, .int 0, .ref q3, .ref q4, .ref q5, .ref q6, .ref q7, .ref q8, .ref q9, .int 0, .ref q10, .ref q11, .ref q12, .ref q13, .ref q14, .ref q15, .ref q16, .int 0, .ref q17, .ref q18, .ref q19, .ref q20, .ref q21, .ref q22, .ref q23, .ref q24, .ref q25, .ref q26, .int 0, .ref q27, .ref q28, .ref q29, .ref q30, .ref q31, .int 0, .int 0, .long 0, .int 0, .ref q32, .int 0, .ref q33, .ref q34, .ref q35, .long 0, .int 0, .long 0, .long 0, .null]))) s H locs := X
  obtain ⟨ad35, L35, s35, i35, g35⟩ := mIn_step (k := 53) (e := .inl (dT 3, 201, .inl (fun _ => 0))) y34 I34 z_q35 w_q35 (by show 53 < 59; decide) (fun j a b => (by decide : ∀ j, j < 53 → 53 ≤ j → mAr j = false) j b a) rfl
  have I35 : mIn dT ad35 L35 (ad 50 0) [.int 0, .int 0, .int 0, .int 0, .ref q1, .int 0, .ref q2, .int 0, .int 0, .int 0, .int 0, .long 0, .int 0, .ref q3, .ref q4, .ref q5, .ref q6, .ref q7, .ref q8, .ref q9, .int 0, .ref q10, .ref q11, .ref q12, .ref q13, .ref q14, .ref q15, .ref q16, .int 0, .ref q17, .ref q18, .ref q19, .ref q20, .ref q21, .ref q22, .ref q23, .ref q24, .ref q25, .ref q26, .int 0, .ref q27, .ref q28, .ref q29, .ref q30, .ref q31, .int 0, .int 0, .long 0, .int 0, .ref q32, .int 0, .ref q33, .ref q34, .ref q35, .long 0, .int 0, .long 0, .long 0, .null] 54 := i35
  have G35 : ∀ i, i ≠ 50 → i ≠ 51 → L35 i = L i ∧ ad35 i = ad i := fun i a b => ⟨(g35 i a b).1.trans (G34 i a b).1, (g35 i a b).2.trans (G34 i a b).2⟩
  obtain ⟨v35, ev35⟩ : ∃ z, z = (vup (vup v34 q35 (.inl (dT 3, 201, .inl (fun _ => 0)))) (ad 50 0) (.inr (13, [.int 0, .int 0, .int 0, .int 0, .ref q1, .int 0, .ref q2, .int 0, .int 0, .int 0, .int 0, .long 0, .int 0, .ref q3, .ref q4, .ref q5, .ref q6, .ref q7, .ref q8, .ref q9, .int 0, .ref q10, .ref q11, .ref q12, .ref q13, .ref q14, .ref q15, .ref q16, .int 0, .ref q17, .ref q18, .ref q19, .ref q20, .ref q21, .ref q22, .ref q23, .ref q24, .ref q25, .ref q26, .int 0, .ref q27, .ref q28, .ref q29, .ref q30, .ref q31, .int 0, .int 0, .long 0, .int 0, .ref q32, .int 0, .ref q33, .ref q34, .ref q35, .long 0, .int 0, .long 0, .long 0, .null]))) := ⟨_, rfl⟩
  have X : vO S0 D vcl (vup (vup v34 q35 (.inl (dT 3, 201, .inl (fun _ => 0)))) (ad 50 0) (.inr (13, [.int 0, .int 0, .int 0, .int 0, .ref q1, .int 0, .ref q2, .int 0, .int 0, .int 0, .int 0, .long 0, .int 0, .ref q3, .ref q4, .ref q5, .ref q6, .ref q7, .ref q8, .ref q9, .int 0, .ref q10, .ref q11, .ref q12, .ref q13, .ref q14, .ref q15, .ref q16, .int 0, .ref q17, .ref q18, .ref q19, .ref q20, .ref q21, .ref q22, .ref q23, .ref q24, .ref q25, .ref q26, .int 0, .ref q27, .ref q28, .ref q29, .ref q30, .ref q31, .int 0, .int 0, .long 0, .int 0, .ref q32, .int 0, .ref q33, .ref q34, .ref q35, .long 0, .int 0, .long 0, .long 0, .null]))) s H locs := X
  rw [← ev35] at X
  have y35 : LR S0.heap.size hcv h0 ad L v35 ad35 L35 := by rw [ev35]; exact s35
  clear i35 s35 g35 G34 I34 y34
  have kM35 := y35.1.get (i := 50) (j := 0) I35.1
  rw [I35.2.1] at kM35
  clear ev35
  refine lv_aload_n hx hb d_MenuScreensModel_init_306 rfl (lv_at hl 0 rfl) ?_
  refine lv_bipush (v := 16) hx hb d_MenuScreensModel_init_307 (by decide) ?_
  refine mv_newa C X (gt_5 207 (by decide +kernel) rfl) (ty := .boolean) rfl 3 rfl 16 (a0 := (16, .inl (fun _ => 0))) (fun _ => rfl) rfl (by decide) (by show 16 * 1 ≤ _; omega) (by show (((((((((((((((((((((((((((((((((((0 + 1) + 1) + 1) + 1) + 1) + 1) + 1) + 1) + 1) + 1) + 1) + 1) + 1) + 1) + 1) + 1) + 1) + 1) + 1) + 1) + 1) + 1) + 1) + 1) + 1) + 1) + 1) + 1) + 1) + 1) + 1) + 1) + 1) + 1) + 1) + 1 ≤ 36; omega) (by show (((((((((((((((((((((((((((((((((((0 + 4000) + 4000) + 41) + 41) + 41) + 41) + 41) + 41) + 41) + 31) + 31) + 31) + 31) + 31) + 310) + 310) + 512) + 512) + 512) + 512) + 512) + 512) + 512) + 512) + 512) + 512) + 512) + 512) + 512) + 512) + 512) + 30) + 201) + 201) + 201) + 16 ≤ 17391; omega) d_MenuScreensModel_init_309 (fun q36 H z_q36 w_q36 X => ?_)
  have n__ad_50_0__q36 : (ad 50 0) ≠ q36 := vnf kM35 z_q36
  have X : vO S0 D vcl (vup v35 q36 (.inl (dT 3, 16, .inl (fun _ => 0)))) s H locs := X
  refine mv_putF C X ((vup_n _ _ n__ad_50_0__q36).trans kM35) wM 58 hnm p_12_117_13 rfl rfl (Nat.le_of_ble_eq_true rfl) d_MenuScreensModel_init_311 (fun H locs X => ?_)
  have X : vO S0 D vcl (vup (vup v35 q36 (.inl (dT 3, 16, .inl (fun _ => 0)))) (ad 50 0) (.inr (13, [.int 0, .int 0, .int 0, .int 0, .ref q1, .int 0, .ref q2, .int 0, .int 0, .int 0, .int 0, .long 0, .int 0, .ref q3, .ref q4, .ref q5, .ref q6, .ref q7, .ref q8, .ref q9, .int 0, .ref q10, .ref q11, .ref q12, .ref q13, .ref q14, .ref q15, .ref q16, .int 0, .ref q17, .ref q18, .ref q19, .ref q20, .ref q21, .ref q22, .ref q23, .ref q24, .ref q25, .ref q26, .int 0, .ref q27, .ref q28, .ref q29, .ref q30, .ref q31, .int 0, .int 0, .long 0, .int 0, .ref q32, .int 0, .ref q33, .ref q34, .ref q35, .long 0, .int 0, .long 0, .long 0, .ref q36]))) s H locs := X
  obtain ⟨ad36, L36, s36, i36, g36⟩ := mIn_step (k := 58) (e := .inl (dT 3, 16, .inl (fun _ => 0))) y35 I35 z_q36 w_q36 (by show 58 < 59; decide) (fun j a b => (by decide : ∀ j, j < 58 → 54 ≤ j → mAr j = false) j b a) rfl
  have I36 : mIn dT ad36 L36 (ad 50 0) [.int 0, .int 0, .int 0, .int 0, .ref q1, .int 0, .ref q2, .int 0, .int 0, .int 0, .int 0, .long 0, .int 0, .ref q3, .ref q4, .ref q5, .ref q6, .ref q7, .ref q8, .ref q9, .int 0, .ref q10, .ref q11, .ref q12, .ref q13, .ref q14, .ref q15, .ref q16, .int 0, .ref q17, .ref q18, .ref q19, .ref q20, .ref q21, .ref q22, .ref q23, .ref q24, .ref q25, .ref q26, .int 0, .ref q27, .ref q28, .ref q29, .ref q30, .ref q31, .int 0, .int 0, .long 0, .int 0, .ref q32, .int 0, .ref q33, .ref q34, .ref q35, .long 0, .int 0, .long 0, .long 0, .ref q36] 59 := i36
  have G36 : ∀ i, i ≠ 50 → i ≠ 51 → L36 i = L i ∧ ad36 i = ad i := fun i a b => ⟨(g36 i a b).1.trans (G35 i a b).1, (g36 i a b).2.trans (G35 i a b).2⟩
  obtain ⟨v36, ev36⟩ : ∃ z, z = (vup (vup v35 q36 (.inl (dT 3, 16, .inl (fun _ => 0)))) (ad 50 0) (.inr (13, [.int 0, .int 0, .int 0, .int 0, .ref q1, .int 0, .ref q2, .int 0, .int 0, .int 0, .int 0, .long 0, .int 0, .ref q3, .ref q4, .ref q5, .ref q6, .ref q7, .ref q8, .ref q9, .int 0, .ref q10, .ref q11, .ref q12, .ref q13, .ref q14, .ref q15, .ref q16, .int 0, .ref q17, .ref q18, .ref q19, .ref q20, .ref q21, .ref q22, .ref q23, .ref q24, .ref q25, .ref q26, .int 0, .ref q27, .ref q28, .ref q29, .ref q30, .ref q31, .int 0, .int 0, .long 0, .int 0, .ref q32, .int 0, .ref q33, .ref q34, .ref q35, .long 0, .int 0, .long 0, .long 0, .ref q36]))) := ⟨_, rfl⟩
  have X : vO S0 D vcl (vup (vup v35 q36 (.inl (dT 3, 16, .inl (fun _ => 0)))) (ad 50 0) (.inr (13, [.int 0, .int 0, .int 0, .int 0, .ref q1, .int 0, .ref q2, .int 0, .int 0, .int 0, .int 0, .long 0, .int 0, .ref q3, .ref q4, .ref q5, .ref q6, .ref q7, .ref q8, .ref q9, .int 0, .ref q10, .ref q11, .ref q12, .ref q13, .ref q14, .ref q15, .ref q16, .int 0, .ref q17, .ref q18, .ref q19, .ref q20, .ref q21, .ref q22, .ref q23, .ref q24, .ref q25, .ref q26, .int 0, .ref q27, .ref q28, .ref q29, .ref q30, .ref q31, .int 0, .int 0, .long 0, .int 0, .ref q32, .int 0, .ref q33, .ref q34, .ref q35, .long 0, .int 0, .long 0, .long 0, .ref q36]))) s H locs := X
  rw [← ev36] at X
  have y36 : LR S0.heap.size hcv h0 ad L v36 ad36 L36 := by rw [ev36]; exact s36
  clear i36 s36 g36 G35 I35 y35
  have kM36 := y36.1.get (i := 50) (j := 0) I36.1
  rw [I36.2.1] at kM36
  clear ev36
  have jn : ∀ (ls : Array Slot), (¬ (0 < p1 ∧ p1 < 41 ∧ 0 < p2 ∧ p2 < 41)) → lv_has ls 4 [(0, .ref (ad 50 0)), (1, .int p1), (2, .int p2)] → W p l e (vRm 1 12 36 17391) s m args below meth c H locs ((((((((((((((((((((((((((((((((((((0 + 1) + 1) + 1) + 1) + 1) + 1) + 1) + 1) + 1) + 1) + 1) + 1) + 1) + 1) + 1) + 1) + 1) + 1) + 1) + 1) + 1) + 1) + 1) + 1) + 1) + 1) + 1) + 1) + 1) + 1) + 1) + 1) + 1) + 1) + 1) + 1) ((((((((((((((((((((((((((((((((((((0 + 4000) + 4000) + 41) + 41) + 41) + 41) + 41) + 41) + 41) + 31) + 31) + 31) + 31) + 31) + 310) + 310) + 512) + 512) + 512) + 512) + 512) + 512) + 512) + 512) + 512) + 512) + 512) + 512) + 512) + 512) + 512) + 30) + 201) + 201) + 201) + 16) Q (F0 m 338 ls []) := by
    intro  ls hg hl
    refine lv_iconst (v := 0) hx hb d_MenuScreensModel_init_338 (by decide) ?_
    refine lv_istore_n (lv' := [(3, .int 0), (0, .ref (ad 50 0)), (1, .int p1), (2, .int p2)]) hx hb d_MenuScreensModel_init_339 rfl hl (by decide) rfl (fun ls hl => ?_)
    refine lv_aload_n hx hb d_MenuScreensModel_init_340 rfl (lv_at hl 1 rfl) ?_
    refine lv_iload_n hx hb d_MenuScreensModel_init_341 rfl (lv_at hl 0 rfl) ?_
    refine lv_if_eq (tgt := 349) hx hb d_MenuScreensModel_init_342 (by decide) (fun c37 => ?_) (fun z => absurd rfl z)
    refine lv_iconst (v := 4) hx hb d_MenuScreensModel_init_349 (by decide) ?_
    refine mv_putF C X kM36 wM 1 hnm p_12_120_13 rfl rfl (Nat.le_of_ble_eq_true rfl) d_MenuScreensModel_init_350 (fun H locs X => ?_)
    have X : vO S0 D vcl (vup v36 (ad 50 0) (.inr (13, [.int 0, .int 4, .int 0, .int 0, .ref q1, .int 0, .ref q2, .int 0, .int 0, .int 0, .int 0, .long 0, .int 0, .ref q3, .ref q4, .ref q5, .ref q6, .ref q7, .ref q8, .ref q9, .int 0, .ref q10, .ref q11, .ref q12, .ref q13, .ref q14, .ref q15, .ref q16, .int 0, .ref q17, .ref q18, .ref q19, .ref q20, .ref q21, .ref q22, .ref q23, .ref q24, .ref q25, .ref q26, .int 0, .ref q27, .ref q28, .ref q29, .ref q30, .ref q31, .int 0, .int 0, .long 0, .int 0, .ref q32, .int 0, .ref q33, .ref q34, .ref q35, .long 0, .int 0, .long 0, .long 0, .ref q36]))) s H locs := X
    refine lv_aload_n hx hb d_MenuScreensModel_init_353 rfl (lv_at hl 1 rfl) ?_
    refine lv_iload_n hx hb d_MenuScreensModel_init_354 rfl (lv_at hl 0 rfl) ?_
    refine lv_if_eq (tgt := 362) hx hb d_MenuScreensModel_init_355 (by decide) (fun c38 => ?_) (fun z => absurd rfl z)
    refine lv_bipush (v := 16) hx hb d_MenuScreensModel_init_362 (by decide) ?_
    refine mv_putF C X (vup_s _ _ _) wM 2 hnm p_12_124_13 rfl rfl (Nat.le_of_ble_eq_true rfl) d_MenuScreensModel_init_364 (fun H locs X => ?_)
    rw [vup_u] at X
    have X : vO S0 D vcl (vup v36 (ad 50 0) (.inr (13, [.int 0, .int 4, .int 16, .int 0, .ref q1, .int 0, .ref q2, .int 0, .int 0, .int 0, .int 0, .long 0, .int 0, .ref q3, .ref q4, .ref q5, .ref q6, .ref q7, .ref q8, .ref q9, .int 0, .ref q10, .ref q11, .ref q12, .ref q13, .ref q14, .ref q15, .ref q16, .int 0, .ref q17, .ref q18, .ref q19, .ref q20, .ref q21, .ref q22, .ref q23, .ref q24, .ref q25, .ref q26, .int 0, .ref q27, .ref q28, .ref q29, .ref q30, .ref q31, .int 0, .int 0, .long 0, .int 0, .ref q32, .int 0, .ref q33, .ref q34, .ref q35, .long 0, .int 0, .long 0, .long 0, .ref q36]))) s H locs := X
    exact mq_vret hQ C X hr hlk (by
        have yF := y36.put (i := 50) (j := 0) (e' := .inr (13, [.int 0, .int 4, .int 16, .int 0, .ref q1, .int 0, .ref q2, .int 0, .int 0, .int 0, .int 0, .long 0, .int 0, .ref q3, .ref q4, .ref q5, .ref q6, .ref q7, .ref q8, .ref q9, .int 0, .ref q10, .ref q11, .ref q12, .ref q13, .ref q14, .ref q15, .ref q16, .int 0, .ref q17, .ref q18, .ref q19, .ref q20, .ref q21, .ref q22, .ref q23, .ref q24, .ref q25, .ref q26, .int 0, .ref q27, .ref q28, .ref q29, .ref q30, .ref q31, .int 0, .int 0, .long 0, .int 0, .ref q32, .int 0, .ref q33, .ref q34, .ref q35, .long 0, .int 0, .long 0, .long 0, .ref q36])) I36.1
        rw [I36.2.1] at yF
        refine ⟨_, _, yF, fun i a b => ⟨(lput_k _ _ a).trans (G36 i a b).1, (G36 i a b).2⟩, I36.2.1, ?_, fun k hk => (lput_i (i := 50) (i' := 51) _ _ (by decide)).trans (I36.2.2 k (mAr_lt hk) hk).1⟩
        have e4 : q1 = ad36 51 4 := by
          have w : some (Value.ref q1) = some (.ref (ad36 51 4)) := (I36.2.2 4 (by decide) rfl).2
          injection w with w
          injection w
        have e6 : q2 = ad36 51 6 := by
          have w : some (Value.ref q2) = some (.ref (ad36 51 6)) := (I36.2.2 6 (by decide) rfl).2
          injection w with w
          injection w
        have e13 : q3 = ad36 51 13 := by
          have w : some (Value.ref q3) = some (.ref (ad36 51 13)) := (I36.2.2 13 (by decide) rfl).2
          injection w with w
          injection w
        have e14 : q4 = ad36 51 14 := by
          have w : some (Value.ref q4) = some (.ref (ad36 51 14)) := (I36.2.2 14 (by decide) rfl).2
          injection w with w
          injection w
        have e15 : q5 = ad36 51 15 := by
          have w : some (Value.ref q5) = some (.ref (ad36 51 15)) := (I36.2.2 15 (by decide) rfl).2
          injection w with w
          injection w
        have e16 : q6 = ad36 51 16 := by
          have w : some (Value.ref q6) = some (.ref (ad36 51 16)) := (I36.2.2 16 (by decide) rfl).2
          injection w with w
          injection w
        have e17 : q7 = ad36 51 17 := by
          have w : some (Value.ref q7) = some (.ref (ad36 51 17)) := (I36.2.2 17 (by decide) rfl).2
          injection w with w
          injection w
        have e18 : q8 = ad36 51 18 := by
          have w : some (Value.ref q8) = some (.ref (ad36 51 18)) := (I36.2.2 18 (by decide) rfl).2
          injection w with w
          injection w
        have e19 : q9 = ad36 51 19 := by
          have w : some (Value.ref q9) = some (.ref (ad36 51 19)) := (I36.2.2 19 (by decide) rfl).2
          injection w with w
          injection w
        have e21 : q10 = ad36 51 21 := by
          have w : some (Value.ref q10) = some (.ref (ad36 51 21)) := (I36.2.2 21 (by decide) rfl).2
          injection w with w
          injection w
        have e22 : q11 = ad36 51 22 := by
          have w : some (Value.ref q11) = some (.ref (ad36 51 22)) := (I36.2.2 22 (by decide) rfl).2
          injection w with w
          injection w
        have e23 : q12 = ad36 51 23 := by
          have w : some (Value.ref q12) = some (.ref (ad36 51 23)) := (I36.2.2 23 (by decide) rfl).2
          injection w with w
          injection w
        have e24 : q13 = ad36 51 24 := by
          have w : some (Value.ref q13) = some (.ref (ad36 51 24)) := (I36.2.2 24 (by decide) rfl).2
          injection w with w
          injection w
        have e25 : q14 = ad36 51 25 := by
          have w : some (Value.ref q14) = some (.ref (ad36 51 25)) := (I36.2.2 25 (by decide) rfl).2
          injection w with w
          injection w
        have e26 : q15 = ad36 51 26 := by
          have w : some (Value.ref q15) = some (.ref (ad36 51 26)) := (I36.2.2 26 (by decide) rfl).2
          injection w with w
          injection w
        have e27 : q16 = ad36 51 27 := by
          have w : some (Value.ref q16) = some (.ref (ad36 51 27)) := (I36.2.2 27 (by decide) rfl).2
          injection w with w
          injection w
        have e29 : q17 = ad36 51 29 := by
          have w : some (Value.ref q17) = some (.ref (ad36 51 29)) := (I36.2.2 29 (by decide) rfl).2
          injection w with w
          injection w
        have e30 : q18 = ad36 51 30 := by
          have w : some (Value.ref q18) = some (.ref (ad36 51 30)) := (I36.2.2 30 (by decide) rfl).2
          injection w with w
          injection w
        have e31 : q19 = ad36 51 31 := by
          have w : some (Value.ref q19) = some (.ref (ad36 51 31)) := (I36.2.2 31 (by decide) rfl).2
          injection w with w
          injection w
        have e32 : q20 = ad36 51 32 := by
          have w : some (Value.ref q20) = some (.ref (ad36 51 32)) := (I36.2.2 32 (by decide) rfl).2
          injection w with w
          injection w
        have e33 : q21 = ad36 51 33 := by
          have w : some (Value.ref q21) = some (.ref (ad36 51 33)) := (I36.2.2 33 (by decide) rfl).2
          injection w with w
          injection w
        have e34 : q22 = ad36 51 34 := by
          have w : some (Value.ref q22) = some (.ref (ad36 51 34)) := (I36.2.2 34 (by decide) rfl).2
          injection w with w
          injection w
        have e35 : q23 = ad36 51 35 := by
          have w : some (Value.ref q23) = some (.ref (ad36 51 35)) := (I36.2.2 35 (by decide) rfl).2
          injection w with w
          injection w
        have e36 : q24 = ad36 51 36 := by
          have w : some (Value.ref q24) = some (.ref (ad36 51 36)) := (I36.2.2 36 (by decide) rfl).2
          injection w with w
          injection w
        have e37 : q25 = ad36 51 37 := by
          have w : some (Value.ref q25) = some (.ref (ad36 51 37)) := (I36.2.2 37 (by decide) rfl).2
          injection w with w
          injection w
        have e38 : q26 = ad36 51 38 := by
          have w : some (Value.ref q26) = some (.ref (ad36 51 38)) := (I36.2.2 38 (by decide) rfl).2
          injection w with w
          injection w
        have e40 : q27 = ad36 51 40 := by
          have w : some (Value.ref q27) = some (.ref (ad36 51 40)) := (I36.2.2 40 (by decide) rfl).2
          injection w with w
          injection w
        have e41 : q28 = ad36 51 41 := by
          have w : some (Value.ref q28) = some (.ref (ad36 51 41)) := (I36.2.2 41 (by decide) rfl).2
          injection w with w
          injection w
        have e42 : q29 = ad36 51 42 := by
          have w : some (Value.ref q29) = some (.ref (ad36 51 42)) := (I36.2.2 42 (by decide) rfl).2
          injection w with w
          injection w
        have e43 : q30 = ad36 51 43 := by
          have w : some (Value.ref q30) = some (.ref (ad36 51 43)) := (I36.2.2 43 (by decide) rfl).2
          injection w with w
          injection w
        have e44 : q31 = ad36 51 44 := by
          have w : some (Value.ref q31) = some (.ref (ad36 51 44)) := (I36.2.2 44 (by decide) rfl).2
          injection w with w
          injection w
        have e49 : q32 = ad36 51 49 := by
          have w : some (Value.ref q32) = some (.ref (ad36 51 49)) := (I36.2.2 49 (by decide) rfl).2
          injection w with w
          injection w
        have e51 : q33 = ad36 51 51 := by
          have w : some (Value.ref q33) = some (.ref (ad36 51 51)) := (I36.2.2 51 (by decide) rfl).2
          injection w with w
          injection w
        have e52 : q34 = ad36 51 52 := by
          have w : some (Value.ref q34) = some (.ref (ad36 51 52)) := (I36.2.2 52 (by decide) rfl).2
          injection w with w
          injection w
        have e53 : q35 = ad36 51 53 := by
          have w : some (Value.ref q35) = some (.ref (ad36 51 53)) := (I36.2.2 53 (by decide) rfl).2
          injection w with w
          injection w
        have e58 : q36 = ad36 51 58 := by
          have w : some (Value.ref q36) = some (.ref (ad36 51 58)) := (I36.2.2 58 (by decide) rfl).2
          injection w with w
          injection w
        rw [lput_s]
        unfold mf
        rw [show iX p1 p2 1 = 4 from if_neg hg, show iX p1 p2 2 = 16 from if_neg hg, ← e4, ← e6, ← e13, ← e14, ← e15, ← e16, ← e17, ← e18, ← e19, ← e21, ← e22, ← e23, ← e24, ← e25, ← e26, ← e27, ← e29, ← e30, ← e31, ← e32, ← e33, ← e34, ← e35, ← e36, ← e37, ← e38, ← e40, ← e41, ← e42, ← e43, ← e44, ← e49, ← e51, ← e52, ← e53, ← e58]
        rfl) (by omega) (by omega) d_MenuScreensModel_init_367
  refine lv_iload_n hx hb d_MenuScreensModel_init_314 rfl (lv_at hl 1 rfl) ?_
  refine lv_if_le (tgt := 338) hx hb d_MenuScreensModel_init_315 (by decide) (fun c39 => ?_) (fun c39 => ?_)
  · skip
    exact jn  ls  (fun z => absurd z.1 (Int32.not_lt.mpr c39)) (lv_sub hl [0, 1, 2] rfl)
  · skip
    refine lv_iload_n hx hb d_MenuScreensModel_init_318 rfl (lv_at hl 1 rfl) ?_
    refine lv_bipush (v := 41) hx hb d_MenuScreensModel_init_319 (by decide) ?_
    refine lv_icmp_ge (tgt := 338) hx hb d_MenuScreensModel_init_321 (by decide) (fun c40 => ?_) (fun c40 => ?_)
    · skip
      exact jn  ls  (fun z => absurd z.2.1 (Int32.not_lt.mpr c40)) (lv_sub hl [0, 1, 2] rfl)
    · skip
      refine lv_iload_n hx hb d_MenuScreensModel_init_324 rfl (lv_at hl 2 rfl) ?_
      refine lv_if_le (tgt := 338) hx hb d_MenuScreensModel_init_325 (by decide) (fun c41 => ?_) (fun c41 => ?_)
      · skip
        exact jn  ls  (fun z => absurd z.2.2.1 (Int32.not_lt.mpr c41)) (lv_sub hl [0, 1, 2] rfl)
      · skip
        refine lv_iload_n hx hb d_MenuScreensModel_init_328 rfl (lv_at hl 2 rfl) ?_
        refine lv_bipush (v := 41) hx hb d_MenuScreensModel_init_329 (by decide) ?_
        refine lv_icmp_ge (tgt := 338) hx hb d_MenuScreensModel_init_331 (by decide) (fun c42 => ?_) (fun c42 => ?_)
        · skip
          exact jn  ls  (fun z => absurd z.2.2.2 (Int32.not_lt.mpr c42)) (lv_sub hl [0, 1, 2] rfl)
        · skip
          have hg : (0 < p1 ∧ p1 < 41 ∧ 0 < p2 ∧ p2 < 41) := ⟨Int32.not_le.mp c39, Int32.not_le.mp c40, Int32.not_le.mp c41, Int32.not_le.mp c42⟩
          refine lv_iconst (v := 1) hx hb d_MenuScreensModel_init_334 (by decide) ?_
          refine lv_goto (tgt := 339) hx hb d_MenuScreensModel_init_335 (by decide) ?_
          refine lv_istore_n (lv' := [(3, .int 1), (0, .ref (ad 50 0)), (1, .int p1), (2, .int p2)]) hx hb d_MenuScreensModel_init_339 rfl hl (by decide) rfl (fun ls hl => ?_)
          refine lv_aload_n hx hb d_MenuScreensModel_init_340 rfl (lv_at hl 1 rfl) ?_
          refine lv_iload_n hx hb d_MenuScreensModel_init_341 rfl (lv_at hl 0 rfl) ?_
          refine lv_if_eq (tgt := 349) hx hb d_MenuScreensModel_init_342 (by decide) (fun z => absurd z (by decide)) (fun c43 => ?_)
          refine lv_iload_n hx hb d_MenuScreensModel_init_345 rfl (lv_at hl 2 rfl) ?_
          refine lv_goto (tgt := 350) hx hb d_MenuScreensModel_init_346 (by decide) ?_
          refine mv_putF C X kM36 wM 1 hnm p_12_120_13 rfl rfl (Nat.le_of_ble_eq_true rfl) d_MenuScreensModel_init_350 (fun H locs X => ?_)
          have X : vO S0 D vcl (vup v36 (ad 50 0) (.inr (13, [.int 0, .int p1, .int 0, .int 0, .ref q1, .int 0, .ref q2, .int 0, .int 0, .int 0, .int 0, .long 0, .int 0, .ref q3, .ref q4, .ref q5, .ref q6, .ref q7, .ref q8, .ref q9, .int 0, .ref q10, .ref q11, .ref q12, .ref q13, .ref q14, .ref q15, .ref q16, .int 0, .ref q17, .ref q18, .ref q19, .ref q20, .ref q21, .ref q22, .ref q23, .ref q24, .ref q25, .ref q26, .int 0, .ref q27, .ref q28, .ref q29, .ref q30, .ref q31, .int 0, .int 0, .long 0, .int 0, .ref q32, .int 0, .ref q33, .ref q34, .ref q35, .long 0, .int 0, .long 0, .long 0, .ref q36]))) s H locs := X
          refine lv_aload_n hx hb d_MenuScreensModel_init_353 rfl (lv_at hl 1 rfl) ?_
          refine lv_iload_n hx hb d_MenuScreensModel_init_354 rfl (lv_at hl 0 rfl) ?_
          refine lv_if_eq (tgt := 362) hx hb d_MenuScreensModel_init_355 (by decide) (fun z => absurd z (by decide)) (fun c44 => ?_)
          refine lv_iload_n hx hb d_MenuScreensModel_init_358 rfl (lv_at hl 3 rfl) ?_
          refine lv_goto (tgt := 364) hx hb d_MenuScreensModel_init_359 (by decide) ?_
          refine mv_putF C X (vup_s _ _ _) wM 2 hnm p_12_124_13 rfl rfl (Nat.le_of_ble_eq_true rfl) d_MenuScreensModel_init_364 (fun H locs X => ?_)
          rw [vup_u] at X
          have X : vO S0 D vcl (vup v36 (ad 50 0) (.inr (13, [.int 0, .int p1, .int p2, .int 0, .ref q1, .int 0, .ref q2, .int 0, .int 0, .int 0, .int 0, .long 0, .int 0, .ref q3, .ref q4, .ref q5, .ref q6, .ref q7, .ref q8, .ref q9, .int 0, .ref q10, .ref q11, .ref q12, .ref q13, .ref q14, .ref q15, .ref q16, .int 0, .ref q17, .ref q18, .ref q19, .ref q20, .ref q21, .ref q22, .ref q23, .ref q24, .ref q25, .ref q26, .int 0, .ref q27, .ref q28, .ref q29, .ref q30, .ref q31, .int 0, .int 0, .long 0, .int 0, .ref q32, .int 0, .ref q33, .ref q34, .ref q35, .long 0, .int 0, .long 0, .long 0, .ref q36]))) s H locs := X
          exact mq_vret hQ C X hr hlk (by
              have yF := y36.put (i := 50) (j := 0) (e' := .inr (13, [.int 0, .int p1, .int p2, .int 0, .ref q1, .int 0, .ref q2, .int 0, .int 0, .int 0, .int 0, .long 0, .int 0, .ref q3, .ref q4, .ref q5, .ref q6, .ref q7, .ref q8, .ref q9, .int 0, .ref q10, .ref q11, .ref q12, .ref q13, .ref q14, .ref q15, .ref q16, .int 0, .ref q17, .ref q18, .ref q19, .ref q20, .ref q21, .ref q22, .ref q23, .ref q24, .ref q25, .ref q26, .int 0, .ref q27, .ref q28, .ref q29, .ref q30, .ref q31, .int 0, .int 0, .long 0, .int 0, .ref q32, .int 0, .ref q33, .ref q34, .ref q35, .long 0, .int 0, .long 0, .long 0, .ref q36])) I36.1
              rw [I36.2.1] at yF
              refine ⟨_, _, yF, fun i a b => ⟨(lput_k _ _ a).trans (G36 i a b).1, (G36 i a b).2⟩, I36.2.1, ?_, fun k hk => (lput_i (i := 50) (i' := 51) _ _ (by decide)).trans (I36.2.2 k (mAr_lt hk) hk).1⟩
              have e4 : q1 = ad36 51 4 := by
                have w : some (Value.ref q1) = some (.ref (ad36 51 4)) := (I36.2.2 4 (by decide) rfl).2
                injection w with w
                injection w
              have e6 : q2 = ad36 51 6 := by
                have w : some (Value.ref q2) = some (.ref (ad36 51 6)) := (I36.2.2 6 (by decide) rfl).2
                injection w with w
                injection w
              have e13 : q3 = ad36 51 13 := by
                have w : some (Value.ref q3) = some (.ref (ad36 51 13)) := (I36.2.2 13 (by decide) rfl).2
                injection w with w
                injection w
              have e14 : q4 = ad36 51 14 := by
                have w : some (Value.ref q4) = some (.ref (ad36 51 14)) := (I36.2.2 14 (by decide) rfl).2
                injection w with w
                injection w
              have e15 : q5 = ad36 51 15 := by
                have w : some (Value.ref q5) = some (.ref (ad36 51 15)) := (I36.2.2 15 (by decide) rfl).2
                injection w with w
                injection w
              have e16 : q6 = ad36 51 16 := by
                have w : some (Value.ref q6) = some (.ref (ad36 51 16)) := (I36.2.2 16 (by decide) rfl).2
                injection w with w
                injection w
              have e17 : q7 = ad36 51 17 := by
                have w : some (Value.ref q7) = some (.ref (ad36 51 17)) := (I36.2.2 17 (by decide) rfl).2
                injection w with w
                injection w
              have e18 : q8 = ad36 51 18 := by
                have w : some (Value.ref q8) = some (.ref (ad36 51 18)) := (I36.2.2 18 (by decide) rfl).2
                injection w with w
                injection w
              have e19 : q9 = ad36 51 19 := by
                have w : some (Value.ref q9) = some (.ref (ad36 51 19)) := (I36.2.2 19 (by decide) rfl).2
                injection w with w
                injection w
              have e21 : q10 = ad36 51 21 := by
                have w : some (Value.ref q10) = some (.ref (ad36 51 21)) := (I36.2.2 21 (by decide) rfl).2
                injection w with w
                injection w
              have e22 : q11 = ad36 51 22 := by
                have w : some (Value.ref q11) = some (.ref (ad36 51 22)) := (I36.2.2 22 (by decide) rfl).2
                injection w with w
                injection w
              have e23 : q12 = ad36 51 23 := by
                have w : some (Value.ref q12) = some (.ref (ad36 51 23)) := (I36.2.2 23 (by decide) rfl).2
                injection w with w
                injection w
              have e24 : q13 = ad36 51 24 := by
                have w : some (Value.ref q13) = some (.ref (ad36 51 24)) := (I36.2.2 24 (by decide) rfl).2
                injection w with w
                injection w
              have e25 : q14 = ad36 51 25 := by
                have w : some (Value.ref q14) = some (.ref (ad36 51 25)) := (I36.2.2 25 (by decide) rfl).2
                injection w with w
                injection w
              have e26 : q15 = ad36 51 26 := by
                have w : some (Value.ref q15) = some (.ref (ad36 51 26)) := (I36.2.2 26 (by decide) rfl).2
                injection w with w
                injection w
              have e27 : q16 = ad36 51 27 := by
                have w : some (Value.ref q16) = some (.ref (ad36 51 27)) := (I36.2.2 27 (by decide) rfl).2
                injection w with w
                injection w
              have e29 : q17 = ad36 51 29 := by
                have w : some (Value.ref q17) = some (.ref (ad36 51 29)) := (I36.2.2 29 (by decide) rfl).2
                injection w with w
                injection w
              have e30 : q18 = ad36 51 30 := by
                have w : some (Value.ref q18) = some (.ref (ad36 51 30)) := (I36.2.2 30 (by decide) rfl).2
                injection w with w
                injection w
              have e31 : q19 = ad36 51 31 := by
                have w : some (Value.ref q19) = some (.ref (ad36 51 31)) := (I36.2.2 31 (by decide) rfl).2
                injection w with w
                injection w
              have e32 : q20 = ad36 51 32 := by
                have w : some (Value.ref q20) = some (.ref (ad36 51 32)) := (I36.2.2 32 (by decide) rfl).2
                injection w with w
                injection w
              have e33 : q21 = ad36 51 33 := by
                have w : some (Value.ref q21) = some (.ref (ad36 51 33)) := (I36.2.2 33 (by decide) rfl).2
                injection w with w
                injection w
              have e34 : q22 = ad36 51 34 := by
                have w : some (Value.ref q22) = some (.ref (ad36 51 34)) := (I36.2.2 34 (by decide) rfl).2
                injection w with w
                injection w
              have e35 : q23 = ad36 51 35 := by
                have w : some (Value.ref q23) = some (.ref (ad36 51 35)) := (I36.2.2 35 (by decide) rfl).2
                injection w with w
                injection w
              have e36 : q24 = ad36 51 36 := by
                have w : some (Value.ref q24) = some (.ref (ad36 51 36)) := (I36.2.2 36 (by decide) rfl).2
                injection w with w
                injection w
              have e37 : q25 = ad36 51 37 := by
                have w : some (Value.ref q25) = some (.ref (ad36 51 37)) := (I36.2.2 37 (by decide) rfl).2
                injection w with w
                injection w
              have e38 : q26 = ad36 51 38 := by
                have w : some (Value.ref q26) = some (.ref (ad36 51 38)) := (I36.2.2 38 (by decide) rfl).2
                injection w with w
                injection w
              have e40 : q27 = ad36 51 40 := by
                have w : some (Value.ref q27) = some (.ref (ad36 51 40)) := (I36.2.2 40 (by decide) rfl).2
                injection w with w
                injection w
              have e41 : q28 = ad36 51 41 := by
                have w : some (Value.ref q28) = some (.ref (ad36 51 41)) := (I36.2.2 41 (by decide) rfl).2
                injection w with w
                injection w
              have e42 : q29 = ad36 51 42 := by
                have w : some (Value.ref q29) = some (.ref (ad36 51 42)) := (I36.2.2 42 (by decide) rfl).2
                injection w with w
                injection w
              have e43 : q30 = ad36 51 43 := by
                have w : some (Value.ref q30) = some (.ref (ad36 51 43)) := (I36.2.2 43 (by decide) rfl).2
                injection w with w
                injection w
              have e44 : q31 = ad36 51 44 := by
                have w : some (Value.ref q31) = some (.ref (ad36 51 44)) := (I36.2.2 44 (by decide) rfl).2
                injection w with w
                injection w
              have e49 : q32 = ad36 51 49 := by
                have w : some (Value.ref q32) = some (.ref (ad36 51 49)) := (I36.2.2 49 (by decide) rfl).2
                injection w with w
                injection w
              have e51 : q33 = ad36 51 51 := by
                have w : some (Value.ref q33) = some (.ref (ad36 51 51)) := (I36.2.2 51 (by decide) rfl).2
                injection w with w
                injection w
              have e52 : q34 = ad36 51 52 := by
                have w : some (Value.ref q34) = some (.ref (ad36 51 52)) := (I36.2.2 52 (by decide) rfl).2
                injection w with w
                injection w
              have e53 : q35 = ad36 51 53 := by
                have w : some (Value.ref q35) = some (.ref (ad36 51 53)) := (I36.2.2 53 (by decide) rfl).2
                injection w with w
                injection w
              have e58 : q36 = ad36 51 58 := by
                have w : some (Value.ref q36) = some (.ref (ad36 51 58)) := (I36.2.2 58 (by decide) rfl).2
                injection w with w
                injection w
              rw [lput_s]
              unfold mf
              rw [show iX p1 p2 1 = p1 from if_pos hg, show iX p1 p2 2 = p2 from if_pos hg, ← e4, ← e6, ← e13, ← e14, ← e15, ← e16, ← e17, ← e18, ← e19, ← e21, ← e22, ← e23, ← e24, ← e25, ← e26, ← e27, ← e29, ← e30, ← e31, ← e32, ← e33, ← e34, ← e35, ← e36, ← e37, ← e38, ← e40, ← e41, ← e42, ← e43, ← e44, ← e49, ← e51, ← e52, ← e53, ← e58]
              rfl) (by omega) (by omega) d_MenuScreensModel_init_367
