def y_Model_init : MethodName := ⟨R_Model, "<init>", "(III)V"⟩
abbrev ws_Model_init : List Cond := .code y_Model_init prog_12_method_1_code 7 none :: TB
theorem d_Model_init_0 : decode prog_12_method_1_code 0 = .ok (.aload_n 0, 1) := by decide +kernel
theorem d_Model_init_1 : decode prog_12_method_1_code 1 = .ok (.invokespecial 1, 3) := by decide +kernel
theorem d_Model_init_4 : decode prog_12_method_1_code 4 = .ok (.aload_n 0, 1) := by decide +kernel
theorem d_Model_init_5 : decode prog_12_method_1_code 5 = .ok (.bipush 20, 2) := by decide +kernel
theorem d_Model_init_7 : decode prog_12_method_1_code 7 = .ok (.newarray .int, 2) := by decide +kernel
theorem d_Model_init_9 : decode prog_12_method_1_code 9 = .ok (.putfield 7, 3) := by decide +kernel
theorem d_Model_init_12 : decode prog_12_method_1_code 12 = .ok (.aload_n 0, 1) := by decide +kernel
theorem d_Model_init_13 : decode prog_12_method_1_code 13 = .ok (.bipush 20, 2) := by decide +kernel
theorem d_Model_init_15 : decode prog_12_method_1_code 15 = .ok (.newarray .int, 2) := by decide +kernel
theorem d_Model_init_17 : decode prog_12_method_1_code 17 = .ok (.putfield 13, 3) := by decide +kernel
theorem d_Model_init_20 : decode prog_12_method_1_code 20 = .ok (.aload_n 0, 1) := by decide +kernel
theorem d_Model_init_21 : decode prog_12_method_1_code 21 = .ok (.bipush 20, 2) := by decide +kernel
theorem d_Model_init_23 : decode prog_12_method_1_code 23 = .ok (.newarray .int, 2) := by decide +kernel
theorem d_Model_init_25 : decode prog_12_method_1_code 25 = .ok (.putfield 16, 3) := by decide +kernel
theorem d_Model_init_28 : decode prog_12_method_1_code 28 = .ok (.aload_n 0, 1) := by decide +kernel
theorem d_Model_init_29 : decode prog_12_method_1_code 29 = .ok (.bipush 20, 2) := by decide +kernel
theorem d_Model_init_31 : decode prog_12_method_1_code 31 = .ok (.newarray .int, 2) := by decide +kernel
theorem d_Model_init_33 : decode prog_12_method_1_code 33 = .ok (.putfield 19, 3) := by decide +kernel
theorem d_Model_init_36 : decode prog_12_method_1_code 36 = .ok (.aload_n 0, 1) := by decide +kernel
theorem d_Model_init_37 : decode prog_12_method_1_code 37 = .ok (.bipush 20, 2) := by decide +kernel
theorem d_Model_init_39 : decode prog_12_method_1_code 39 = .ok (.newarray .int, 2) := by decide +kernel
theorem d_Model_init_41 : decode prog_12_method_1_code 41 = .ok (.putfield 22, 3) := by decide +kernel
theorem d_Model_init_44 : decode prog_12_method_1_code 44 = .ok (.aload_n 0, 1) := by decide +kernel
theorem d_Model_init_45 : decode prog_12_method_1_code 45 = .ok (.bipush 20, 2) := by decide +kernel
theorem d_Model_init_47 : decode prog_12_method_1_code 47 = .ok (.newarray .int, 2) := by decide +kernel
theorem d_Model_init_49 : decode prog_12_method_1_code 49 = .ok (.putfield 25, 3) := by decide +kernel
theorem d_Model_init_52 : decode prog_12_method_1_code 52 = .ok (.aload_n 0, 1) := by decide +kernel
theorem d_Model_init_53 : decode prog_12_method_1_code 53 = .ok (.bipush 8, 2) := by decide +kernel
theorem d_Model_init_55 : decode prog_12_method_1_code 55 = .ok (.newarray .int, 2) := by decide +kernel
theorem d_Model_init_57 : decode prog_12_method_1_code 57 = .ok (.putfield 28, 3) := by decide +kernel
theorem d_Model_init_60 : decode prog_12_method_1_code 60 = .ok (.aload_n 0, 1) := by decide +kernel
theorem d_Model_init_61 : decode prog_12_method_1_code 61 = .ok (.bipush 8, 2) := by decide +kernel
theorem d_Model_init_63 : decode prog_12_method_1_code 63 = .ok (.newarray .int, 2) := by decide +kernel
theorem d_Model_init_65 : decode prog_12_method_1_code 65 = .ok (.putfield 31, 3) := by decide +kernel
theorem d_Model_init_68 : decode prog_12_method_1_code 68 = .ok (.aload_n 0, 1) := by decide +kernel
theorem d_Model_init_69 : decode prog_12_method_1_code 69 = .ok (.bipush 8, 2) := by decide +kernel
theorem d_Model_init_71 : decode prog_12_method_1_code 71 = .ok (.newarray .int, 2) := by decide +kernel
theorem d_Model_init_73 : decode prog_12_method_1_code 73 = .ok (.putfield 34, 3) := by decide +kernel
theorem d_Model_init_76 : decode prog_12_method_1_code 76 = .ok (.aload_n 0, 1) := by decide +kernel
theorem d_Model_init_77 : decode prog_12_method_1_code 77 = .ok (.bipush 8, 2) := by decide +kernel
theorem d_Model_init_79 : decode prog_12_method_1_code 79 = .ok (.newarray .long, 2) := by decide +kernel
theorem d_Model_init_81 : decode prog_12_method_1_code 81 = .ok (.putfield 37, 3) := by decide +kernel
theorem d_Model_init_84 : decode prog_12_method_1_code 84 = .ok (.aload_n 0, 1) := by decide +kernel
theorem d_Model_init_85 : decode prog_12_method_1_code 85 = .ok (.sipush 128, 3) := by decide +kernel
theorem d_Model_init_88 : decode prog_12_method_1_code 88 = .ok (.newarray .boolean, 2) := by decide +kernel
theorem d_Model_init_90 : decode prog_12_method_1_code 90 = .ok (.putfield 41, 3) := by decide +kernel
theorem d_Model_init_93 : decode prog_12_method_1_code 93 = .ok (.aload_n 0, 1) := by decide +kernel
theorem d_Model_init_94 : decode prog_12_method_1_code 94 = .ok (.bipush 8, 2) := by decide +kernel
theorem d_Model_init_96 : decode prog_12_method_1_code 96 = .ok (.newarray .int, 2) := by decide +kernel
theorem d_Model_init_98 : decode prog_12_method_1_code 98 = .ok (.putfield 45, 3) := by decide +kernel
theorem d_Model_init_101 : decode prog_12_method_1_code 101 = .ok (.aload_n 0, 1) := by decide +kernel
theorem d_Model_init_102 : decode prog_12_method_1_code 102 = .ok (.bipush 8, 2) := by decide +kernel
theorem d_Model_init_104 : decode prog_12_method_1_code 104 = .ok (.newarray .long, 2) := by decide +kernel
theorem d_Model_init_106 : decode prog_12_method_1_code 106 = .ok (.putfield 48, 3) := by decide +kernel
theorem d_Model_init_109 : decode prog_12_method_1_code 109 = .ok (.aload_n 0, 1) := by decide +kernel
theorem d_Model_init_110 : decode prog_12_method_1_code 110 = .ok (.bipush 8, 2) := by decide +kernel
theorem d_Model_init_112 : decode prog_12_method_1_code 112 = .ok (.newarray .long, 2) := by decide +kernel
theorem d_Model_init_114 : decode prog_12_method_1_code 114 = .ok (.putfield 51, 3) := by decide +kernel
theorem d_Model_init_117 : decode prog_12_method_1_code 117 = .ok (.aload_n 0, 1) := by decide +kernel
theorem d_Model_init_118 : decode prog_12_method_1_code 118 = .ok (.ldc 54, 2) := by decide +kernel
theorem d_Model_init_120 : decode prog_12_method_1_code 120 = .ok (.newarray .boolean, 2) := by decide +kernel
theorem d_Model_init_122 : decode prog_12_method_1_code 122 = .ok (.putfield 55, 3) := by decide +kernel
theorem d_Model_init_125 : decode prog_12_method_1_code 125 = .ok (.aload_n 0, 1) := by decide +kernel
theorem d_Model_init_126 : decode prog_12_method_1_code 126 = .ok (.ldc 58, 2) := by decide +kernel
theorem d_Model_init_128 : decode prog_12_method_1_code 128 = .ok (.putfield 59, 3) := by decide +kernel
theorem d_Model_init_131 : decode prog_12_method_1_code 131 = .ok (.aload_n 0, 1) := by decide +kernel
theorem d_Model_init_132 : decode prog_12_method_1_code 132 = .ok (.ldc 63, 2) := by decide +kernel
theorem d_Model_init_134 : decode prog_12_method_1_code 134 = .ok (.newarray .long, 2) := by decide +kernel
theorem d_Model_init_136 : decode prog_12_method_1_code 136 = .ok (.putfield 64, 3) := by decide +kernel
theorem d_Model_init_139 : decode prog_12_method_1_code 139 = .ok (.aload_n 0, 1) := by decide +kernel
theorem d_Model_init_140 : decode prog_12_method_1_code 140 = .ok (.ldc 63, 2) := by decide +kernel
theorem d_Model_init_142 : decode prog_12_method_1_code 142 = .ok (.newarray .int, 2) := by decide +kernel
theorem d_Model_init_144 : decode prog_12_method_1_code 144 = .ok (.putfield 67, 3) := by decide +kernel
theorem d_Model_init_147 : decode prog_12_method_1_code 147 = .ok (.aload_n 0, 1) := by decide +kernel
theorem d_Model_init_148 : decode prog_12_method_1_code 148 = .ok (.ldc 63, 2) := by decide +kernel
theorem d_Model_init_150 : decode prog_12_method_1_code 150 = .ok (.newarray .int, 2) := by decide +kernel
theorem d_Model_init_152 : decode prog_12_method_1_code 152 = .ok (.putfield 70, 3) := by decide +kernel
theorem d_Model_init_155 : decode prog_12_method_1_code 155 = .ok (.aload_n 0, 1) := by decide +kernel
theorem d_Model_init_156 : decode prog_12_method_1_code 156 = .ok (.ldc 63, 2) := by decide +kernel
theorem d_Model_init_158 : decode prog_12_method_1_code 158 = .ok (.newarray .long, 2) := by decide +kernel
theorem d_Model_init_160 : decode prog_12_method_1_code 160 = .ok (.putfield 73, 3) := by decide +kernel
theorem d_Model_init_163 : decode prog_12_method_1_code 163 = .ok (.aload_n 0, 1) := by decide +kernel
theorem d_Model_init_164 : decode prog_12_method_1_code 164 = .ok (.ldc 63, 2) := by decide +kernel
theorem d_Model_init_166 : decode prog_12_method_1_code 166 = .ok (.newarray .int, 2) := by decide +kernel
theorem d_Model_init_168 : decode prog_12_method_1_code 168 = .ok (.putfield 76, 3) := by decide +kernel
theorem d_Model_init_171 : decode prog_12_method_1_code 171 = .ok (.aload_n 0, 1) := by decide +kernel
theorem d_Model_init_172 : decode prog_12_method_1_code 172 = .ok (.ldc 63, 2) := by decide +kernel
theorem d_Model_init_174 : decode prog_12_method_1_code 174 = .ok (.newarray .long, 2) := by decide +kernel
theorem d_Model_init_176 : decode prog_12_method_1_code 176 = .ok (.putfield 79, 3) := by decide +kernel
theorem d_Model_init_179 : decode prog_12_method_1_code 179 = .ok (.aload_n 0, 1) := by decide +kernel
theorem d_Model_init_180 : decode prog_12_method_1_code 180 = .ok (.ldc 63, 2) := by decide +kernel
theorem d_Model_init_182 : decode prog_12_method_1_code 182 = .ok (.newarray .int, 2) := by decide +kernel
theorem d_Model_init_184 : decode prog_12_method_1_code 184 = .ok (.putfield 82, 3) := by decide +kernel
theorem d_Model_init_187 : decode prog_12_method_1_code 187 = .ok (.aload_n 0, 1) := by decide +kernel
theorem d_Model_init_188 : decode prog_12_method_1_code 188 = .ok (.sipush 128, 3) := by decide +kernel
theorem d_Model_init_191 : decode prog_12_method_1_code 191 = .ok (.newarray .long, 2) := by decide +kernel
theorem d_Model_init_193 : decode prog_12_method_1_code 193 = .ok (.putfield 85, 3) := by decide +kernel
theorem d_Model_init_196 : decode prog_12_method_1_code 196 = .ok (.aload_n 0, 1) := by decide +kernel
theorem d_Model_init_197 : decode prog_12_method_1_code 197 = .ok (.sipush 128, 3) := by decide +kernel
theorem d_Model_init_200 : decode prog_12_method_1_code 200 = .ok (.newarray .int, 2) := by decide +kernel
theorem d_Model_init_202 : decode prog_12_method_1_code 202 = .ok (.putfield 88, 3) := by decide +kernel
theorem d_Model_init_205 : decode prog_12_method_1_code 205 = .ok (.aload_n 0, 1) := by decide +kernel
theorem d_Model_init_206 : decode prog_12_method_1_code 206 = .ok (.iconst 2, 1) := by decide +kernel
theorem d_Model_init_207 : decode prog_12_method_1_code 207 = .ok (.putfield 91, 3) := by decide +kernel
theorem d_Model_init_210 : decode prog_12_method_1_code 210 = .ok (.aload_n 0, 1) := by decide +kernel
theorem d_Model_init_211 : decode prog_12_method_1_code 211 = .ok (.sipush 240, 3) := by decide +kernel
theorem d_Model_init_214 : decode prog_12_method_1_code 214 = .ok (.newarray .int, 2) := by decide +kernel
theorem d_Model_init_216 : decode prog_12_method_1_code 216 = .ok (.putfield 94, 3) := by decide +kernel
theorem d_Model_init_219 : decode prog_12_method_1_code 219 = .ok (.aload_n 0, 1) := by decide +kernel
theorem d_Model_init_220 : decode prog_12_method_1_code 220 = .ok (.sipush 240, 3) := by decide +kernel
theorem d_Model_init_223 : decode prog_12_method_1_code 223 = .ok (.newarray .int, 2) := by decide +kernel
theorem d_Model_init_225 : decode prog_12_method_1_code 225 = .ok (.putfield 97, 3) := by decide +kernel
theorem d_Model_init_228 : decode prog_12_method_1_code 228 = .ok (.aload_n 0, 1) := by decide +kernel
theorem d_Model_init_229 : decode prog_12_method_1_code 229 = .ok (.sipush 240, 3) := by decide +kernel
theorem d_Model_init_232 : decode prog_12_method_1_code 232 = .ok (.newarray .int, 2) := by decide +kernel
theorem d_Model_init_234 : decode prog_12_method_1_code 234 = .ok (.putfield 100, 3) := by decide +kernel
theorem d_Model_init_237 : decode prog_12_method_1_code 237 = .ok (.aload_n 0, 1) := by decide +kernel
theorem d_Model_init_238 : decode prog_12_method_1_code 238 = .ok (.sipush 240, 3) := by decide +kernel
theorem d_Model_init_241 : decode prog_12_method_1_code 241 = .ok (.newarray .int, 2) := by decide +kernel
theorem d_Model_init_243 : decode prog_12_method_1_code 243 = .ok (.putfield 103, 3) := by decide +kernel
theorem d_Model_init_246 : decode prog_12_method_1_code 246 = .ok (.aload_n 0, 1) := by decide +kernel
theorem d_Model_init_247 : decode prog_12_method_1_code 247 = .ok (.sipush 240, 3) := by decide +kernel
theorem d_Model_init_250 : decode prog_12_method_1_code 250 = .ok (.newarray .int, 2) := by decide +kernel
theorem d_Model_init_252 : decode prog_12_method_1_code 252 = .ok (.putfield 106, 3) := by decide +kernel
theorem d_Model_init_255 : decode prog_12_method_1_code 255 = .ok (.aload_n 0, 1) := by decide +kernel
theorem d_Model_init_256 : decode prog_12_method_1_code 256 = .ok (.sipush 1200, 3) := by decide +kernel
theorem d_Model_init_259 : decode prog_12_method_1_code 259 = .ok (.newarray .int, 2) := by decide +kernel
theorem d_Model_init_261 : decode prog_12_method_1_code 261 = .ok (.putfield 109, 3) := by decide +kernel
theorem d_Model_init_264 : decode prog_12_method_1_code 264 = .ok (.aload_n 0, 1) := by decide +kernel
theorem d_Model_init_265 : decode prog_12_method_1_code 265 = .ok (.sipush 240, 3) := by decide +kernel
theorem d_Model_init_268 : decode prog_12_method_1_code 268 = .ok (.newarray .boolean, 2) := by decide +kernel
theorem d_Model_init_270 : decode prog_12_method_1_code 270 = .ok (.putfield 112, 3) := by decide +kernel
theorem d_Model_init_273 : decode prog_12_method_1_code 273 = .ok (.aload_n 0, 1) := by decide +kernel
theorem d_Model_init_274 : decode prog_12_method_1_code 274 = .ok (.sipush 24341, 3) := by decide +kernel
theorem d_Model_init_277 : decode prog_12_method_1_code 277 = .ok (.newarray .int, 2) := by decide +kernel
theorem d_Model_init_279 : decode prog_12_method_1_code 279 = .ok (.putfield 115, 3) := by decide +kernel
theorem d_Model_init_282 : decode prog_12_method_1_code 282 = .ok (.aload_n 0, 1) := by decide +kernel
theorem d_Model_init_283 : decode prog_12_method_1_code 283 = .ok (.iload_n 3, 1) := by decide +kernel
theorem d_Model_init_284 : decode prog_12_method_1_code 284 = .ok (.invokestatic 118, 3) := by decide +kernel
theorem d_Model_init_287 : decode prog_12_method_1_code 287 = .ok (.putfield 122, 3) := by decide +kernel
theorem d_Model_init_290 : decode prog_12_method_1_code 290 = .ok (.iload_n 2, 1) := by decide +kernel
theorem d_Model_init_291 : decode prog_12_method_1_code 291 = .ok (.invokestatic 118, 3) := by decide +kernel
theorem d_Model_init_294 : decode prog_12_method_1_code 294 = .ok (.aload_n 0, 1) := by decide +kernel
theorem d_Model_init_295 : decode prog_12_method_1_code 295 = .ok (.getfield 122, 3) := by decide +kernel
theorem d_Model_init_298 : decode prog_12_method_1_code 298 = .ok (.idiv, 1) := by decide +kernel
theorem d_Model_init_299 : decode prog_12_method_1_code 299 = .ok (.istore 4, 2) := by decide +kernel
theorem d_Model_init_301 : decode prog_12_method_1_code 301 = .ok (.iload_n 1, 1) := by decide +kernel
theorem d_Model_init_302 : decode prog_12_method_1_code 302 = .ok (.invokestatic 118, 3) := by decide +kernel
theorem d_Model_init_305 : decode prog_12_method_1_code 305 = .ok (.aload_n 0, 1) := by decide +kernel
theorem d_Model_init_306 : decode prog_12_method_1_code 306 = .ok (.getfield 122, 3) := by decide +kernel
theorem d_Model_init_309 : decode prog_12_method_1_code 309 = .ok (.idiv, 1) := by decide +kernel
theorem d_Model_init_310 : decode prog_12_method_1_code 310 = .ok (.istore 5, 2) := by decide +kernel
theorem d_Model_init_312 : decode prog_12_method_1_code 312 = .ok (.aload_n 0, 1) := by decide +kernel
theorem d_Model_init_313 : decode prog_12_method_1_code 313 = .ok (.iload 4, 2) := by decide +kernel
theorem d_Model_init_315 : decode prog_12_method_1_code 315 = .ok (.bipush 24, 2) := by decide +kernel
theorem d_Model_init_317 : decode prog_12_method_1_code 317 = .ok (.if_icmp .le 8, 3) := by decide +kernel
theorem d_Model_init_320 : decode prog_12_method_1_code 320 = .ok (.bipush 24, 2) := by decide +kernel
theorem d_Model_init_322 : decode prog_12_method_1_code 322 = .ok (.goto 5, 3) := by decide +kernel
theorem d_Model_init_325 : decode prog_12_method_1_code 325 = .ok (.iload 4, 2) := by decide +kernel
theorem d_Model_init_327 : decode prog_12_method_1_code 327 = .ok (.putfield 125, 3) := by decide +kernel
theorem d_Model_init_330 : decode prog_12_method_1_code 330 = .ok (.aload_n 0, 1) := by decide +kernel
theorem d_Model_init_331 : decode prog_12_method_1_code 331 = .ok (.iload 5, 2) := by decide +kernel
theorem d_Model_init_333 : decode prog_12_method_1_code 333 = .ok (.bipush 10, 2) := by decide +kernel
theorem d_Model_init_335 : decode prog_12_method_1_code 335 = .ok (.if_icmp .le 8, 3) := by decide +kernel
theorem d_Model_init_338 : decode prog_12_method_1_code 338 = .ok (.bipush 10, 2) := by decide +kernel
theorem d_Model_init_340 : decode prog_12_method_1_code 340 = .ok (.goto 5, 3) := by decide +kernel
theorem d_Model_init_343 : decode prog_12_method_1_code 343 = .ok (.iload 5, 2) := by decide +kernel
theorem d_Model_init_345 : decode prog_12_method_1_code 345 = .ok (.putfield 128, 3) := by decide +kernel
theorem d_Model_init_348 : decode prog_12_method_1_code 348 = .ok (.iconst 0, 1) := by decide +kernel
theorem d_Model_init_349 : decode prog_12_method_1_code 349 = .ok (.istore 6, 2) := by decide +kernel
theorem d_Model_init_351 : decode prog_12_method_1_code 351 = .ok (.iload 6, 2) := by decide +kernel
theorem d_Model_init_353 : decode prog_12_method_1_code 353 = .ok (.bipush 8, 2) := by decide +kernel
theorem d_Model_init_355 : decode prog_12_method_1_code 355 = .ok (.if_icmp .ge 17, 3) := by decide +kernel
theorem d_Model_init_358 : decode prog_12_method_1_code 358 = .ok (.aload_n 0, 1) := by decide +kernel
theorem d_Model_init_359 : decode prog_12_method_1_code 359 = .ok (.getfield 45, 3) := by decide +kernel
theorem d_Model_init_362 : decode prog_12_method_1_code 362 = .ok (.iload 6, 2) := by decide +kernel
theorem d_Model_init_364 : decode prog_12_method_1_code 364 = .ok (.iconst (-1), 1) := by decide +kernel
theorem d_Model_init_365 : decode prog_12_method_1_code 365 = .ok (.iastore, 1) := by decide +kernel
theorem d_Model_init_366 : decode prog_12_method_1_code 366 = .ok (.iinc 6 1, 3) := by decide +kernel
theorem d_Model_init_369 : decode prog_12_method_1_code 369 = .ok (.goto (-18), 3) := by decide +kernel
theorem d_Model_init_372 : decode prog_12_method_1_code 372 = .ok (.return_, 1) := by decide +kernel
set_option maxRecDepth 50000 in
theorem cd_Model_init : Cond.code y_Model_init prog_12_method_1_code 7 none ∈ TB := mem_TB 843 rfl rfl
theorem im_Model_init : Cond.instanceMethod y_Model_init ∈ TB := mem_TB 842 (by decide +kernel) (by decide +kernel)
theorem hd_Model_init : y_Model_init.cls ≠ "java/lang/invoke/MethodHandle" ∧ y_Model_init.cls ≠ "java/lang/invoke/VarHandle" ∧ (parseMethodDescriptor y_Model_init.desc).map (fun d => d.parameters.length) = some 3 := by decide +kernel
def y_Model_nearest : MethodName := ⟨R_Model, "nearest", "(I)I"⟩
abbrev ws_Model_nearest : List Cond := .code y_Model_nearest prog_12_method_2_code 1 (some .int) :: TB
theorem d_Model_nearest_0 : decode prog_12_method_2_code 0 = .ok (.iload_n 0, 1) := by decide +kernel
theorem d_Model_nearest_1 : decode prog_12_method_2_code 1 = .ok (.iconst 1, 1) := by decide +kernel
theorem d_Model_nearest_2 : decode prog_12_method_2_code 2 = .ok (.if_icmp .ge 7, 3) := by decide +kernel
theorem d_Model_nearest_5 : decode prog_12_method_2_code 5 = .ok (.iconst 1, 1) := by decide +kernel
theorem d_Model_nearest_6 : decode prog_12_method_2_code 6 = .ok (.goto 15, 3) := by decide +kernel
theorem d_Model_nearest_9 : decode prog_12_method_2_code 9 = .ok (.iload_n 0, 1) := by decide +kernel
theorem d_Model_nearest_10 : decode prog_12_method_2_code 10 = .ok (.ldc 131, 2) := by decide +kernel
theorem d_Model_nearest_12 : decode prog_12_method_2_code 12 = .ok (.if_icmp .le 8, 3) := by decide +kernel
theorem d_Model_nearest_15 : decode prog_12_method_2_code 15 = .ok (.ldc 131, 2) := by decide +kernel
theorem d_Model_nearest_17 : decode prog_12_method_2_code 17 = .ok (.goto 4, 3) := by decide +kernel
theorem d_Model_nearest_20 : decode prog_12_method_2_code 20 = .ok (.iload_n 0, 1) := by decide +kernel
theorem d_Model_nearest_21 : decode prog_12_method_2_code 21 = .ok (.ireturn, 1) := by decide +kernel
set_option maxRecDepth 50000 in
theorem cd_Model_nearest : Cond.code y_Model_nearest prog_12_method_2_code 1 (some .int) ∈ TB := mem_TB 850 rfl rfl
theorem st_Model_nearest : Cond.static y_Model_nearest ∈ TB := mem_TB 849 (by decide +kernel) (by decide +kernel)
theorem hd_Model_nearest : y_Model_nearest.cls ≠ "java/lang/invoke/MethodHandle" ∧ y_Model_nearest.cls ≠ "java/lang/invoke/VarHandle" ∧ (parseMethodDescriptor y_Model_nearest.desc).map (fun d => d.parameters.length) = some 1 := by decide +kernel
def y_Model_thrown : MethodName := ⟨R_Model, "thrown", "()I"⟩
abbrev ws_Model_thrown : List Cond := .code y_Model_thrown prog_12_method_3_code 1 (some .int) :: TB
theorem d_Model_thrown_0 : decode prog_12_method_3_code 0 = .ok (.aload_n 0, 1) := by decide +kernel
theorem d_Model_thrown_1 : decode prog_12_method_3_code 1 = .ok (.getfield 132, 3) := by decide +kernel
theorem d_Model_thrown_4 : decode prog_12_method_3_code 4 = .ok (.ireturn, 1) := by decide +kernel
set_option maxRecDepth 50000 in
theorem cd_Model_thrown : Cond.code y_Model_thrown prog_12_method_3_code 1 (some .int) ∈ TB := mem_TB 997 rfl rfl
theorem im_Model_thrown : Cond.instanceMethod y_Model_thrown ∈ TB := mem_TB 995 (by decide +kernel) (by decide +kernel)
theorem sl_Model_thrown : Cond.selects R_Model y_Model_thrown y_Model_thrown ∈ TB := mem_TB 996 (by decide +kernel) (by decide +kernel)
theorem hd_Model_thrown : y_Model_thrown.cls ≠ "java/lang/invoke/MethodHandle" ∧ y_Model_thrown.cls ≠ "java/lang/invoke/VarHandle" ∧ (parseMethodDescriptor y_Model_thrown.desc).map (fun d => d.parameters.length) = some 0 := by decide +kernel
def y_Model_isIn : MethodName := ⟨R_Model, "isIn", "(JJJ)Z"⟩
abbrev ws_Model_isIn : List Cond := .code y_Model_isIn prog_12_method_4_code 6 (some .boolean) :: TB
theorem d_Model_isIn_0 : decode prog_12_method_4_code 0 = .ok (.lload_n 0, 1) := by decide +kernel
theorem d_Model_isIn_1 : decode prog_12_method_4_code 1 = .ok (.lload_n 2, 1) := by decide +kernel
theorem d_Model_isIn_2 : decode prog_12_method_4_code 2 = .ok (.lcmp, 1) := by decide +kernel
theorem d_Model_isIn_3 : decode prog_12_method_4_code 3 = .ok (.ifCond .lt 14, 3) := by decide +kernel
theorem d_Model_isIn_6 : decode prog_12_method_4_code 6 = .ok (.lload_n 0, 1) := by decide +kernel
theorem d_Model_isIn_7 : decode prog_12_method_4_code 7 = .ok (.lload 4, 2) := by decide +kernel
theorem d_Model_isIn_9 : decode prog_12_method_4_code 9 = .ok (.lcmp, 1) := by decide +kernel
theorem d_Model_isIn_10 : decode prog_12_method_4_code 10 = .ok (.ifCond .gt 7, 3) := by decide +kernel
theorem d_Model_isIn_13 : decode prog_12_method_4_code 13 = .ok (.iconst 1, 1) := by decide +kernel
theorem d_Model_isIn_14 : decode prog_12_method_4_code 14 = .ok (.goto 4, 3) := by decide +kernel
theorem d_Model_isIn_17 : decode prog_12_method_4_code 17 = .ok (.iconst 0, 1) := by decide +kernel
theorem d_Model_isIn_18 : decode prog_12_method_4_code 18 = .ok (.ireturn, 1) := by decide +kernel
set_option maxRecDepth 50000 in
theorem cd_Model_isIn : Cond.code y_Model_isIn prog_12_method_4_code 6 (some .boolean) ∈ TB := mem_TB 1005 rfl rfl
theorem st_Model_isIn : Cond.static y_Model_isIn ∈ TB := mem_TB 1004 (by decide +kernel) (by decide +kernel)
theorem hd_Model_isIn : y_Model_isIn.cls ≠ "java/lang/invoke/MethodHandle" ∧ y_Model_isIn.cls ≠ "java/lang/invoke/VarHandle" ∧ (parseMethodDescriptor y_Model_isIn.desc).map (fun d => d.parameters.length) = some 3 := by decide +kernel
def y_Model_told : MethodName := ⟨R_Model, "told", "(Z)Z"⟩
abbrev ws_Model_told : List Cond := .code y_Model_told prog_12_method_5_code 2 (some .boolean) :: TB
theorem d_Model_told_0 : decode prog_12_method_5_code 0 = .ok (.aload_n 0, 1) := by decide +kernel
theorem d_Model_told_1 : decode prog_12_method_5_code 1 = .ok (.aload_n 0, 1) := by decide +kernel
theorem d_Model_told_2 : decode prog_12_method_5_code 2 = .ok (.getfield 135, 3) := by decide +kernel
theorem d_Model_told_5 : decode prog_12_method_5_code 5 = .ok (.ifCond .eq 11, 3) := by decide +kernel
theorem d_Model_told_8 : decode prog_12_method_5_code 8 = .ok (.iload_n 1, 1) := by decide +kernel
theorem d_Model_told_9 : decode prog_12_method_5_code 9 = .ok (.ifCond .ne 7, 3) := by decide +kernel
theorem d_Model_told_12 : decode prog_12_method_5_code 12 = .ok (.iconst 1, 1) := by decide +kernel
theorem d_Model_told_13 : decode prog_12_method_5_code 13 = .ok (.goto 4, 3) := by decide +kernel
theorem d_Model_told_16 : decode prog_12_method_5_code 16 = .ok (.iconst 0, 1) := by decide +kernel
theorem d_Model_told_17 : decode prog_12_method_5_code 17 = .ok (.putfield 135, 3) := by decide +kernel
theorem d_Model_told_20 : decode prog_12_method_5_code 20 = .ok (.iload_n 1, 1) := by decide +kernel
theorem d_Model_told_21 : decode prog_12_method_5_code 21 = .ok (.ireturn, 1) := by decide +kernel
set_option maxRecDepth 50000 in
theorem cd_Model_told : Cond.code y_Model_told prog_12_method_5_code 2 (some .boolean) ∈ TB := mem_TB 1011 rfl rfl
theorem im_Model_told : Cond.instanceMethod y_Model_told ∈ TB := mem_TB 1010 (by decide +kernel) (by decide +kernel)
theorem sl_Model_told : Cond.selects R_Model y_Model_told y_Model_told ∈ TB := mem_TBs (by decide +kernel) (by decide +kernel)
theorem hd_Model_told : y_Model_told.cls ≠ "java/lang/invoke/MethodHandle" ∧ y_Model_told.cls ≠ "java/lang/invoke/VarHandle" ∧ (parseMethodDescriptor y_Model_told.desc).map (fun d => d.parameters.length) = some 1 := by decide +kernel
def y_Model_stepsOf : MethodName := ⟨R_Model, "stepsOf", "(I)I"⟩
abbrev ws_Model_stepsOf : List Cond := .code y_Model_stepsOf prog_12_method_6_code 2 (some .int) :: TB
theorem d_Model_stepsOf_0 : decode prog_12_method_6_code 0 = .ok (.iload_n 1, 1) := by decide +kernel
theorem d_Model_stepsOf_1 : decode prog_12_method_6_code 1 = .ok (.aload_n 0, 1) := by decide +kernel
theorem d_Model_stepsOf_2 : decode prog_12_method_6_code 2 = .ok (.getfield 122, 3) := by decide +kernel
theorem d_Model_stepsOf_5 : decode prog_12_method_6_code 5 = .ok (.iadd, 1) := by decide +kernel
theorem d_Model_stepsOf_6 : decode prog_12_method_6_code 6 = .ok (.iconst 1, 1) := by decide +kernel
theorem d_Model_stepsOf_7 : decode prog_12_method_6_code 7 = .ok (.isub, 1) := by decide +kernel
theorem d_Model_stepsOf_8 : decode prog_12_method_6_code 8 = .ok (.aload_n 0, 1) := by decide +kernel
theorem d_Model_stepsOf_9 : decode prog_12_method_6_code 9 = .ok (.getfield 122, 3) := by decide +kernel
theorem d_Model_stepsOf_12 : decode prog_12_method_6_code 12 = .ok (.idiv, 1) := by decide +kernel
theorem d_Model_stepsOf_13 : decode prog_12_method_6_code 13 = .ok (.ireturn, 1) := by decide +kernel
set_option maxRecDepth 50000 in
theorem cd_Model_stepsOf : Cond.code y_Model_stepsOf prog_12_method_6_code 2 (some .int) ∈ TB := mem_TB 1020 rfl rfl
theorem im_Model_stepsOf : Cond.instanceMethod y_Model_stepsOf ∈ TB := mem_TB 1019 (by decide +kernel) (by decide +kernel)
theorem sl_Model_stepsOf : Cond.selects R_Model y_Model_stepsOf y_Model_stepsOf ∈ TB := mem_TBs (by decide +kernel) (by decide +kernel)
theorem hd_Model_stepsOf : y_Model_stepsOf.cls ≠ "java/lang/invoke/MethodHandle" ∧ y_Model_stepsOf.cls ≠ "java/lang/invoke/VarHandle" ∧ (parseMethodDescriptor y_Model_stepsOf.desc).map (fun d => d.parameters.length) = some 1 := by decide +kernel
def y_Model_fault : MethodName := ⟨R_Model, "fault", "(IIIIII)Z"⟩
abbrev ws_Model_fault : List Cond := .code y_Model_fault prog_12_method_7_code 8 (some .boolean) :: TB
theorem d_Model_fault_0 : decode prog_12_method_7_code 0 = .ok (.iload_n 2, 1) := by decide +kernel
theorem d_Model_fault_1 : decode prog_12_method_7_code 1 = .ok (.i2l, 1) := by decide +kernel
theorem d_Model_fault_2 : decode prog_12_method_7_code 2 = .ok (.lconst 0, 1) := by decide +kernel
theorem d_Model_fault_3 : decode prog_12_method_7_code 3 = .ok (.ldc2_w 139, 3) := by decide +kernel
theorem d_Model_fault_6 : decode prog_12_method_7_code 6 = .ok (.invokestatic 141, 3) := by decide +kernel
theorem d_Model_fault_9 : decode prog_12_method_7_code 9 = .ok (.ifCond .eq 62, 3) := by decide +kernel
theorem d_Model_fault_12 : decode prog_12_method_7_code 12 = .ok (.iload_n 3, 1) := by decide +kernel
theorem d_Model_fault_13 : decode prog_12_method_7_code 13 = .ok (.i2l, 1) := by decide +kernel
theorem d_Model_fault_14 : decode prog_12_method_7_code 14 = .ok (.ldc2_w 145, 3) := by decide +kernel
theorem d_Model_fault_17 : decode prog_12_method_7_code 17 = .ok (.ldc2_w 147, 3) := by decide +kernel
theorem d_Model_fault_20 : decode prog_12_method_7_code 20 = .ok (.invokestatic 141, 3) := by decide +kernel
theorem d_Model_fault_23 : decode prog_12_method_7_code 23 = .ok (.ifCond .eq 48, 3) := by decide +kernel
theorem d_Model_fault_26 : decode prog_12_method_7_code 26 = .ok (.iload 4, 2) := by decide +kernel
theorem d_Model_fault_28 : decode prog_12_method_7_code 28 = .ok (.i2l, 1) := by decide +kernel
theorem d_Model_fault_29 : decode prog_12_method_7_code 29 = .ok (.ldc2_w 145, 3) := by decide +kernel
theorem d_Model_fault_32 : decode prog_12_method_7_code 32 = .ok (.ldc2_w 147, 3) := by decide +kernel
theorem d_Model_fault_35 : decode prog_12_method_7_code 35 = .ok (.invokestatic 141, 3) := by decide +kernel
theorem d_Model_fault_38 : decode prog_12_method_7_code 38 = .ok (.ifCond .eq 33, 3) := by decide +kernel
theorem d_Model_fault_41 : decode prog_12_method_7_code 41 = .ok (.iload 5, 2) := by decide +kernel
theorem d_Model_fault_43 : decode prog_12_method_7_code 43 = .ok (.i2l, 1) := by decide +kernel
theorem d_Model_fault_44 : decode prog_12_method_7_code 44 = .ok (.lconst 0, 1) := by decide +kernel
theorem d_Model_fault_45 : decode prog_12_method_7_code 45 = .ok (.ldc2_w 147, 3) := by decide +kernel
theorem d_Model_fault_48 : decode prog_12_method_7_code 48 = .ok (.invokestatic 141, 3) := by decide +kernel
theorem d_Model_fault_51 : decode prog_12_method_7_code 51 = .ok (.ifCond .eq 20, 3) := by decide +kernel
theorem d_Model_fault_54 : decode prog_12_method_7_code 54 = .ok (.iload 6, 2) := by decide +kernel
theorem d_Model_fault_56 : decode prog_12_method_7_code 56 = .ok (.i2l, 1) := by decide +kernel
theorem d_Model_fault_57 : decode prog_12_method_7_code 57 = .ok (.lconst 0, 1) := by decide +kernel
theorem d_Model_fault_58 : decode prog_12_method_7_code 58 = .ok (.ldc2_w 147, 3) := by decide +kernel
theorem d_Model_fault_61 : decode prog_12_method_7_code 61 = .ok (.invokestatic 141, 3) := by decide +kernel
theorem d_Model_fault_64 : decode prog_12_method_7_code 64 = .ok (.ifCond .eq 7, 3) := by decide +kernel
theorem d_Model_fault_67 : decode prog_12_method_7_code 67 = .ok (.iconst 1, 1) := by decide +kernel
theorem d_Model_fault_68 : decode prog_12_method_7_code 68 = .ok (.goto 4, 3) := by decide +kernel
theorem d_Model_fault_71 : decode prog_12_method_7_code 71 = .ok (.iconst 0, 1) := by decide +kernel
theorem d_Model_fault_72 : decode prog_12_method_7_code 72 = .ok (.istore 7, 2) := by decide +kernel
theorem d_Model_fault_74 : decode prog_12_method_7_code 74 = .ok (.aload_n 0, 1) := by decide +kernel
theorem d_Model_fault_75 : decode prog_12_method_7_code 75 = .ok (.iload_n 1, 1) := by decide +kernel
theorem d_Model_fault_76 : decode prog_12_method_7_code 76 = .ok (.ifCond .lt 8, 3) := by decide +kernel
theorem d_Model_fault_79 : decode prog_12_method_7_code 79 = .ok (.iload_n 1, 1) := by decide +kernel
theorem d_Model_fault_80 : decode prog_12_method_7_code 80 = .ok (.iconst 1, 1) := by decide +kernel
theorem d_Model_fault_81 : decode prog_12_method_7_code 81 = .ok (.if_icmp .le 7, 3) := by decide +kernel
theorem d_Model_fault_84 : decode prog_12_method_7_code 84 = .ok (.iconst 1, 1) := by decide +kernel
theorem d_Model_fault_85 : decode prog_12_method_7_code 85 = .ok (.goto 26, 3) := by decide +kernel
theorem d_Model_fault_88 : decode prog_12_method_7_code 88 = .ok (.aload_n 0, 1) := by decide +kernel
theorem d_Model_fault_89 : decode prog_12_method_7_code 89 = .ok (.getfield 149, 3) := by decide +kernel
theorem d_Model_fault_92 : decode prog_12_method_7_code 92 = .ok (.bipush 20, 2) := by decide +kernel
theorem d_Model_fault_94 : decode prog_12_method_7_code 94 = .ok (.if_icmp .ne 7, 3) := by decide +kernel
theorem d_Model_fault_97 : decode prog_12_method_7_code 97 = .ok (.iconst 2, 1) := by decide +kernel
theorem d_Model_fault_98 : decode prog_12_method_7_code 98 = .ok (.goto 13, 3) := by decide +kernel
theorem d_Model_fault_101 : decode prog_12_method_7_code 101 = .ok (.iload 7, 2) := by decide +kernel
theorem d_Model_fault_103 : decode prog_12_method_7_code 103 = .ok (.ifCond .eq 7, 3) := by decide +kernel
theorem d_Model_fault_106 : decode prog_12_method_7_code 106 = .ok (.iconst 0, 1) := by decide +kernel
theorem d_Model_fault_107 : decode prog_12_method_7_code 107 = .ok (.goto 4, 3) := by decide +kernel
theorem d_Model_fault_110 : decode prog_12_method_7_code 110 = .ok (.iconst 3, 1) := by decide +kernel
theorem d_Model_fault_111 : decode prog_12_method_7_code 111 = .ok (.putfield 132, 3) := by decide +kernel
theorem d_Model_fault_114 : decode prog_12_method_7_code 114 = .ok (.aload_n 0, 1) := by decide +kernel
theorem d_Model_fault_115 : decode prog_12_method_7_code 115 = .ok (.getfield 132, 3) := by decide +kernel
theorem d_Model_fault_118 : decode prog_12_method_7_code 118 = .ok (.ifCond .gt 13, 3) := by decide +kernel
theorem d_Model_fault_121 : decode prog_12_method_7_code 121 = .ok (.iload 5, 2) := by decide +kernel
theorem d_Model_fault_123 : decode prog_12_method_7_code 123 = .ok (.ifCond .eq 8, 3) := by decide +kernel
theorem d_Model_fault_126 : decode prog_12_method_7_code 126 = .ok (.iload 6, 2) := by decide +kernel
theorem d_Model_fault_128 : decode prog_12_method_7_code 128 = .ok (.ifCond .ne 5, 3) := by decide +kernel
theorem d_Model_fault_131 : decode prog_12_method_7_code 131 = .ok (.iconst 0, 1) := by decide +kernel
theorem d_Model_fault_132 : decode prog_12_method_7_code 132 = .ok (.ireturn, 1) := by decide +kernel
theorem d_Model_fault_133 : decode prog_12_method_7_code 133 = .ok (.aload_n 0, 1) := by decide +kernel
theorem d_Model_fault_134 : decode prog_12_method_7_code 134 = .ok (.getfield 7, 3) := by decide +kernel
theorem d_Model_fault_137 : decode prog_12_method_7_code 137 = .ok (.aload_n 0, 1) := by decide +kernel
theorem d_Model_fault_138 : decode prog_12_method_7_code 138 = .ok (.getfield 149, 3) := by decide +kernel
theorem d_Model_fault_141 : decode prog_12_method_7_code 141 = .ok (.iload_n 1, 1) := by decide +kernel
theorem d_Model_fault_142 : decode prog_12_method_7_code 142 = .ok (.iastore, 1) := by decide +kernel
theorem d_Model_fault_143 : decode prog_12_method_7_code 143 = .ok (.aload_n 0, 1) := by decide +kernel
theorem d_Model_fault_144 : decode prog_12_method_7_code 144 = .ok (.getfield 13, 3) := by decide +kernel
theorem d_Model_fault_147 : decode prog_12_method_7_code 147 = .ok (.aload_n 0, 1) := by decide +kernel
theorem d_Model_fault_148 : decode prog_12_method_7_code 148 = .ok (.getfield 149, 3) := by decide +kernel
theorem d_Model_fault_151 : decode prog_12_method_7_code 151 = .ok (.iload_n 2, 1) := by decide +kernel
theorem d_Model_fault_152 : decode prog_12_method_7_code 152 = .ok (.iastore, 1) := by decide +kernel
theorem d_Model_fault_153 : decode prog_12_method_7_code 153 = .ok (.aload_n 0, 1) := by decide +kernel
theorem d_Model_fault_154 : decode prog_12_method_7_code 154 = .ok (.getfield 16, 3) := by decide +kernel
theorem d_Model_fault_157 : decode prog_12_method_7_code 157 = .ok (.aload_n 0, 1) := by decide +kernel
theorem d_Model_fault_158 : decode prog_12_method_7_code 158 = .ok (.getfield 149, 3) := by decide +kernel
theorem d_Model_fault_161 : decode prog_12_method_7_code 161 = .ok (.iload_n 3, 1) := by decide +kernel
theorem d_Model_fault_162 : decode prog_12_method_7_code 162 = .ok (.iastore, 1) := by decide +kernel
theorem d_Model_fault_163 : decode prog_12_method_7_code 163 = .ok (.aload_n 0, 1) := by decide +kernel
theorem d_Model_fault_164 : decode prog_12_method_7_code 164 = .ok (.getfield 19, 3) := by decide +kernel
theorem d_Model_fault_167 : decode prog_12_method_7_code 167 = .ok (.aload_n 0, 1) := by decide +kernel
theorem d_Model_fault_168 : decode prog_12_method_7_code 168 = .ok (.getfield 149, 3) := by decide +kernel
theorem d_Model_fault_171 : decode prog_12_method_7_code 171 = .ok (.iload 4, 2) := by decide +kernel
theorem d_Model_fault_173 : decode prog_12_method_7_code 173 = .ok (.iastore, 1) := by decide +kernel
theorem d_Model_fault_174 : decode prog_12_method_7_code 174 = .ok (.aload_n 0, 1) := by decide +kernel
theorem d_Model_fault_175 : decode prog_12_method_7_code 175 = .ok (.getfield 22, 3) := by decide +kernel
theorem d_Model_fault_178 : decode prog_12_method_7_code 178 = .ok (.aload_n 0, 1) := by decide +kernel
theorem d_Model_fault_179 : decode prog_12_method_7_code 179 = .ok (.getfield 149, 3) := by decide +kernel
theorem d_Model_fault_182 : decode prog_12_method_7_code 182 = .ok (.iload 5, 2) := by decide +kernel
theorem d_Model_fault_184 : decode prog_12_method_7_code 184 = .ok (.iastore, 1) := by decide +kernel
theorem d_Model_fault_185 : decode prog_12_method_7_code 185 = .ok (.aload_n 0, 1) := by decide +kernel
theorem d_Model_fault_186 : decode prog_12_method_7_code 186 = .ok (.getfield 25, 3) := by decide +kernel
theorem d_Model_fault_189 : decode prog_12_method_7_code 189 = .ok (.aload_n 0, 1) := by decide +kernel
theorem d_Model_fault_190 : decode prog_12_method_7_code 190 = .ok (.getfield 149, 3) := by decide +kernel
theorem d_Model_fault_193 : decode prog_12_method_7_code 193 = .ok (.iload 6, 2) := by decide +kernel
theorem d_Model_fault_195 : decode prog_12_method_7_code 195 = .ok (.iastore, 1) := by decide +kernel
theorem d_Model_fault_196 : decode prog_12_method_7_code 196 = .ok (.aload_n 0, 1) := by decide +kernel
theorem d_Model_fault_197 : decode prog_12_method_7_code 197 = .ok (.dup, 1) := by decide +kernel
theorem d_Model_fault_198 : decode prog_12_method_7_code 198 = .ok (.getfield 149, 3) := by decide +kernel
theorem d_Model_fault_201 : decode prog_12_method_7_code 201 = .ok (.iconst 1, 1) := by decide +kernel
theorem d_Model_fault_202 : decode prog_12_method_7_code 202 = .ok (.iadd, 1) := by decide +kernel
theorem d_Model_fault_203 : decode prog_12_method_7_code 203 = .ok (.putfield 149, 3) := by decide +kernel
theorem d_Model_fault_206 : decode prog_12_method_7_code 206 = .ok (.aload_n 0, 1) := by decide +kernel
theorem d_Model_fault_207 : decode prog_12_method_7_code 207 = .ok (.iconst 1, 1) := by decide +kernel
theorem d_Model_fault_208 : decode prog_12_method_7_code 208 = .ok (.invokevirtual 152, 3) := by decide +kernel
theorem d_Model_fault_211 : decode prog_12_method_7_code 211 = .ok (.ireturn, 1) := by decide +kernel
set_option maxRecDepth 50000 in
theorem cd_Model_fault : Cond.code y_Model_fault prog_12_method_7_code 8 (some .boolean) ∈ TB := mem_TB 1001 rfl rfl
theorem im_Model_fault : Cond.instanceMethod y_Model_fault ∈ TB := mem_TB 999 (by decide +kernel) (by decide +kernel)
theorem sl_Model_fault : Cond.selects R_Model y_Model_fault y_Model_fault ∈ TB := mem_TB 1000 (by decide +kernel) (by decide +kernel)
theorem hd_Model_fault : y_Model_fault.cls ≠ "java/lang/invoke/MethodHandle" ∧ y_Model_fault.cls ≠ "java/lang/invoke/VarHandle" ∧ (parseMethodDescriptor y_Model_fault.desc).map (fun d => d.parameters.length) = some 6 := by decide +kernel
def y_Model_piece : MethodName := ⟨R_Model, "piece", "(IIIJ)I"⟩
abbrev ws_Model_piece : List Cond := .code y_Model_piece prog_12_method_8_code 7 (some .int) :: TB
theorem d_Model_piece_0 : decode prog_12_method_8_code 0 = .ok (.iload_n 1, 1) := by decide +kernel
theorem d_Model_piece_1 : decode prog_12_method_8_code 1 = .ok (.i2l, 1) := by decide +kernel
theorem d_Model_piece_2 : decode prog_12_method_8_code 2 = .ok (.lconst 1, 1) := by decide +kernel
theorem d_Model_piece_3 : decode prog_12_method_8_code 3 = .ok (.ldc2_w 147, 3) := by decide +kernel
theorem d_Model_piece_6 : decode prog_12_method_8_code 6 = .ok (.invokestatic 141, 3) := by decide +kernel
theorem d_Model_piece_9 : decode prog_12_method_8_code 9 = .ok (.ifCond .eq 44, 3) := by decide +kernel
theorem d_Model_piece_12 : decode prog_12_method_8_code 12 = .ok (.iload_n 2, 1) := by decide +kernel
theorem d_Model_piece_13 : decode prog_12_method_8_code 13 = .ok (.i2l, 1) := by decide +kernel
theorem d_Model_piece_14 : decode prog_12_method_8_code 14 = .ok (.lconst 1, 1) := by decide +kernel
theorem d_Model_piece_15 : decode prog_12_method_8_code 15 = .ok (.ldc2_w 147, 3) := by decide +kernel
theorem d_Model_piece_18 : decode prog_12_method_8_code 18 = .ok (.invokestatic 141, 3) := by decide +kernel
theorem d_Model_piece_21 : decode prog_12_method_8_code 21 = .ok (.ifCond .eq 32, 3) := by decide +kernel
theorem d_Model_piece_24 : decode prog_12_method_8_code 24 = .ok (.iload_n 3, 1) := by decide +kernel
theorem d_Model_piece_25 : decode prog_12_method_8_code 25 = .ok (.i2l, 1) := by decide +kernel
theorem d_Model_piece_26 : decode prog_12_method_8_code 26 = .ok (.iload_n 2, 1) := by decide +kernel
theorem d_Model_piece_27 : decode prog_12_method_8_code 27 = .ok (.i2l, 1) := by decide +kernel
theorem d_Model_piece_28 : decode prog_12_method_8_code 28 = .ok (.ldc2_w 147, 3) := by decide +kernel
theorem d_Model_piece_31 : decode prog_12_method_8_code 31 = .ok (.invokestatic 141, 3) := by decide +kernel
theorem d_Model_piece_34 : decode prog_12_method_8_code 34 = .ok (.ifCond .eq 19, 3) := by decide +kernel
theorem d_Model_piece_37 : decode prog_12_method_8_code 37 = .ok (.lload 4, 2) := by decide +kernel
theorem d_Model_piece_39 : decode prog_12_method_8_code 39 = .ok (.lconst 1, 1) := by decide +kernel
theorem d_Model_piece_40 : decode prog_12_method_8_code 40 = .ok (.ldc2_w 156, 3) := by decide +kernel
theorem d_Model_piece_43 : decode prog_12_method_8_code 43 = .ok (.invokestatic 141, 3) := by decide +kernel
theorem d_Model_piece_46 : decode prog_12_method_8_code 46 = .ok (.ifCond .eq 7, 3) := by decide +kernel
theorem d_Model_piece_49 : decode prog_12_method_8_code 49 = .ok (.iconst 1, 1) := by decide +kernel
theorem d_Model_piece_50 : decode prog_12_method_8_code 50 = .ok (.goto 4, 3) := by decide +kernel
theorem d_Model_piece_53 : decode prog_12_method_8_code 53 = .ok (.iconst 0, 1) := by decide +kernel
theorem d_Model_piece_54 : decode prog_12_method_8_code 54 = .ok (.istore 6, 2) := by decide +kernel
theorem d_Model_piece_56 : decode prog_12_method_8_code 56 = .ok (.aload_n 0, 1) := by decide +kernel
theorem d_Model_piece_57 : decode prog_12_method_8_code 57 = .ok (.aload_n 0, 1) := by decide +kernel
theorem d_Model_piece_58 : decode prog_12_method_8_code 58 = .ok (.getfield 158, 3) := by decide +kernel
theorem d_Model_piece_61 : decode prog_12_method_8_code 61 = .ok (.bipush 8, 2) := by decide +kernel
theorem d_Model_piece_63 : decode prog_12_method_8_code 63 = .ok (.if_icmp .ne 7, 3) := by decide +kernel
theorem d_Model_piece_66 : decode prog_12_method_8_code 66 = .ok (.iconst 1, 1) := by decide +kernel
theorem d_Model_piece_67 : decode prog_12_method_8_code 67 = .ok (.goto 13, 3) := by decide +kernel
theorem d_Model_piece_70 : decode prog_12_method_8_code 70 = .ok (.iload 6, 2) := by decide +kernel
theorem d_Model_piece_72 : decode prog_12_method_8_code 72 = .ok (.ifCond .eq 7, 3) := by decide +kernel
theorem d_Model_piece_75 : decode prog_12_method_8_code 75 = .ok (.iconst 0, 1) := by decide +kernel
theorem d_Model_piece_76 : decode prog_12_method_8_code 76 = .ok (.goto 4, 3) := by decide +kernel
theorem d_Model_piece_79 : decode prog_12_method_8_code 79 = .ok (.iconst 2, 1) := by decide +kernel
theorem d_Model_piece_80 : decode prog_12_method_8_code 80 = .ok (.putfield 132, 3) := by decide +kernel
theorem d_Model_piece_83 : decode prog_12_method_8_code 83 = .ok (.aload_n 0, 1) := by decide +kernel
theorem d_Model_piece_84 : decode prog_12_method_8_code 84 = .ok (.getfield 132, 3) := by decide +kernel
theorem d_Model_piece_87 : decode prog_12_method_8_code 87 = .ok (.ifCond .le 5, 3) := by decide +kernel
theorem d_Model_piece_90 : decode prog_12_method_8_code 90 = .ok (.iconst 0, 1) := by decide +kernel
theorem d_Model_piece_91 : decode prog_12_method_8_code 91 = .ok (.ireturn, 1) := by decide +kernel
theorem d_Model_piece_92 : decode prog_12_method_8_code 92 = .ok (.aload_n 0, 1) := by decide +kernel
theorem d_Model_piece_93 : decode prog_12_method_8_code 93 = .ok (.getfield 28, 3) := by decide +kernel
theorem d_Model_piece_96 : decode prog_12_method_8_code 96 = .ok (.aload_n 0, 1) := by decide +kernel
theorem d_Model_piece_97 : decode prog_12_method_8_code 97 = .ok (.getfield 158, 3) := by decide +kernel
theorem d_Model_piece_100 : decode prog_12_method_8_code 100 = .ok (.aload_n 0, 1) := by decide +kernel
theorem d_Model_piece_101 : decode prog_12_method_8_code 101 = .ok (.iload_n 1, 1) := by decide +kernel
theorem d_Model_piece_102 : decode prog_12_method_8_code 102 = .ok (.invokevirtual 161, 3) := by decide +kernel
theorem d_Model_piece_105 : decode prog_12_method_8_code 105 = .ok (.iastore, 1) := by decide +kernel
theorem d_Model_piece_106 : decode prog_12_method_8_code 106 = .ok (.aload_n 0, 1) := by decide +kernel
theorem d_Model_piece_107 : decode prog_12_method_8_code 107 = .ok (.getfield 31, 3) := by decide +kernel
theorem d_Model_piece_110 : decode prog_12_method_8_code 110 = .ok (.aload_n 0, 1) := by decide +kernel
theorem d_Model_piece_111 : decode prog_12_method_8_code 111 = .ok (.getfield 158, 3) := by decide +kernel
theorem d_Model_piece_114 : decode prog_12_method_8_code 114 = .ok (.iload_n 2, 1) := by decide +kernel
theorem d_Model_piece_115 : decode prog_12_method_8_code 115 = .ok (.iastore, 1) := by decide +kernel
theorem d_Model_piece_116 : decode prog_12_method_8_code 116 = .ok (.aload_n 0, 1) := by decide +kernel
theorem d_Model_piece_117 : decode prog_12_method_8_code 117 = .ok (.getfield 34, 3) := by decide +kernel
theorem d_Model_piece_120 : decode prog_12_method_8_code 120 = .ok (.aload_n 0, 1) := by decide +kernel
theorem d_Model_piece_121 : decode prog_12_method_8_code 121 = .ok (.getfield 158, 3) := by decide +kernel
theorem d_Model_piece_124 : decode prog_12_method_8_code 124 = .ok (.iload_n 3, 1) := by decide +kernel
theorem d_Model_piece_125 : decode prog_12_method_8_code 125 = .ok (.iastore, 1) := by decide +kernel
theorem d_Model_piece_126 : decode prog_12_method_8_code 126 = .ok (.aload_n 0, 1) := by decide +kernel
theorem d_Model_piece_127 : decode prog_12_method_8_code 127 = .ok (.getfield 37, 3) := by decide +kernel
theorem d_Model_piece_130 : decode prog_12_method_8_code 130 = .ok (.aload_n 0, 1) := by decide +kernel
theorem d_Model_piece_131 : decode prog_12_method_8_code 131 = .ok (.getfield 158, 3) := by decide +kernel
theorem d_Model_piece_134 : decode prog_12_method_8_code 134 = .ok (.lload 4, 2) := by decide +kernel
theorem d_Model_piece_136 : decode prog_12_method_8_code 136 = .ok (.lastore, 1) := by decide +kernel
theorem d_Model_piece_137 : decode prog_12_method_8_code 137 = .ok (.aload_n 0, 1) := by decide +kernel
theorem d_Model_piece_138 : decode prog_12_method_8_code 138 = .ok (.dup, 1) := by decide +kernel
theorem d_Model_piece_139 : decode prog_12_method_8_code 139 = .ok (.getfield 158, 3) := by decide +kernel
theorem d_Model_piece_142 : decode prog_12_method_8_code 142 = .ok (.iconst 1, 1) := by decide +kernel
theorem d_Model_piece_143 : decode prog_12_method_8_code 143 = .ok (.iadd, 1) := by decide +kernel
theorem d_Model_piece_144 : decode prog_12_method_8_code 144 = .ok (.putfield 158, 3) := by decide +kernel
theorem d_Model_piece_147 : decode prog_12_method_8_code 147 = .ok (.aload_n 0, 1) := by decide +kernel
theorem d_Model_piece_148 : decode prog_12_method_8_code 148 = .ok (.iconst 0, 1) := by decide +kernel
theorem d_Model_piece_149 : decode prog_12_method_8_code 149 = .ok (.putfield 135, 3) := by decide +kernel
theorem d_Model_piece_152 : decode prog_12_method_8_code 152 = .ok (.aload_n 0, 1) := by decide +kernel
theorem d_Model_piece_153 : decode prog_12_method_8_code 153 = .ok (.getfield 158, 3) := by decide +kernel
theorem d_Model_piece_156 : decode prog_12_method_8_code 156 = .ok (.iconst 1, 1) := by decide +kernel
theorem d_Model_piece_157 : decode prog_12_method_8_code 157 = .ok (.isub, 1) := by decide +kernel
theorem d_Model_piece_158 : decode prog_12_method_8_code 158 = .ok (.ireturn, 1) := by decide +kernel
set_option maxRecDepth 50000 in
theorem cd_Model_piece : Cond.code y_Model_piece prog_12_method_8_code 7 (some .int) ∈ TB := mem_TB 1015 rfl rfl
theorem im_Model_piece : Cond.instanceMethod y_Model_piece ∈ TB := mem_TB 1013 (by decide +kernel) (by decide +kernel)
theorem sl_Model_piece : Cond.selects R_Model y_Model_piece y_Model_piece ∈ TB := mem_TB 1014 (by decide +kernel) (by decide +kernel)
theorem hd_Model_piece : y_Model_piece.cls ≠ "java/lang/invoke/MethodHandle" ∧ y_Model_piece.cls ≠ "java/lang/invoke/VarHandle" ∧ (parseMethodDescriptor y_Model_piece.desc).map (fun d => d.parameters.length) = some 4 := by decide +kernel
def y_Model_noPiece : MethodName := ⟨R_Model, "noPiece", "(I)Z"⟩
abbrev ws_Model_noPiece : List Cond := .code y_Model_noPiece prog_12_method_9_code 2 (some .boolean) :: TB
theorem d_Model_noPiece_0 : decode prog_12_method_9_code 0 = .ok (.aload_n 0, 1) := by decide +kernel
theorem d_Model_noPiece_1 : decode prog_12_method_9_code 1 = .ok (.iload_n 1, 1) := by decide +kernel
theorem d_Model_noPiece_2 : decode prog_12_method_9_code 2 = .ok (.ifCond .lt 11, 3) := by decide +kernel
theorem d_Model_noPiece_5 : decode prog_12_method_9_code 5 = .ok (.iload_n 1, 1) := by decide +kernel
theorem d_Model_noPiece_6 : decode prog_12_method_9_code 6 = .ok (.aload_n 0, 1) := by decide +kernel
theorem d_Model_noPiece_7 : decode prog_12_method_9_code 7 = .ok (.getfield 158, 3) := by decide +kernel
theorem d_Model_noPiece_10 : decode prog_12_method_9_code 10 = .ok (.if_icmp .lt 7, 3) := by decide +kernel
theorem d_Model_noPiece_13 : decode prog_12_method_9_code 13 = .ok (.iconst 1, 1) := by decide +kernel
theorem d_Model_noPiece_14 : decode prog_12_method_9_code 14 = .ok (.goto 4, 3) := by decide +kernel
theorem d_Model_noPiece_17 : decode prog_12_method_9_code 17 = .ok (.iconst 0, 1) := by decide +kernel
theorem d_Model_noPiece_18 : decode prog_12_method_9_code 18 = .ok (.putfield 132, 3) := by decide +kernel
theorem d_Model_noPiece_21 : decode prog_12_method_9_code 21 = .ok (.aload_n 0, 1) := by decide +kernel
theorem d_Model_noPiece_22 : decode prog_12_method_9_code 22 = .ok (.getfield 132, 3) := by decide +kernel
theorem d_Model_noPiece_25 : decode prog_12_method_9_code 25 = .ok (.ifCond .le 7, 3) := by decide +kernel
theorem d_Model_noPiece_28 : decode prog_12_method_9_code 28 = .ok (.iconst 1, 1) := by decide +kernel
theorem d_Model_noPiece_29 : decode prog_12_method_9_code 29 = .ok (.goto 4, 3) := by decide +kernel
theorem d_Model_noPiece_32 : decode prog_12_method_9_code 32 = .ok (.iconst 0, 1) := by decide +kernel
theorem d_Model_noPiece_33 : decode prog_12_method_9_code 33 = .ok (.ireturn, 1) := by decide +kernel
set_option maxRecDepth 50000 in
theorem cd_Model_noPiece : Cond.code y_Model_noPiece prog_12_method_9_code 2 (some .boolean) ∈ TB := mem_TB 1028 rfl rfl
theorem im_Model_noPiece : Cond.instanceMethod y_Model_noPiece ∈ TB := mem_TB 1027 (by decide +kernel) (by decide +kernel)
theorem sl_Model_noPiece : Cond.selects R_Model y_Model_noPiece y_Model_noPiece ∈ TB := mem_TBs (by decide +kernel) (by decide +kernel)
theorem hd_Model_noPiece : y_Model_noPiece.cls ≠ "java/lang/invoke/MethodHandle" ∧ y_Model_noPiece.cls ≠ "java/lang/invoke/VarHandle" ∧ (parseMethodDescriptor y_Model_noPiece.desc).map (fun d => d.parameters.length) = some 1 := by decide +kernel
def y_Model_allows : MethodName := ⟨R_Model, "allows", "(III)Z"⟩
abbrev ws_Model_allows : List Cond := .code y_Model_allows prog_12_method_10_code 4 (some .boolean) :: TB
theorem d_Model_allows_0 : decode prog_12_method_10_code 0 = .ok (.aload_n 0, 1) := by decide +kernel
theorem d_Model_allows_1 : decode prog_12_method_10_code 1 = .ok (.iload_n 1, 1) := by decide +kernel
theorem d_Model_allows_2 : decode prog_12_method_10_code 2 = .ok (.invokevirtual 164, 3) := by decide +kernel
theorem d_Model_allows_5 : decode prog_12_method_10_code 5 = .ok (.ifCond .eq 5, 3) := by decide +kernel
theorem d_Model_allows_8 : decode prog_12_method_10_code 8 = .ok (.iconst 0, 1) := by decide +kernel
theorem d_Model_allows_9 : decode prog_12_method_10_code 9 = .ok (.ireturn, 1) := by decide +kernel
theorem d_Model_allows_10 : decode prog_12_method_10_code 10 = .ok (.aload_n 0, 1) := by decide +kernel
theorem d_Model_allows_11 : decode prog_12_method_10_code 11 = .ok (.iload_n 2, 1) := by decide +kernel
theorem d_Model_allows_12 : decode prog_12_method_10_code 12 = .ok (.ifCond .lt 8, 3) := by decide +kernel
theorem d_Model_allows_15 : decode prog_12_method_10_code 15 = .ok (.iload_n 2, 1) := by decide +kernel
theorem d_Model_allows_16 : decode prog_12_method_10_code 16 = .ok (.iconst 1, 1) := by decide +kernel
theorem d_Model_allows_17 : decode prog_12_method_10_code 17 = .ok (.if_icmp .le 7, 3) := by decide +kernel
theorem d_Model_allows_20 : decode prog_12_method_10_code 20 = .ok (.iconst 1, 1) := by decide +kernel
theorem d_Model_allows_21 : decode prog_12_method_10_code 21 = .ok (.goto 20, 3) := by decide +kernel
theorem d_Model_allows_24 : decode prog_12_method_10_code 24 = .ok (.iload_n 3, 1) := by decide +kernel
theorem d_Model_allows_25 : decode prog_12_method_10_code 25 = .ok (.i2l, 1) := by decide +kernel
theorem d_Model_allows_26 : decode prog_12_method_10_code 26 = .ok (.lconst 0, 1) := by decide +kernel
theorem d_Model_allows_27 : decode prog_12_method_10_code 27 = .ok (.ldc2_w 139, 3) := by decide +kernel
theorem d_Model_allows_30 : decode prog_12_method_10_code 30 = .ok (.invokestatic 141, 3) := by decide +kernel
theorem d_Model_allows_33 : decode prog_12_method_10_code 33 = .ok (.ifCond .eq 7, 3) := by decide +kernel
theorem d_Model_allows_36 : decode prog_12_method_10_code 36 = .ok (.iconst 0, 1) := by decide +kernel
theorem d_Model_allows_37 : decode prog_12_method_10_code 37 = .ok (.goto 4, 3) := by decide +kernel
theorem d_Model_allows_40 : decode prog_12_method_10_code 40 = .ok (.iconst 2, 1) := by decide +kernel
theorem d_Model_allows_41 : decode prog_12_method_10_code 41 = .ok (.putfield 132, 3) := by decide +kernel
theorem d_Model_allows_44 : decode prog_12_method_10_code 44 = .ok (.aload_n 0, 1) := by decide +kernel
theorem d_Model_allows_45 : decode prog_12_method_10_code 45 = .ok (.getfield 132, 3) := by decide +kernel
theorem d_Model_allows_48 : decode prog_12_method_10_code 48 = .ok (.ifCond .gt 22, 3) := by decide +kernel
theorem d_Model_allows_51 : decode prog_12_method_10_code 51 = .ok (.aload_n 0, 1) := by decide +kernel
theorem d_Model_allows_52 : decode prog_12_method_10_code 52 = .ok (.getfield 41, 3) := by decide +kernel
theorem d_Model_allows_55 : decode prog_12_method_10_code 55 = .ok (.bipush 16, 2) := by decide +kernel
theorem d_Model_allows_57 : decode prog_12_method_10_code 57 = .ok (.iload_n 1, 1) := by decide +kernel
theorem d_Model_allows_58 : decode prog_12_method_10_code 58 = .ok (.imul, 1) := by decide +kernel
theorem d_Model_allows_59 : decode prog_12_method_10_code 59 = .ok (.bipush 8, 2) := by decide +kernel
theorem d_Model_allows_61 : decode prog_12_method_10_code 61 = .ok (.iload_n 2, 1) := by decide +kernel
theorem d_Model_allows_62 : decode prog_12_method_10_code 62 = .ok (.imul, 1) := by decide +kernel
theorem d_Model_allows_63 : decode prog_12_method_10_code 63 = .ok (.iadd, 1) := by decide +kernel
theorem d_Model_allows_64 : decode prog_12_method_10_code 64 = .ok (.iload_n 3, 1) := by decide +kernel
theorem d_Model_allows_65 : decode prog_12_method_10_code 65 = .ok (.iadd, 1) := by decide +kernel
theorem d_Model_allows_66 : decode prog_12_method_10_code 66 = .ok (.baload, 1) := by decide +kernel
theorem d_Model_allows_67 : decode prog_12_method_10_code 67 = .ok (.ifCond .eq 5, 3) := by decide +kernel
theorem d_Model_allows_70 : decode prog_12_method_10_code 70 = .ok (.iconst 0, 1) := by decide +kernel
theorem d_Model_allows_71 : decode prog_12_method_10_code 71 = .ok (.ireturn, 1) := by decide +kernel
theorem d_Model_allows_72 : decode prog_12_method_10_code 72 = .ok (.aload_n 0, 1) := by decide +kernel
theorem d_Model_allows_73 : decode prog_12_method_10_code 73 = .ok (.getfield 41, 3) := by decide +kernel
theorem d_Model_allows_76 : decode prog_12_method_10_code 76 = .ok (.bipush 16, 2) := by decide +kernel
theorem d_Model_allows_78 : decode prog_12_method_10_code 78 = .ok (.iload_n 1, 1) := by decide +kernel
theorem d_Model_allows_79 : decode prog_12_method_10_code 79 = .ok (.imul, 1) := by decide +kernel
theorem d_Model_allows_80 : decode prog_12_method_10_code 80 = .ok (.bipush 8, 2) := by decide +kernel
theorem d_Model_allows_82 : decode prog_12_method_10_code 82 = .ok (.iload_n 2, 1) := by decide +kernel
theorem d_Model_allows_83 : decode prog_12_method_10_code 83 = .ok (.imul, 1) := by decide +kernel
theorem d_Model_allows_84 : decode prog_12_method_10_code 84 = .ok (.iadd, 1) := by decide +kernel
theorem d_Model_allows_85 : decode prog_12_method_10_code 85 = .ok (.iload_n 3, 1) := by decide +kernel
theorem d_Model_allows_86 : decode prog_12_method_10_code 86 = .ok (.iadd, 1) := by decide +kernel
theorem d_Model_allows_87 : decode prog_12_method_10_code 87 = .ok (.iconst 1, 1) := by decide +kernel
theorem d_Model_allows_88 : decode prog_12_method_10_code 88 = .ok (.bastore, 1) := by decide +kernel
theorem d_Model_allows_89 : decode prog_12_method_10_code 89 = .ok (.aload_n 0, 1) := by decide +kernel
theorem d_Model_allows_90 : decode prog_12_method_10_code 90 = .ok (.iconst 1, 1) := by decide +kernel
theorem d_Model_allows_91 : decode prog_12_method_10_code 91 = .ok (.invokevirtual 152, 3) := by decide +kernel
theorem d_Model_allows_94 : decode prog_12_method_10_code 94 = .ok (.ireturn, 1) := by decide +kernel
set_option maxRecDepth 50000 in
theorem cd_Model_allows : Cond.code y_Model_allows prog_12_method_10_code 4 (some .boolean) ∈ TB := mem_TB 1024 rfl rfl
theorem im_Model_allows : Cond.instanceMethod y_Model_allows ∈ TB := mem_TB 1022 (by decide +kernel) (by decide +kernel)
theorem sl_Model_allows : Cond.selects R_Model y_Model_allows y_Model_allows ∈ TB := mem_TB 1023 (by decide +kernel) (by decide +kernel)
theorem hd_Model_allows : y_Model_allows.cls ≠ "java/lang/invoke/MethodHandle" ∧ y_Model_allows.cls ≠ "java/lang/invoke/VarHandle" ∧ (parseMethodDescriptor y_Model_allows.desc).map (fun d => d.parameters.length) = some 3 := by decide +kernel
def y_Model_gang : MethodName := ⟨R_Model, "gang", "(I)Z"⟩
abbrev ws_Model_gang : List Cond := .code y_Model_gang prog_12_method_11_code 2 (some .boolean) :: TB
theorem d_Model_gang_0 : decode prog_12_method_11_code 0 = .ok (.aload_n 0, 1) := by decide +kernel
theorem d_Model_gang_1 : decode prog_12_method_11_code 1 = .ok (.iload_n 1, 1) := by decide +kernel
theorem d_Model_gang_2 : decode prog_12_method_11_code 2 = .ok (.i2l, 1) := by decide +kernel
theorem d_Model_gang_3 : decode prog_12_method_11_code 3 = .ok (.lconst 1, 1) := by decide +kernel
theorem d_Model_gang_4 : decode prog_12_method_11_code 4 = .ok (.ldc2_w 147, 3) := by decide +kernel
theorem d_Model_gang_7 : decode prog_12_method_11_code 7 = .ok (.invokestatic 141, 3) := by decide +kernel
theorem d_Model_gang_10 : decode prog_12_method_11_code 10 = .ok (.ifCond .eq 7, 3) := by decide +kernel
theorem d_Model_gang_13 : decode prog_12_method_11_code 13 = .ok (.iconst 0, 1) := by decide +kernel
theorem d_Model_gang_14 : decode prog_12_method_11_code 14 = .ok (.goto 4, 3) := by decide +kernel
theorem d_Model_gang_17 : decode prog_12_method_11_code 17 = .ok (.iconst 1, 1) := by decide +kernel
theorem d_Model_gang_18 : decode prog_12_method_11_code 18 = .ok (.putfield 132, 3) := by decide +kernel
theorem d_Model_gang_21 : decode prog_12_method_11_code 21 = .ok (.aload_n 0, 1) := by decide +kernel
theorem d_Model_gang_22 : decode prog_12_method_11_code 22 = .ok (.getfield 132, 3) := by decide +kernel
theorem d_Model_gang_25 : decode prog_12_method_11_code 25 = .ok (.ifCond .gt 16, 3) := by decide +kernel
theorem d_Model_gang_28 : decode prog_12_method_11_code 28 = .ok (.aload_n 0, 1) := by decide +kernel
theorem d_Model_gang_29 : decode prog_12_method_11_code 29 = .ok (.getfield 55, 3) := by decide +kernel
theorem d_Model_gang_32 : decode prog_12_method_11_code 32 = .ok (.aload_n 0, 1) := by decide +kernel
theorem d_Model_gang_33 : decode prog_12_method_11_code 33 = .ok (.iload_n 1, 1) := by decide +kernel
theorem d_Model_gang_34 : decode prog_12_method_11_code 34 = .ok (.invokevirtual 161, 3) := by decide +kernel
theorem d_Model_gang_37 : decode prog_12_method_11_code 37 = .ok (.baload, 1) := by decide +kernel
theorem d_Model_gang_38 : decode prog_12_method_11_code 38 = .ok (.ifCond .eq 5, 3) := by decide +kernel
theorem d_Model_gang_41 : decode prog_12_method_11_code 41 = .ok (.iconst 0, 1) := by decide +kernel
theorem d_Model_gang_42 : decode prog_12_method_11_code 42 = .ok (.ireturn, 1) := by decide +kernel
theorem d_Model_gang_43 : decode prog_12_method_11_code 43 = .ok (.aload_n 0, 1) := by decide +kernel
theorem d_Model_gang_44 : decode prog_12_method_11_code 44 = .ok (.getfield 55, 3) := by decide +kernel
theorem d_Model_gang_47 : decode prog_12_method_11_code 47 = .ok (.aload_n 0, 1) := by decide +kernel
theorem d_Model_gang_48 : decode prog_12_method_11_code 48 = .ok (.iload_n 1, 1) := by decide +kernel
theorem d_Model_gang_49 : decode prog_12_method_11_code 49 = .ok (.invokevirtual 161, 3) := by decide +kernel
theorem d_Model_gang_52 : decode prog_12_method_11_code 52 = .ok (.iconst 1, 1) := by decide +kernel
theorem d_Model_gang_53 : decode prog_12_method_11_code 53 = .ok (.bastore, 1) := by decide +kernel
theorem d_Model_gang_54 : decode prog_12_method_11_code 54 = .ok (.aload_n 0, 1) := by decide +kernel
theorem d_Model_gang_55 : decode prog_12_method_11_code 55 = .ok (.iconst 1, 1) := by decide +kernel
theorem d_Model_gang_56 : decode prog_12_method_11_code 56 = .ok (.putfield 168, 3) := by decide +kernel
theorem d_Model_gang_59 : decode prog_12_method_11_code 59 = .ok (.aload_n 0, 1) := by decide +kernel
theorem d_Model_gang_60 : decode prog_12_method_11_code 60 = .ok (.iconst 1, 1) := by decide +kernel
theorem d_Model_gang_61 : decode prog_12_method_11_code 61 = .ok (.invokevirtual 152, 3) := by decide +kernel
theorem d_Model_gang_64 : decode prog_12_method_11_code 64 = .ok (.ireturn, 1) := by decide +kernel
set_option maxRecDepth 50000 in
theorem cd_Model_gang : Cond.code y_Model_gang prog_12_method_11_code 2 (some .boolean) ∈ TB := mem_TB 1032 rfl rfl
theorem im_Model_gang : Cond.instanceMethod y_Model_gang ∈ TB := mem_TB 1030 (by decide +kernel) (by decide +kernel)
theorem sl_Model_gang : Cond.selects R_Model y_Model_gang y_Model_gang ∈ TB := mem_TB 1031 (by decide +kernel) (by decide +kernel)
theorem hd_Model_gang : y_Model_gang.cls ≠ "java/lang/invoke/MethodHandle" ∧ y_Model_gang.cls ≠ "java/lang/invoke/VarHandle" ∧ (parseMethodDescriptor y_Model_gang.desc).map (fun d => d.parameters.length) = some 1 := by decide +kernel
def y_Model_need : MethodName := ⟨R_Model, "need", "(II)Z"⟩
abbrev ws_Model_need : List Cond := .code y_Model_need prog_12_method_12_code 3 (some .boolean) :: TB
theorem d_Model_need_0 : decode prog_12_method_12_code 0 = .ok (.aload_n 0, 1) := by decide +kernel
theorem d_Model_need_1 : decode prog_12_method_12_code 1 = .ok (.iload_n 1, 1) := by decide +kernel
theorem d_Model_need_2 : decode prog_12_method_12_code 2 = .ok (.invokevirtual 164, 3) := by decide +kernel
theorem d_Model_need_5 : decode prog_12_method_12_code 5 = .ok (.ifCond .eq 5, 3) := by decide +kernel
theorem d_Model_need_8 : decode prog_12_method_12_code 8 = .ok (.iconst 0, 1) := by decide +kernel
theorem d_Model_need_9 : decode prog_12_method_12_code 9 = .ok (.ireturn, 1) := by decide +kernel
theorem d_Model_need_10 : decode prog_12_method_12_code 10 = .ok (.aload_n 0, 1) := by decide +kernel
theorem d_Model_need_11 : decode prog_12_method_12_code 11 = .ok (.iload_n 2, 1) := by decide +kernel
theorem d_Model_need_12 : decode prog_12_method_12_code 12 = .ok (.i2l, 1) := by decide +kernel
theorem d_Model_need_13 : decode prog_12_method_12_code 13 = .ok (.lconst 0, 1) := by decide +kernel
theorem d_Model_need_14 : decode prog_12_method_12_code 14 = .ok (.ldc2_w 171, 3) := by decide +kernel
theorem d_Model_need_17 : decode prog_12_method_12_code 17 = .ok (.invokestatic 141, 3) := by decide +kernel
theorem d_Model_need_20 : decode prog_12_method_12_code 20 = .ok (.ifCond .eq 7, 3) := by decide +kernel
theorem d_Model_need_23 : decode prog_12_method_12_code 23 = .ok (.iconst 0, 1) := by decide +kernel
theorem d_Model_need_24 : decode prog_12_method_12_code 24 = .ok (.goto 4, 3) := by decide +kernel
theorem d_Model_need_27 : decode prog_12_method_12_code 27 = .ok (.iconst 2, 1) := by decide +kernel
theorem d_Model_need_28 : decode prog_12_method_12_code 28 = .ok (.putfield 132, 3) := by decide +kernel
theorem d_Model_need_31 : decode prog_12_method_12_code 31 = .ok (.aload_n 0, 1) := by decide +kernel
theorem d_Model_need_32 : decode prog_12_method_12_code 32 = .ok (.getfield 132, 3) := by decide +kernel
theorem d_Model_need_35 : decode prog_12_method_12_code 35 = .ok (.ifCond .gt 13, 3) := by decide +kernel
theorem d_Model_need_38 : decode prog_12_method_12_code 38 = .ok (.aload_n 0, 1) := by decide +kernel
theorem d_Model_need_39 : decode prog_12_method_12_code 39 = .ok (.getfield 45, 3) := by decide +kernel
theorem d_Model_need_42 : decode prog_12_method_12_code 42 = .ok (.iload_n 1, 1) := by decide +kernel
theorem d_Model_need_43 : decode prog_12_method_12_code 43 = .ok (.iaload, 1) := by decide +kernel
theorem d_Model_need_44 : decode prog_12_method_12_code 44 = .ok (.iload_n 2, 1) := by decide +kernel
theorem d_Model_need_45 : decode prog_12_method_12_code 45 = .ok (.if_icmp .ne 5, 3) := by decide +kernel
theorem d_Model_need_48 : decode prog_12_method_12_code 48 = .ok (.iconst 0, 1) := by decide +kernel
theorem d_Model_need_49 : decode prog_12_method_12_code 49 = .ok (.ireturn, 1) := by decide +kernel
theorem d_Model_need_50 : decode prog_12_method_12_code 50 = .ok (.aload_n 0, 1) := by decide +kernel
theorem d_Model_need_51 : decode prog_12_method_12_code 51 = .ok (.getfield 45, 3) := by decide +kernel
theorem d_Model_need_54 : decode prog_12_method_12_code 54 = .ok (.iload_n 1, 1) := by decide +kernel
theorem d_Model_need_55 : decode prog_12_method_12_code 55 = .ok (.iload_n 2, 1) := by decide +kernel
theorem d_Model_need_56 : decode prog_12_method_12_code 56 = .ok (.iastore, 1) := by decide +kernel
theorem d_Model_need_57 : decode prog_12_method_12_code 57 = .ok (.aload_n 0, 1) := by decide +kernel
theorem d_Model_need_58 : decode prog_12_method_12_code 58 = .ok (.iconst 1, 1) := by decide +kernel
theorem d_Model_need_59 : decode prog_12_method_12_code 59 = .ok (.invokevirtual 152, 3) := by decide +kernel
theorem d_Model_need_62 : decode prog_12_method_12_code 62 = .ok (.ireturn, 1) := by decide +kernel
set_option maxRecDepth 50000 in
theorem cd_Model_need : Cond.code y_Model_need prog_12_method_12_code 3 (some .boolean) ∈ TB := mem_TB 1036 rfl rfl
theorem im_Model_need : Cond.instanceMethod y_Model_need ∈ TB := mem_TB 1034 (by decide +kernel) (by decide +kernel)
theorem sl_Model_need : Cond.selects R_Model y_Model_need y_Model_need ∈ TB := mem_TB 1035 (by decide +kernel) (by decide +kernel)
theorem hd_Model_need : y_Model_need.cls ≠ "java/lang/invoke/MethodHandle" ∧ y_Model_need.cls ≠ "java/lang/invoke/VarHandle" ∧ (parseMethodDescriptor y_Model_need.desc).map (fun d => d.parameters.length) = some 2 := by decide +kernel
def y_Model_margin : MethodName := ⟨R_Model, "margin", "(I)Z"⟩
abbrev ws_Model_margin : List Cond := .code y_Model_margin prog_12_method_13_code 2 (some .boolean) :: TB
theorem d_Model_margin_0 : decode prog_12_method_13_code 0 = .ok (.aload_n 0, 1) := by decide +kernel
theorem d_Model_margin_1 : decode prog_12_method_13_code 1 = .ok (.iload_n 1, 1) := by decide +kernel
theorem d_Model_margin_2 : decode prog_12_method_13_code 2 = .ok (.i2l, 1) := by decide +kernel
theorem d_Model_margin_3 : decode prog_12_method_13_code 3 = .ok (.lconst 0, 1) := by decide +kernel
theorem d_Model_margin_4 : decode prog_12_method_13_code 4 = .ok (.ldc2_w 147, 3) := by decide +kernel
theorem d_Model_margin_7 : decode prog_12_method_13_code 7 = .ok (.invokestatic 141, 3) := by decide +kernel
theorem d_Model_margin_10 : decode prog_12_method_13_code 10 = .ok (.ifCond .eq 7, 3) := by decide +kernel
theorem d_Model_margin_13 : decode prog_12_method_13_code 13 = .ok (.iconst 0, 1) := by decide +kernel
theorem d_Model_margin_14 : decode prog_12_method_13_code 14 = .ok (.goto 4, 3) := by decide +kernel
theorem d_Model_margin_17 : decode prog_12_method_13_code 17 = .ok (.iconst 1, 1) := by decide +kernel
theorem d_Model_margin_18 : decode prog_12_method_13_code 18 = .ok (.putfield 132, 3) := by decide +kernel
theorem d_Model_margin_21 : decode prog_12_method_13_code 21 = .ok (.aload_n 0, 1) := by decide +kernel
theorem d_Model_margin_22 : decode prog_12_method_13_code 22 = .ok (.getfield 132, 3) := by decide +kernel
theorem d_Model_margin_25 : decode prog_12_method_13_code 25 = .ok (.ifCond .gt 11, 3) := by decide +kernel
theorem d_Model_margin_28 : decode prog_12_method_13_code 28 = .ok (.iload_n 1, 1) := by decide +kernel
theorem d_Model_margin_29 : decode prog_12_method_13_code 29 = .ok (.aload_n 0, 1) := by decide +kernel
theorem d_Model_margin_30 : decode prog_12_method_13_code 30 = .ok (.getfield 173, 3) := by decide +kernel
theorem d_Model_margin_33 : decode prog_12_method_13_code 33 = .ok (.if_icmp .ne 5, 3) := by decide +kernel
theorem d_Model_margin_36 : decode prog_12_method_13_code 36 = .ok (.iconst 0, 1) := by decide +kernel
theorem d_Model_margin_37 : decode prog_12_method_13_code 37 = .ok (.ireturn, 1) := by decide +kernel
theorem d_Model_margin_38 : decode prog_12_method_13_code 38 = .ok (.aload_n 0, 1) := by decide +kernel
theorem d_Model_margin_39 : decode prog_12_method_13_code 39 = .ok (.iload_n 1, 1) := by decide +kernel
theorem d_Model_margin_40 : decode prog_12_method_13_code 40 = .ok (.putfield 173, 3) := by decide +kernel
theorem d_Model_margin_43 : decode prog_12_method_13_code 43 = .ok (.aload_n 0, 1) := by decide +kernel
theorem d_Model_margin_44 : decode prog_12_method_13_code 44 = .ok (.iconst 1, 1) := by decide +kernel
theorem d_Model_margin_45 : decode prog_12_method_13_code 45 = .ok (.invokevirtual 152, 3) := by decide +kernel
theorem d_Model_margin_48 : decode prog_12_method_13_code 48 = .ok (.ireturn, 1) := by decide +kernel
set_option maxRecDepth 50000 in
theorem cd_Model_margin : Cond.code y_Model_margin prog_12_method_13_code 2 (some .boolean) ∈ TB := mem_TB 1041 rfl rfl
theorem im_Model_margin : Cond.instanceMethod y_Model_margin ∈ TB := mem_TB 1039 (by decide +kernel) (by decide +kernel)
theorem sl_Model_margin : Cond.selects R_Model y_Model_margin y_Model_margin ∈ TB := mem_TB 1040 (by decide +kernel) (by decide +kernel)
theorem hd_Model_margin : y_Model_margin.cls ≠ "java/lang/invoke/MethodHandle" ∧ y_Model_margin.cls ≠ "java/lang/invoke/VarHandle" ∧ (parseMethodDescriptor y_Model_margin.desc).map (fun d => d.parameters.length) = some 1 := by decide +kernel
def y_Model_bow : MethodName := ⟨R_Model, "bow", "(I)Z"⟩
abbrev ws_Model_bow : List Cond := .code y_Model_bow prog_12_method_14_code 2 (some .boolean) :: TB
theorem d_Model_bow_0 : decode prog_12_method_14_code 0 = .ok (.aload_n 0, 1) := by decide +kernel
theorem d_Model_bow_1 : decode prog_12_method_14_code 1 = .ok (.iload_n 1, 1) := by decide +kernel
theorem d_Model_bow_2 : decode prog_12_method_14_code 2 = .ok (.i2l, 1) := by decide +kernel
theorem d_Model_bow_3 : decode prog_12_method_14_code 3 = .ok (.lconst 1, 1) := by decide +kernel
theorem d_Model_bow_4 : decode prog_12_method_14_code 4 = .ok (.ldc2_w 176, 3) := by decide +kernel
theorem d_Model_bow_7 : decode prog_12_method_14_code 7 = .ok (.invokestatic 141, 3) := by decide +kernel
theorem d_Model_bow_10 : decode prog_12_method_14_code 10 = .ok (.ifCond .eq 7, 3) := by decide +kernel
theorem d_Model_bow_13 : decode prog_12_method_14_code 13 = .ok (.iconst 0, 1) := by decide +kernel
theorem d_Model_bow_14 : decode prog_12_method_14_code 14 = .ok (.goto 4, 3) := by decide +kernel
theorem d_Model_bow_17 : decode prog_12_method_14_code 17 = .ok (.iconst 1, 1) := by decide +kernel
theorem d_Model_bow_18 : decode prog_12_method_14_code 18 = .ok (.putfield 132, 3) := by decide +kernel
theorem d_Model_bow_21 : decode prog_12_method_14_code 21 = .ok (.aload_n 0, 1) := by decide +kernel
theorem d_Model_bow_22 : decode prog_12_method_14_code 22 = .ok (.getfield 132, 3) := by decide +kernel
theorem d_Model_bow_25 : decode prog_12_method_14_code 25 = .ok (.ifCond .gt 11, 3) := by decide +kernel
theorem d_Model_bow_28 : decode prog_12_method_14_code 28 = .ok (.iload_n 1, 1) := by decide +kernel
theorem d_Model_bow_29 : decode prog_12_method_14_code 29 = .ok (.aload_n 0, 1) := by decide +kernel
theorem d_Model_bow_30 : decode prog_12_method_14_code 30 = .ok (.getfield 59, 3) := by decide +kernel
theorem d_Model_bow_33 : decode prog_12_method_14_code 33 = .ok (.if_icmp .ne 5, 3) := by decide +kernel
theorem d_Model_bow_36 : decode prog_12_method_14_code 36 = .ok (.iconst 0, 1) := by decide +kernel
theorem d_Model_bow_37 : decode prog_12_method_14_code 37 = .ok (.ireturn, 1) := by decide +kernel
theorem d_Model_bow_38 : decode prog_12_method_14_code 38 = .ok (.aload_n 0, 1) := by decide +kernel
theorem d_Model_bow_39 : decode prog_12_method_14_code 39 = .ok (.iload_n 1, 1) := by decide +kernel
theorem d_Model_bow_40 : decode prog_12_method_14_code 40 = .ok (.putfield 59, 3) := by decide +kernel
theorem d_Model_bow_43 : decode prog_12_method_14_code 43 = .ok (.aload_n 0, 1) := by decide +kernel
theorem d_Model_bow_44 : decode prog_12_method_14_code 44 = .ok (.iconst 1, 1) := by decide +kernel
theorem d_Model_bow_45 : decode prog_12_method_14_code 45 = .ok (.invokevirtual 152, 3) := by decide +kernel
theorem d_Model_bow_48 : decode prog_12_method_14_code 48 = .ok (.ireturn, 1) := by decide +kernel
set_option maxRecDepth 50000 in
theorem cd_Model_bow : Cond.code y_Model_bow prog_12_method_14_code 2 (some .boolean) ∈ TB := mem_TB 1045 rfl rfl
theorem im_Model_bow : Cond.instanceMethod y_Model_bow ∈ TB := mem_TB 1043 (by decide +kernel) (by decide +kernel)
theorem sl_Model_bow : Cond.selects R_Model y_Model_bow y_Model_bow ∈ TB := mem_TB 1044 (by decide +kernel) (by decide +kernel)
theorem hd_Model_bow : y_Model_bow.cls ≠ "java/lang/invoke/MethodHandle" ∧ y_Model_bow.cls ≠ "java/lang/invoke/VarHandle" ∧ (parseMethodDescriptor y_Model_bow.desc).map (fun d => d.parameters.length) = some 1 := by decide +kernel
def y_Model_number : MethodName := ⟨R_Model, "number", "(IIII)I"⟩
abbrev ws_Model_number : List Cond := .code y_Model_number prog_12_method_15_code 4 (some .int) :: TB
theorem d_Model_number_0 : decode prog_12_method_15_code 0 = .ok (.bipush 25, 2) := by decide +kernel
theorem d_Model_number_2 : decode prog_12_method_15_code 2 = .ok (.iload_n 0, 1) := by decide +kernel
theorem d_Model_number_3 : decode prog_12_method_15_code 3 = .ok (.imul, 1) := by decide +kernel
theorem d_Model_number_4 : decode prog_12_method_15_code 4 = .ok (.iload_n 1, 1) := by decide +kernel
theorem d_Model_number_5 : decode prog_12_method_15_code 5 = .ok (.iadd, 1) := by decide +kernel
theorem d_Model_number_6 : decode prog_12_method_15_code 6 = .ok (.bipush 11, 2) := by decide +kernel
theorem d_Model_number_8 : decode prog_12_method_15_code 8 = .ok (.imul, 1) := by decide +kernel
theorem d_Model_number_9 : decode prog_12_method_15_code 9 = .ok (.iload_n 2, 1) := by decide +kernel
theorem d_Model_number_10 : decode prog_12_method_15_code 10 = .ok (.iadd, 1) := by decide +kernel
theorem d_Model_number_11 : decode prog_12_method_15_code 11 = .ok (.bipush 11, 2) := by decide +kernel
theorem d_Model_number_13 : decode prog_12_method_15_code 13 = .ok (.imul, 1) := by decide +kernel
theorem d_Model_number_14 : decode prog_12_method_15_code 14 = .ok (.iload_n 3, 1) := by decide +kernel
theorem d_Model_number_15 : decode prog_12_method_15_code 15 = .ok (.iadd, 1) := by decide +kernel
theorem d_Model_number_16 : decode prog_12_method_15_code 16 = .ok (.ireturn, 1) := by decide +kernel
set_option maxRecDepth 50000 in
theorem cd_Model_number : Cond.code y_Model_number prog_12_method_15_code 4 (some .int) ∈ TB := mem_TB 1066 rfl rfl
theorem st_Model_number : Cond.static y_Model_number ∈ TB := mem_TB 1065 (by decide +kernel) (by decide +kernel)
theorem hd_Model_number : y_Model_number.cls ≠ "java/lang/invoke/MethodHandle" ∧ y_Model_number.cls ≠ "java/lang/invoke/VarHandle" ∧ (parseMethodDescriptor y_Model_number.desc).map (fun d => d.parameters.length) = some 4 := by decide +kernel
def y_Model_isOver : MethodName := ⟨R_Model, "isOver", "(IIIII)Z"⟩
abbrev ws_Model_isOver : List Cond := .code y_Model_isOver prog_12_method_16_code 8 (some .boolean) :: TB
theorem d_Model_isOver_0 : decode prog_12_method_16_code 0 = .ok (.aload_n 0, 1) := by decide +kernel
theorem d_Model_isOver_1 : decode prog_12_method_16_code 1 = .ok (.getfield 16, 3) := by decide +kernel
theorem d_Model_isOver_4 : decode prog_12_method_16_code 4 = .ok (.iload_n 1, 1) := by decide +kernel
theorem d_Model_isOver_5 : decode prog_12_method_16_code 5 = .ok (.iaload, 1) := by decide +kernel
theorem d_Model_isOver_6 : decode prog_12_method_16_code 6 = .ok (.aload_n 0, 1) := by decide +kernel
theorem d_Model_isOver_7 : decode prog_12_method_16_code 7 = .ok (.getfield 173, 3) := by decide +kernel
theorem d_Model_isOver_10 : decode prog_12_method_16_code 10 = .ok (.isub, 1) := by decide +kernel
theorem d_Model_isOver_11 : decode prog_12_method_16_code 11 = .ok (.iload_n 3, 1) := by decide +kernel
theorem d_Model_isOver_12 : decode prog_12_method_16_code 12 = .ok (.aload_n 0, 1) := by decide +kernel
theorem d_Model_isOver_13 : decode prog_12_method_16_code 13 = .ok (.getfield 122, 3) := by decide +kernel
theorem d_Model_isOver_16 : decode prog_12_method_16_code 16 = .ok (.imul, 1) := by decide +kernel
theorem d_Model_isOver_17 : decode prog_12_method_16_code 17 = .ok (.if_icmp .ge 34, 3) := by decide +kernel
theorem d_Model_isOver_20 : decode prog_12_method_16_code 20 = .ok (.aload_n 0, 1) := by decide +kernel
theorem d_Model_isOver_21 : decode prog_12_method_16_code 21 = .ok (.getfield 16, 3) := by decide +kernel
theorem d_Model_isOver_24 : decode prog_12_method_16_code 24 = .ok (.iload_n 1, 1) := by decide +kernel
theorem d_Model_isOver_25 : decode prog_12_method_16_code 25 = .ok (.iaload, 1) := by decide +kernel
theorem d_Model_isOver_26 : decode prog_12_method_16_code 26 = .ok (.aload_n 0, 1) := by decide +kernel
theorem d_Model_isOver_27 : decode prog_12_method_16_code 27 = .ok (.getfield 22, 3) := by decide +kernel
theorem d_Model_isOver_30 : decode prog_12_method_16_code 30 = .ok (.iload_n 1, 1) := by decide +kernel
theorem d_Model_isOver_31 : decode prog_12_method_16_code 31 = .ok (.iaload, 1) := by decide +kernel
theorem d_Model_isOver_32 : decode prog_12_method_16_code 32 = .ok (.iadd, 1) := by decide +kernel
theorem d_Model_isOver_33 : decode prog_12_method_16_code 33 = .ok (.aload_n 0, 1) := by decide +kernel
theorem d_Model_isOver_34 : decode prog_12_method_16_code 34 = .ok (.getfield 173, 3) := by decide +kernel
theorem d_Model_isOver_37 : decode prog_12_method_16_code 37 = .ok (.iadd, 1) := by decide +kernel
theorem d_Model_isOver_38 : decode prog_12_method_16_code 38 = .ok (.iload_n 2, 1) := by decide +kernel
theorem d_Model_isOver_39 : decode prog_12_method_16_code 39 = .ok (.aload_n 0, 1) := by decide +kernel
theorem d_Model_isOver_40 : decode prog_12_method_16_code 40 = .ok (.getfield 122, 3) := by decide +kernel
theorem d_Model_isOver_43 : decode prog_12_method_16_code 43 = .ok (.imul, 1) := by decide +kernel
theorem d_Model_isOver_44 : decode prog_12_method_16_code 44 = .ok (.if_icmp .le 7, 3) := by decide +kernel
theorem d_Model_isOver_47 : decode prog_12_method_16_code 47 = .ok (.iconst 1, 1) := by decide +kernel
theorem d_Model_isOver_48 : decode prog_12_method_16_code 48 = .ok (.goto 4, 3) := by decide +kernel
theorem d_Model_isOver_51 : decode prog_12_method_16_code 51 = .ok (.iconst 0, 1) := by decide +kernel
theorem d_Model_isOver_52 : decode prog_12_method_16_code 52 = .ok (.istore 6, 2) := by decide +kernel
theorem d_Model_isOver_54 : decode prog_12_method_16_code 54 = .ok (.aload_n 0, 1) := by decide +kernel
theorem d_Model_isOver_55 : decode prog_12_method_16_code 55 = .ok (.getfield 19, 3) := by decide +kernel
theorem d_Model_isOver_58 : decode prog_12_method_16_code 58 = .ok (.iload_n 1, 1) := by decide +kernel
theorem d_Model_isOver_59 : decode prog_12_method_16_code 59 = .ok (.iaload, 1) := by decide +kernel
theorem d_Model_isOver_60 : decode prog_12_method_16_code 60 = .ok (.aload_n 0, 1) := by decide +kernel
theorem d_Model_isOver_61 : decode prog_12_method_16_code 61 = .ok (.getfield 173, 3) := by decide +kernel
theorem d_Model_isOver_64 : decode prog_12_method_16_code 64 = .ok (.isub, 1) := by decide +kernel
theorem d_Model_isOver_65 : decode prog_12_method_16_code 65 = .ok (.iload 5, 2) := by decide +kernel
theorem d_Model_isOver_67 : decode prog_12_method_16_code 67 = .ok (.aload_n 0, 1) := by decide +kernel
theorem d_Model_isOver_68 : decode prog_12_method_16_code 68 = .ok (.getfield 122, 3) := by decide +kernel
theorem d_Model_isOver_71 : decode prog_12_method_16_code 71 = .ok (.imul, 1) := by decide +kernel
theorem d_Model_isOver_72 : decode prog_12_method_16_code 72 = .ok (.if_icmp .ge 35, 3) := by decide +kernel
theorem d_Model_isOver_75 : decode prog_12_method_16_code 75 = .ok (.aload_n 0, 1) := by decide +kernel
theorem d_Model_isOver_76 : decode prog_12_method_16_code 76 = .ok (.getfield 19, 3) := by decide +kernel
theorem d_Model_isOver_79 : decode prog_12_method_16_code 79 = .ok (.iload_n 1, 1) := by decide +kernel
theorem d_Model_isOver_80 : decode prog_12_method_16_code 80 = .ok (.iaload, 1) := by decide +kernel
theorem d_Model_isOver_81 : decode prog_12_method_16_code 81 = .ok (.aload_n 0, 1) := by decide +kernel
theorem d_Model_isOver_82 : decode prog_12_method_16_code 82 = .ok (.getfield 25, 3) := by decide +kernel
theorem d_Model_isOver_85 : decode prog_12_method_16_code 85 = .ok (.iload_n 1, 1) := by decide +kernel
theorem d_Model_isOver_86 : decode prog_12_method_16_code 86 = .ok (.iaload, 1) := by decide +kernel
theorem d_Model_isOver_87 : decode prog_12_method_16_code 87 = .ok (.iadd, 1) := by decide +kernel
theorem d_Model_isOver_88 : decode prog_12_method_16_code 88 = .ok (.aload_n 0, 1) := by decide +kernel
theorem d_Model_isOver_89 : decode prog_12_method_16_code 89 = .ok (.getfield 173, 3) := by decide +kernel
theorem d_Model_isOver_92 : decode prog_12_method_16_code 92 = .ok (.iadd, 1) := by decide +kernel
theorem d_Model_isOver_93 : decode prog_12_method_16_code 93 = .ok (.iload 4, 2) := by decide +kernel
theorem d_Model_isOver_95 : decode prog_12_method_16_code 95 = .ok (.aload_n 0, 1) := by decide +kernel
theorem d_Model_isOver_96 : decode prog_12_method_16_code 96 = .ok (.getfield 122, 3) := by decide +kernel
theorem d_Model_isOver_99 : decode prog_12_method_16_code 99 = .ok (.imul, 1) := by decide +kernel
theorem d_Model_isOver_100 : decode prog_12_method_16_code 100 = .ok (.if_icmp .le 7, 3) := by decide +kernel
theorem d_Model_isOver_103 : decode prog_12_method_16_code 103 = .ok (.iconst 1, 1) := by decide +kernel
theorem d_Model_isOver_104 : decode prog_12_method_16_code 104 = .ok (.goto 4, 3) := by decide +kernel
theorem d_Model_isOver_107 : decode prog_12_method_16_code 107 = .ok (.iconst 0, 1) := by decide +kernel
theorem d_Model_isOver_108 : decode prog_12_method_16_code 108 = .ok (.istore 7, 2) := by decide +kernel
theorem d_Model_isOver_110 : decode prog_12_method_16_code 110 = .ok (.iload 6, 2) := by decide +kernel
theorem d_Model_isOver_112 : decode prog_12_method_16_code 112 = .ok (.ifCond .eq 12, 3) := by decide +kernel
theorem d_Model_isOver_115 : decode prog_12_method_16_code 115 = .ok (.iload 7, 2) := by decide +kernel
theorem d_Model_isOver_117 : decode prog_12_method_16_code 117 = .ok (.ifCond .eq 7, 3) := by decide +kernel
theorem d_Model_isOver_120 : decode prog_12_method_16_code 120 = .ok (.iconst 1, 1) := by decide +kernel
theorem d_Model_isOver_121 : decode prog_12_method_16_code 121 = .ok (.goto 4, 3) := by decide +kernel
theorem d_Model_isOver_124 : decode prog_12_method_16_code 124 = .ok (.iconst 0, 1) := by decide +kernel
theorem d_Model_isOver_125 : decode prog_12_method_16_code 125 = .ok (.ireturn, 1) := by decide +kernel
set_option maxRecDepth 50000 in
theorem cd_Model_isOver : Cond.code y_Model_isOver prog_12_method_16_code 8 (some .boolean) ∈ TB := mem_TB 1074 rfl rfl
theorem im_Model_isOver : Cond.instanceMethod y_Model_isOver ∈ TB := mem_TB 1073 (by decide +kernel) (by decide +kernel)
theorem sl_Model_isOver : Cond.selects R_Model y_Model_isOver y_Model_isOver ∈ TB := mem_TBs (by decide +kernel) (by decide +kernel)
theorem hd_Model_isOver : y_Model_isOver.cls ≠ "java/lang/invoke/MethodHandle" ∧ y_Model_isOver.cls ≠ "java/lang/invoke/VarHandle" ∧ (parseMethodDescriptor y_Model_isOver.desc).map (fun d => d.parameters.length) = some 5 := by decide +kernel
def y_Model_may : MethodName := ⟨R_Model, "may", "(IIIII)Z"⟩
abbrev ws_Model_may : List Cond := .code y_Model_may prog_12_method_17_code 9 (some .boolean) :: TB
theorem d_Model_may_0 : decode prog_12_method_17_code 0 = .ok (.iload_n 3, 1) := by decide +kernel
theorem d_Model_may_1 : decode prog_12_method_17_code 1 = .ok (.iload_n 2, 1) := by decide +kernel
theorem d_Model_may_2 : decode prog_12_method_17_code 2 = .ok (.isub, 1) := by decide +kernel
theorem d_Model_may_3 : decode prog_12_method_17_code 3 = .ok (.aload_n 0, 1) := by decide +kernel
theorem d_Model_may_4 : decode prog_12_method_17_code 4 = .ok (.getfield 122, 3) := by decide +kernel
theorem d_Model_may_7 : decode prog_12_method_17_code 7 = .ok (.imul, 1) := by decide +kernel
theorem d_Model_may_8 : decode prog_12_method_17_code 8 = .ok (.istore 6, 2) := by decide +kernel
theorem d_Model_may_10 : decode prog_12_method_17_code 10 = .ok (.iload 5, 2) := by decide +kernel
theorem d_Model_may_12 : decode prog_12_method_17_code 12 = .ok (.iload 4, 2) := by decide +kernel
theorem d_Model_may_14 : decode prog_12_method_17_code 14 = .ok (.isub, 1) := by decide +kernel
theorem d_Model_may_15 : decode prog_12_method_17_code 15 = .ok (.aload_n 0, 1) := by decide +kernel
theorem d_Model_may_16 : decode prog_12_method_17_code 16 = .ok (.getfield 28, 3) := by decide +kernel
theorem d_Model_may_19 : decode prog_12_method_17_code 19 = .ok (.iload_n 1, 1) := by decide +kernel
theorem d_Model_may_20 : decode prog_12_method_17_code 20 = .ok (.iaload, 1) := by decide +kernel
theorem d_Model_may_21 : decode prog_12_method_17_code 21 = .ok (.if_icmp .ne 38, 3) := by decide +kernel
theorem d_Model_may_24 : decode prog_12_method_17_code 24 = .ok (.iload 6, 2) := by decide +kernel
theorem d_Model_may_26 : decode prog_12_method_17_code 26 = .ok (.aload_n 0, 1) := by decide +kernel
theorem d_Model_may_27 : decode prog_12_method_17_code 27 = .ok (.getfield 31, 3) := by decide +kernel
theorem d_Model_may_30 : decode prog_12_method_17_code 30 = .ok (.iload_n 1, 1) := by decide +kernel
theorem d_Model_may_31 : decode prog_12_method_17_code 31 = .ok (.iaload, 1) := by decide +kernel
theorem d_Model_may_32 : decode prog_12_method_17_code 32 = .ok (.if_icmp .lt 27, 3) := by decide +kernel
theorem d_Model_may_35 : decode prog_12_method_17_code 35 = .ok (.iload 6, 2) := by decide +kernel
theorem d_Model_may_37 : decode prog_12_method_17_code 37 = .ok (.aload_n 0, 1) := by decide +kernel
theorem d_Model_may_38 : decode prog_12_method_17_code 38 = .ok (.getfield 34, 3) := by decide +kernel
theorem d_Model_may_41 : decode prog_12_method_17_code 41 = .ok (.iload_n 1, 1) := by decide +kernel
theorem d_Model_may_42 : decode prog_12_method_17_code 42 = .ok (.iaload, 1) := by decide +kernel
theorem d_Model_may_43 : decode prog_12_method_17_code 43 = .ok (.if_icmp .gt 16, 3) := by decide +kernel
theorem d_Model_may_46 : decode prog_12_method_17_code 46 = .ok (.iload 6, 2) := by decide +kernel
theorem d_Model_may_48 : decode prog_12_method_17_code 48 = .ok (.aload_n 0, 1) := by decide +kernel
theorem d_Model_may_49 : decode prog_12_method_17_code 49 = .ok (.getfield 59, 3) := by decide +kernel
theorem d_Model_may_52 : decode prog_12_method_17_code 52 = .ok (.if_icmp .gt 7, 3) := by decide +kernel
theorem d_Model_may_55 : decode prog_12_method_17_code 55 = .ok (.iconst 1, 1) := by decide +kernel
theorem d_Model_may_56 : decode prog_12_method_17_code 56 = .ok (.goto 4, 3) := by decide +kernel
theorem d_Model_may_59 : decode prog_12_method_17_code 59 = .ok (.iconst 0, 1) := by decide +kernel
theorem d_Model_may_60 : decode prog_12_method_17_code 60 = .ok (.istore 7, 2) := by decide +kernel
theorem d_Model_may_62 : decode prog_12_method_17_code 62 = .ok (.iconst 0, 1) := by decide +kernel
theorem d_Model_may_63 : decode prog_12_method_17_code 63 = .ok (.istore 8, 2) := by decide +kernel
theorem d_Model_may_65 : decode prog_12_method_17_code 65 = .ok (.iload 8, 2) := by decide +kernel
theorem d_Model_may_67 : decode prog_12_method_17_code 67 = .ok (.aload_n 0, 1) := by decide +kernel
theorem d_Model_may_68 : decode prog_12_method_17_code 68 = .ok (.getfield 149, 3) := by decide +kernel
theorem d_Model_may_71 : decode prog_12_method_17_code 71 = .ok (.if_icmp .ge 67, 3) := by decide +kernel
theorem d_Model_may_74 : decode prog_12_method_17_code 74 = .ok (.iload 7, 2) := by decide +kernel
theorem d_Model_may_76 : decode prog_12_method_17_code 76 = .ok (.ifCond .eq 62, 3) := by decide +kernel
theorem d_Model_may_79 : decode prog_12_method_17_code 79 = .ok (.aload_n 0, 1) := by decide +kernel
theorem d_Model_may_80 : decode prog_12_method_17_code 80 = .ok (.getfield 41, 3) := by decide +kernel
theorem d_Model_may_83 : decode prog_12_method_17_code 83 = .ok (.bipush 16, 2) := by decide +kernel
theorem d_Model_may_85 : decode prog_12_method_17_code 85 = .ok (.iload_n 1, 1) := by decide +kernel
theorem d_Model_may_86 : decode prog_12_method_17_code 86 = .ok (.imul, 1) := by decide +kernel
theorem d_Model_may_87 : decode prog_12_method_17_code 87 = .ok (.bipush 8, 2) := by decide +kernel
theorem d_Model_may_89 : decode prog_12_method_17_code 89 = .ok (.aload_n 0, 1) := by decide +kernel
theorem d_Model_may_90 : decode prog_12_method_17_code 90 = .ok (.getfield 7, 3) := by decide +kernel
theorem d_Model_may_93 : decode prog_12_method_17_code 93 = .ok (.iload 8, 2) := by decide +kernel
theorem d_Model_may_95 : decode prog_12_method_17_code 95 = .ok (.iaload, 1) := by decide +kernel
theorem d_Model_may_96 : decode prog_12_method_17_code 96 = .ok (.imul, 1) := by decide +kernel
theorem d_Model_may_97 : decode prog_12_method_17_code 97 = .ok (.iadd, 1) := by decide +kernel
theorem d_Model_may_98 : decode prog_12_method_17_code 98 = .ok (.aload_n 0, 1) := by decide +kernel
theorem d_Model_may_99 : decode prog_12_method_17_code 99 = .ok (.getfield 13, 3) := by decide +kernel
theorem d_Model_may_102 : decode prog_12_method_17_code 102 = .ok (.iload 8, 2) := by decide +kernel
theorem d_Model_may_104 : decode prog_12_method_17_code 104 = .ok (.iaload, 1) := by decide +kernel
theorem d_Model_may_105 : decode prog_12_method_17_code 105 = .ok (.iadd, 1) := by decide +kernel
theorem d_Model_may_106 : decode prog_12_method_17_code 106 = .ok (.baload, 1) := by decide +kernel
theorem d_Model_may_107 : decode prog_12_method_17_code 107 = .ok (.ifCond .ne 18, 3) := by decide +kernel
theorem d_Model_may_110 : decode prog_12_method_17_code 110 = .ok (.aload_n 0, 1) := by decide +kernel
theorem d_Model_may_111 : decode prog_12_method_17_code 111 = .ok (.iload 8, 2) := by decide +kernel
theorem d_Model_may_113 : decode prog_12_method_17_code 113 = .ok (.iload_n 2, 1) := by decide +kernel
theorem d_Model_may_114 : decode prog_12_method_17_code 114 = .ok (.iload_n 3, 1) := by decide +kernel
theorem d_Model_may_115 : decode prog_12_method_17_code 115 = .ok (.iload 4, 2) := by decide +kernel
theorem d_Model_may_117 : decode prog_12_method_17_code 117 = .ok (.iload 5, 2) := by decide +kernel
theorem d_Model_may_119 : decode prog_12_method_17_code 119 = .ok (.invokevirtual 178, 3) := by decide +kernel
theorem d_Model_may_122 : decode prog_12_method_17_code 122 = .ok (.ifCond .ne 7, 3) := by decide +kernel
theorem d_Model_may_125 : decode prog_12_method_17_code 125 = .ok (.iconst 1, 1) := by decide +kernel
theorem d_Model_may_126 : decode prog_12_method_17_code 126 = .ok (.goto 4, 3) := by decide +kernel
theorem d_Model_may_129 : decode prog_12_method_17_code 129 = .ok (.iconst 0, 1) := by decide +kernel
theorem d_Model_may_130 : decode prog_12_method_17_code 130 = .ok (.istore 7, 2) := by decide +kernel
theorem d_Model_may_132 : decode prog_12_method_17_code 132 = .ok (.iinc 8 1, 3) := by decide +kernel
theorem d_Model_may_135 : decode prog_12_method_17_code 135 = .ok (.goto (-70), 3) := by decide +kernel
theorem d_Model_may_138 : decode prog_12_method_17_code 138 = .ok (.iload 7, 2) := by decide +kernel
theorem d_Model_may_140 : decode prog_12_method_17_code 140 = .ok (.ireturn, 1) := by decide +kernel
set_option maxRecDepth 50000 in
theorem cd_Model_may : Cond.code y_Model_may prog_12_method_17_code 9 (some .boolean) ∈ TB := mem_TB 1070 rfl rfl
theorem im_Model_may : Cond.instanceMethod y_Model_may ∈ TB := mem_TB 1069 (by decide +kernel) (by decide +kernel)
theorem sl_Model_may : Cond.selects R_Model y_Model_may y_Model_may ∈ TB := mem_TBs (by decide +kernel) (by decide +kernel)
theorem hd_Model_may : y_Model_may.cls ≠ "java/lang/invoke/MethodHandle" ∧ y_Model_may.cls ≠ "java/lang/invoke/VarHandle" ∧ (parseMethodDescriptor y_Model_may.desc).map (fun d => d.parameters.length) = some 5 := by decide +kernel
def y_Model_fillPieces : MethodName := ⟨R_Model, "fillPieces", "()V"⟩
abbrev ws_Model_fillPieces : List Cond := .code y_Model_fillPieces prog_12_method_18_code 5 none :: TB
theorem d_Model_fillPieces_0 : decode prog_12_method_18_code 0 = .ok (.iconst 0, 1) := by decide +kernel
theorem d_Model_fillPieces_1 : decode prog_12_method_18_code 1 = .ok (.istore_n 1, 1) := by decide +kernel
theorem d_Model_fillPieces_2 : decode prog_12_method_18_code 2 = .ok (.iload_n 1, 1) := by decide +kernel
theorem d_Model_fillPieces_3 : decode prog_12_method_18_code 3 = .ok (.aload_n 0, 1) := by decide +kernel
theorem d_Model_fillPieces_4 : decode prog_12_method_18_code 4 = .ok (.getfield 125, 3) := by decide +kernel
theorem d_Model_fillPieces_7 : decode prog_12_method_18_code 7 = .ok (.if_icmp .ge 72, 3) := by decide +kernel
theorem d_Model_fillPieces_10 : decode prog_12_method_18_code 10 = .ok (.iload_n 1, 1) := by decide +kernel
theorem d_Model_fillPieces_11 : decode prog_12_method_18_code 11 = .ok (.iconst 1, 1) := by decide +kernel
theorem d_Model_fillPieces_12 : decode prog_12_method_18_code 12 = .ok (.iadd, 1) := by decide +kernel
theorem d_Model_fillPieces_13 : decode prog_12_method_18_code 13 = .ok (.istore_n 2, 1) := by decide +kernel
theorem d_Model_fillPieces_14 : decode prog_12_method_18_code 14 = .ok (.iload_n 2, 1) := by decide +kernel
theorem d_Model_fillPieces_15 : decode prog_12_method_18_code 15 = .ok (.aload_n 0, 1) := by decide +kernel
theorem d_Model_fillPieces_16 : decode prog_12_method_18_code 16 = .ok (.getfield 125, 3) := by decide +kernel
theorem d_Model_fillPieces_19 : decode prog_12_method_18_code 19 = .ok (.if_icmp .gt 54, 3) := by decide +kernel
theorem d_Model_fillPieces_22 : decode prog_12_method_18_code 22 = .ok (.iconst 0, 1) := by decide +kernel
theorem d_Model_fillPieces_23 : decode prog_12_method_18_code 23 = .ok (.istore_n 3, 1) := by decide +kernel
theorem d_Model_fillPieces_24 : decode prog_12_method_18_code 24 = .ok (.iload_n 3, 1) := by decide +kernel
theorem d_Model_fillPieces_25 : decode prog_12_method_18_code 25 = .ok (.aload_n 0, 1) := by decide +kernel
theorem d_Model_fillPieces_26 : decode prog_12_method_18_code 26 = .ok (.getfield 128, 3) := by decide +kernel
theorem d_Model_fillPieces_29 : decode prog_12_method_18_code 29 = .ok (.if_icmp .ge 38, 3) := by decide +kernel
theorem d_Model_fillPieces_32 : decode prog_12_method_18_code 32 = .ok (.iload_n 3, 1) := by decide +kernel
theorem d_Model_fillPieces_33 : decode prog_12_method_18_code 33 = .ok (.iconst 1, 1) := by decide +kernel
theorem d_Model_fillPieces_34 : decode prog_12_method_18_code 34 = .ok (.iadd, 1) := by decide +kernel
theorem d_Model_fillPieces_35 : decode prog_12_method_18_code 35 = .ok (.istore 4, 2) := by decide +kernel
theorem d_Model_fillPieces_37 : decode prog_12_method_18_code 37 = .ok (.iload 4, 2) := by decide +kernel
theorem d_Model_fillPieces_39 : decode prog_12_method_18_code 39 = .ok (.aload_n 0, 1) := by decide +kernel
theorem d_Model_fillPieces_40 : decode prog_12_method_18_code 40 = .ok (.getfield 128, 3) := by decide +kernel
theorem d_Model_fillPieces_43 : decode prog_12_method_18_code 43 = .ok (.if_icmp .gt 18, 3) := by decide +kernel
theorem d_Model_fillPieces_46 : decode prog_12_method_18_code 46 = .ok (.aload_n 0, 1) := by decide +kernel
theorem d_Model_fillPieces_47 : decode prog_12_method_18_code 47 = .ok (.iload_n 1, 1) := by decide +kernel
theorem d_Model_fillPieces_48 : decode prog_12_method_18_code 48 = .ok (.iload_n 2, 1) := by decide +kernel
theorem d_Model_fillPieces_49 : decode prog_12_method_18_code 49 = .ok (.iload_n 3, 1) := by decide +kernel
theorem d_Model_fillPieces_50 : decode prog_12_method_18_code 50 = .ok (.iload 4, 2) := by decide +kernel
theorem d_Model_fillPieces_52 : decode prog_12_method_18_code 52 = .ok (.invokevirtual 182, 3) := by decide +kernel
theorem d_Model_fillPieces_55 : decode prog_12_method_18_code 55 = .ok (.iinc 4 1, 3) := by decide +kernel
theorem d_Model_fillPieces_58 : decode prog_12_method_18_code 58 = .ok (.goto (-21), 3) := by decide +kernel
theorem d_Model_fillPieces_61 : decode prog_12_method_18_code 61 = .ok (.iinc 3 1, 3) := by decide +kernel
theorem d_Model_fillPieces_64 : decode prog_12_method_18_code 64 = .ok (.goto (-40), 3) := by decide +kernel
theorem d_Model_fillPieces_67 : decode prog_12_method_18_code 67 = .ok (.iinc 2 1, 3) := by decide +kernel
theorem d_Model_fillPieces_70 : decode prog_12_method_18_code 70 = .ok (.goto (-56), 3) := by decide +kernel
theorem d_Model_fillPieces_73 : decode prog_12_method_18_code 73 = .ok (.iinc 1 1, 3) := by decide +kernel
theorem d_Model_fillPieces_76 : decode prog_12_method_18_code 76 = .ok (.goto (-74), 3) := by decide +kernel
theorem d_Model_fillPieces_79 : decode prog_12_method_18_code 79 = .ok (.return_, 1) := by decide +kernel
set_option maxRecDepth 50000 in
theorem cd_Model_fillPieces : Cond.code y_Model_fillPieces prog_12_method_18_code 5 none ∈ TB := mem_TB 1059 rfl rfl
theorem im_Model_fillPieces : Cond.instanceMethod y_Model_fillPieces ∈ TB := mem_TB 1058 (by decide +kernel) (by decide +kernel)
theorem sl_Model_fillPieces : Cond.selects R_Model y_Model_fillPieces y_Model_fillPieces ∈ TB := mem_TBs (by decide +kernel) (by decide +kernel)
theorem hd_Model_fillPieces : y_Model_fillPieces.cls ≠ "java/lang/invoke/MethodHandle" ∧ y_Model_fillPieces.cls ≠ "java/lang/invoke/VarHandle" ∧ (parseMethodDescriptor y_Model_fillPieces.desc).map (fun d => d.parameters.length) = some 0 := by decide +kernel
def y_Model_bestPiece : MethodName := ⟨R_Model, "bestPiece", "(IIII)V"⟩
abbrev ws_Model_bestPiece : List Cond := .code y_Model_bestPiece prog_12_method_19_code 9 none :: TB
theorem d_Model_bestPiece_0 : decode prog_12_method_19_code 0 = .ok (.iload_n 1, 1) := by decide +kernel
theorem d_Model_bestPiece_1 : decode prog_12_method_19_code 1 = .ok (.iload_n 2, 1) := by decide +kernel
theorem d_Model_bestPiece_2 : decode prog_12_method_19_code 2 = .ok (.iload_n 3, 1) := by decide +kernel
theorem d_Model_bestPiece_3 : decode prog_12_method_19_code 3 = .ok (.iload 4, 2) := by decide +kernel
theorem d_Model_bestPiece_5 : decode prog_12_method_19_code 5 = .ok (.invokestatic 186, 3) := by decide +kernel
theorem d_Model_bestPiece_8 : decode prog_12_method_19_code 8 = .ok (.istore 5, 2) := by decide +kernel
theorem d_Model_bestPiece_10 : decode prog_12_method_19_code 10 = .ok (.aload_n 0, 1) := by decide +kernel
theorem d_Model_bestPiece_11 : decode prog_12_method_19_code 11 = .ok (.getfield 64, 3) := by decide +kernel
theorem d_Model_bestPiece_14 : decode prog_12_method_19_code 14 = .ok (.iload 5, 2) := by decide +kernel
theorem d_Model_bestPiece_16 : decode prog_12_method_19_code 16 = .ok (.lconst 0, 1) := by decide +kernel
theorem d_Model_bestPiece_17 : decode prog_12_method_19_code 17 = .ok (.lastore, 1) := by decide +kernel
theorem d_Model_bestPiece_18 : decode prog_12_method_19_code 18 = .ok (.aload_n 0, 1) := by decide +kernel
theorem d_Model_bestPiece_19 : decode prog_12_method_19_code 19 = .ok (.getfield 67, 3) := by decide +kernel
theorem d_Model_bestPiece_22 : decode prog_12_method_19_code 22 = .ok (.iload 5, 2) := by decide +kernel
theorem d_Model_bestPiece_24 : decode prog_12_method_19_code 24 = .ok (.iconst 0, 1) := by decide +kernel
theorem d_Model_bestPiece_25 : decode prog_12_method_19_code 25 = .ok (.iastore, 1) := by decide +kernel
theorem d_Model_bestPiece_26 : decode prog_12_method_19_code 26 = .ok (.iconst 0, 1) := by decide +kernel
theorem d_Model_bestPiece_27 : decode prog_12_method_19_code 27 = .ok (.istore 6, 2) := by decide +kernel
theorem d_Model_bestPiece_29 : decode prog_12_method_19_code 29 = .ok (.iload 6, 2) := by decide +kernel
theorem d_Model_bestPiece_31 : decode prog_12_method_19_code 31 = .ok (.aload_n 0, 1) := by decide +kernel
theorem d_Model_bestPiece_32 : decode prog_12_method_19_code 32 = .ok (.getfield 158, 3) := by decide +kernel
theorem d_Model_bestPiece_35 : decode prog_12_method_19_code 35 = .ok (.if_icmp .ge 94, 3) := by decide +kernel
theorem d_Model_bestPiece_38 : decode prog_12_method_19_code 38 = .ok (.aload_n 0, 1) := by decide +kernel
theorem d_Model_bestPiece_39 : decode prog_12_method_19_code 39 = .ok (.getfield 37, 3) := by decide +kernel
theorem d_Model_bestPiece_42 : decode prog_12_method_19_code 42 = .ok (.iload 6, 2) := by decide +kernel
theorem d_Model_bestPiece_44 : decode prog_12_method_19_code 44 = .ok (.laload, 1) := by decide +kernel
theorem d_Model_bestPiece_45 : decode prog_12_method_19_code 45 = .ok (.iload_n 2, 1) := by decide +kernel
theorem d_Model_bestPiece_46 : decode prog_12_method_19_code 46 = .ok (.iload_n 1, 1) := by decide +kernel
theorem d_Model_bestPiece_47 : decode prog_12_method_19_code 47 = .ok (.isub, 1) := by decide +kernel
theorem d_Model_bestPiece_48 : decode prog_12_method_19_code 48 = .ok (.i2l, 1) := by decide +kernel
theorem d_Model_bestPiece_49 : decode prog_12_method_19_code 49 = .ok (.lmul, 1) := by decide +kernel
theorem d_Model_bestPiece_50 : decode prog_12_method_19_code 50 = .ok (.aload_n 0, 1) := by decide +kernel
theorem d_Model_bestPiece_51 : decode prog_12_method_19_code 51 = .ok (.getfield 48, 3) := by decide +kernel
theorem d_Model_bestPiece_54 : decode prog_12_method_19_code 54 = .ok (.iload 6, 2) := by decide +kernel
theorem d_Model_bestPiece_56 : decode prog_12_method_19_code 56 = .ok (.laload, 1) := by decide +kernel
theorem d_Model_bestPiece_57 : decode prog_12_method_19_code 57 = .ok (.lsub, 1) := by decide +kernel
theorem d_Model_bestPiece_58 : decode prog_12_method_19_code 58 = .ok (.lstore 7, 2) := by decide +kernel
theorem d_Model_bestPiece_60 : decode prog_12_method_19_code 60 = .ok (.aload_n 0, 1) := by decide +kernel
theorem d_Model_bestPiece_61 : decode prog_12_method_19_code 61 = .ok (.getfield 67, 3) := by decide +kernel
theorem d_Model_bestPiece_64 : decode prog_12_method_19_code 64 = .ok (.iload 5, 2) := by decide +kernel
theorem d_Model_bestPiece_66 : decode prog_12_method_19_code 66 = .ok (.iaload, 1) := by decide +kernel
theorem d_Model_bestPiece_67 : decode prog_12_method_19_code 67 = .ok (.ifCond .eq 16, 3) := by decide +kernel
theorem d_Model_bestPiece_70 : decode prog_12_method_19_code 70 = .ok (.lload 7, 2) := by decide +kernel
theorem d_Model_bestPiece_72 : decode prog_12_method_19_code 72 = .ok (.aload_n 0, 1) := by decide +kernel
theorem d_Model_bestPiece_73 : decode prog_12_method_19_code 73 = .ok (.getfield 64, 3) := by decide +kernel
theorem d_Model_bestPiece_76 : decode prog_12_method_19_code 76 = .ok (.iload 5, 2) := by decide +kernel
theorem d_Model_bestPiece_78 : decode prog_12_method_19_code 78 = .ok (.laload, 1) := by decide +kernel
theorem d_Model_bestPiece_79 : decode prog_12_method_19_code 79 = .ok (.lcmp, 1) := by decide +kernel
theorem d_Model_bestPiece_80 : decode prog_12_method_19_code 80 = .ok (.ifCond .le 43, 3) := by decide +kernel
theorem d_Model_bestPiece_83 : decode prog_12_method_19_code 83 = .ok (.aload_n 0, 1) := by decide +kernel
theorem d_Model_bestPiece_84 : decode prog_12_method_19_code 84 = .ok (.iload 6, 2) := by decide +kernel
theorem d_Model_bestPiece_86 : decode prog_12_method_19_code 86 = .ok (.iload_n 1, 1) := by decide +kernel
theorem d_Model_bestPiece_87 : decode prog_12_method_19_code 87 = .ok (.iload_n 2, 1) := by decide +kernel
theorem d_Model_bestPiece_88 : decode prog_12_method_19_code 88 = .ok (.iload_n 3, 1) := by decide +kernel
theorem d_Model_bestPiece_89 : decode prog_12_method_19_code 89 = .ok (.iload 4, 2) := by decide +kernel
theorem d_Model_bestPiece_91 : decode prog_12_method_19_code 91 = .ok (.invokevirtual 190, 3) := by decide +kernel
theorem d_Model_bestPiece_94 : decode prog_12_method_19_code 94 = .ok (.ifCond .eq 29, 3) := by decide +kernel
theorem d_Model_bestPiece_97 : decode prog_12_method_19_code 97 = .ok (.aload_n 0, 1) := by decide +kernel
theorem d_Model_bestPiece_98 : decode prog_12_method_19_code 98 = .ok (.getfield 64, 3) := by decide +kernel
theorem d_Model_bestPiece_101 : decode prog_12_method_19_code 101 = .ok (.iload 5, 2) := by decide +kernel
theorem d_Model_bestPiece_103 : decode prog_12_method_19_code 103 = .ok (.lload 7, 2) := by decide +kernel
theorem d_Model_bestPiece_105 : decode prog_12_method_19_code 105 = .ok (.lastore, 1) := by decide +kernel
theorem d_Model_bestPiece_106 : decode prog_12_method_19_code 106 = .ok (.aload_n 0, 1) := by decide +kernel
theorem d_Model_bestPiece_107 : decode prog_12_method_19_code 107 = .ok (.getfield 67, 3) := by decide +kernel
theorem d_Model_bestPiece_110 : decode prog_12_method_19_code 110 = .ok (.iload 5, 2) := by decide +kernel
theorem d_Model_bestPiece_112 : decode prog_12_method_19_code 112 = .ok (.iconst 1, 1) := by decide +kernel
theorem d_Model_bestPiece_113 : decode prog_12_method_19_code 113 = .ok (.iastore, 1) := by decide +kernel
theorem d_Model_bestPiece_114 : decode prog_12_method_19_code 114 = .ok (.aload_n 0, 1) := by decide +kernel
theorem d_Model_bestPiece_115 : decode prog_12_method_19_code 115 = .ok (.getfield 70, 3) := by decide +kernel
theorem d_Model_bestPiece_118 : decode prog_12_method_19_code 118 = .ok (.iload 5, 2) := by decide +kernel
theorem d_Model_bestPiece_120 : decode prog_12_method_19_code 120 = .ok (.iload 6, 2) := by decide +kernel
theorem d_Model_bestPiece_122 : decode prog_12_method_19_code 122 = .ok (.iastore, 1) := by decide +kernel
theorem d_Model_bestPiece_123 : decode prog_12_method_19_code 123 = .ok (.iinc 6 1, 3) := by decide +kernel
theorem d_Model_bestPiece_126 : decode prog_12_method_19_code 126 = .ok (.goto (-97), 3) := by decide +kernel
theorem d_Model_bestPiece_129 : decode prog_12_method_19_code 129 = .ok (.return_, 1) := by decide +kernel
set_option maxRecDepth 50000 in
theorem cd_Model_bestPiece : Cond.code y_Model_bestPiece prog_12_method_19_code 9 none ∈ TB := mem_TB 1063 rfl rfl
theorem im_Model_bestPiece : Cond.instanceMethod y_Model_bestPiece ∈ TB := mem_TB 1062 (by decide +kernel) (by decide +kernel)
theorem sl_Model_bestPiece : Cond.selects R_Model y_Model_bestPiece y_Model_bestPiece ∈ TB := mem_TBs (by decide +kernel) (by decide +kernel)
theorem hd_Model_bestPiece : y_Model_bestPiece.cls ≠ "java/lang/invoke/MethodHandle" ∧ y_Model_bestPiece.cls ≠ "java/lang/invoke/VarHandle" ∧ (parseMethodDescriptor y_Model_bestPiece.desc).map (fun d => d.parameters.length) = some 4 := by decide +kernel
def y_Model_isRipped : MethodName := ⟨R_Model, "isRipped", "(I)Z"⟩
abbrev ws_Model_isRipped : List Cond := .code y_Model_isRipped prog_12_method_20_code 2 (some .boolean) :: TB
theorem d_Model_isRipped_0 : decode prog_12_method_20_code 0 = .ok (.aload_n 0, 1) := by decide +kernel
theorem d_Model_isRipped_1 : decode prog_12_method_20_code 1 = .ok (.getfield 193, 3) := by decide +kernel
theorem d_Model_isRipped_4 : decode prog_12_method_20_code 4 = .ok (.ifCond .ne 7, 3) := by decide +kernel
theorem d_Model_isRipped_7 : decode prog_12_method_20_code 7 = .ok (.iconst 1, 1) := by decide +kernel
theorem d_Model_isRipped_8 : decode prog_12_method_20_code 8 = .ok (.goto 4, 3) := by decide +kernel
theorem d_Model_isRipped_11 : decode prog_12_method_20_code 11 = .ok (.iconst 0, 1) := by decide +kernel
theorem d_Model_isRipped_12 : decode prog_12_method_20_code 12 = .ok (.aload_n 0, 1) := by decide +kernel
theorem d_Model_isRipped_13 : decode prog_12_method_20_code 13 = .ok (.getfield 91, 3) := by decide +kernel
theorem d_Model_isRipped_16 : decode prog_12_method_20_code 16 = .ok (.iload_n 1, 1) := by decide +kernel
theorem d_Model_isRipped_17 : decode prog_12_method_20_code 17 = .ok (.isub, 1) := by decide +kernel
theorem d_Model_isRipped_18 : decode prog_12_method_20_code 18 = .ok (.iconst 2, 1) := by decide +kernel
theorem d_Model_isRipped_19 : decode prog_12_method_20_code 19 = .ok (.irem, 1) := by decide +kernel
theorem d_Model_isRipped_20 : decode prog_12_method_20_code 20 = .ok (.ifCond .ne 7, 3) := by decide +kernel
theorem d_Model_isRipped_23 : decode prog_12_method_20_code 23 = .ok (.iconst 1, 1) := by decide +kernel
theorem d_Model_isRipped_24 : decode prog_12_method_20_code 24 = .ok (.goto 4, 3) := by decide +kernel
theorem d_Model_isRipped_27 : decode prog_12_method_20_code 27 = .ok (.iconst 0, 1) := by decide +kernel
theorem d_Model_isRipped_28 : decode prog_12_method_20_code 28 = .ok (.if_icmp .ne 7, 3) := by decide +kernel
theorem d_Model_isRipped_31 : decode prog_12_method_20_code 31 = .ok (.iconst 1, 1) := by decide +kernel
theorem d_Model_isRipped_32 : decode prog_12_method_20_code 32 = .ok (.goto 4, 3) := by decide +kernel
theorem d_Model_isRipped_35 : decode prog_12_method_20_code 35 = .ok (.iconst 0, 1) := by decide +kernel
theorem d_Model_isRipped_36 : decode prog_12_method_20_code 36 = .ok (.ireturn, 1) := by decide +kernel
set_option maxRecDepth 50000 in
theorem cd_Model_isRipped : Cond.code y_Model_isRipped prog_12_method_20_code 2 (some .boolean) ∈ TB := mem_TB 1086 rfl rfl
theorem im_Model_isRipped : Cond.instanceMethod y_Model_isRipped ∈ TB := mem_TB 1085 (by decide +kernel) (by decide +kernel)
theorem sl_Model_isRipped : Cond.selects R_Model y_Model_isRipped y_Model_isRipped ∈ TB := mem_TBs (by decide +kernel) (by decide +kernel)
theorem hd_Model_isRipped : y_Model_isRipped.cls ≠ "java/lang/invoke/MethodHandle" ∧ y_Model_isRipped.cls ≠ "java/lang/invoke/VarHandle" ∧ (parseMethodDescriptor y_Model_isRipped.desc).map (fun d => d.parameters.length) = some 1 := by decide +kernel
def y_Model_valueBy : MethodName := ⟨R_Model, "valueBy", "(II)J"⟩
abbrev ws_Model_valueBy : List Cond := .code y_Model_valueBy prog_12_method_21_code 3 (some .long) :: TB
theorem d_Model_valueBy_0 : decode prog_12_method_21_code 0 = .ok (.iload_n 1, 1) := by decide +kernel
theorem d_Model_valueBy_1 : decode prog_12_method_21_code 1 = .ok (.ifCond .ne 12, 3) := by decide +kernel
theorem d_Model_valueBy_4 : decode prog_12_method_21_code 4 = .ok (.aload_n 0, 1) := by decide +kernel
theorem d_Model_valueBy_5 : decode prog_12_method_21_code 5 = .ok (.getfield 64, 3) := by decide +kernel
theorem d_Model_valueBy_8 : decode prog_12_method_21_code 8 = .ok (.iload_n 2, 1) := by decide +kernel
theorem d_Model_valueBy_9 : decode prog_12_method_21_code 9 = .ok (.laload, 1) := by decide +kernel
theorem d_Model_valueBy_10 : decode prog_12_method_21_code 10 = .ok (.goto 23, 3) := by decide +kernel
theorem d_Model_valueBy_13 : decode prog_12_method_21_code 13 = .ok (.iload_n 1, 1) := by decide +kernel
theorem d_Model_valueBy_14 : decode prog_12_method_21_code 14 = .ok (.iconst 1, 1) := by decide +kernel
theorem d_Model_valueBy_15 : decode prog_12_method_21_code 15 = .ok (.if_icmp .ne 12, 3) := by decide +kernel
theorem d_Model_valueBy_18 : decode prog_12_method_21_code 18 = .ok (.aload_n 0, 1) := by decide +kernel
theorem d_Model_valueBy_19 : decode prog_12_method_21_code 19 = .ok (.getfield 73, 3) := by decide +kernel
theorem d_Model_valueBy_22 : decode prog_12_method_21_code 22 = .ok (.iload_n 2, 1) := by decide +kernel
theorem d_Model_valueBy_23 : decode prog_12_method_21_code 23 = .ok (.laload, 1) := by decide +kernel
theorem d_Model_valueBy_24 : decode prog_12_method_21_code 24 = .ok (.goto 9, 3) := by decide +kernel
theorem d_Model_valueBy_27 : decode prog_12_method_21_code 27 = .ok (.aload_n 0, 1) := by decide +kernel
theorem d_Model_valueBy_28 : decode prog_12_method_21_code 28 = .ok (.getfield 79, 3) := by decide +kernel
theorem d_Model_valueBy_31 : decode prog_12_method_21_code 31 = .ok (.iload_n 2, 1) := by decide +kernel
theorem d_Model_valueBy_32 : decode prog_12_method_21_code 32 = .ok (.laload, 1) := by decide +kernel
theorem d_Model_valueBy_33 : decode prog_12_method_21_code 33 = .ok (.lreturn, 1) := by decide +kernel
set_option maxRecDepth 50000 in
theorem cd_Model_valueBy : Cond.code y_Model_valueBy prog_12_method_21_code 3 (some .long) ∈ TB := mem_TB 1102 rfl rfl
theorem im_Model_valueBy : Cond.instanceMethod y_Model_valueBy ∈ TB := mem_TB 1101 (by decide +kernel) (by decide +kernel)
theorem sl_Model_valueBy : Cond.selects R_Model y_Model_valueBy y_Model_valueBy ∈ TB := mem_TBs (by decide +kernel) (by decide +kernel)
theorem hd_Model_valueBy : y_Model_valueBy.cls ≠ "java/lang/invoke/MethodHandle" ∧ y_Model_valueBy.cls ≠ "java/lang/invoke/VarHandle" ∧ (parseMethodDescriptor y_Model_valueBy.desc).map (fun d => d.parameters.length) = some 2 := by decide +kernel
def y_Model_countBy : MethodName := ⟨R_Model, "countBy", "(II)I"⟩
abbrev ws_Model_countBy : List Cond := .code y_Model_countBy prog_12_method_22_code 3 (some .int) :: TB
theorem d_Model_countBy_0 : decode prog_12_method_22_code 0 = .ok (.iload_n 1, 1) := by decide +kernel
theorem d_Model_countBy_1 : decode prog_12_method_22_code 1 = .ok (.ifCond .ne 12, 3) := by decide +kernel
theorem d_Model_countBy_4 : decode prog_12_method_22_code 4 = .ok (.aload_n 0, 1) := by decide +kernel
theorem d_Model_countBy_5 : decode prog_12_method_22_code 5 = .ok (.getfield 67, 3) := by decide +kernel
theorem d_Model_countBy_8 : decode prog_12_method_22_code 8 = .ok (.iload_n 2, 1) := by decide +kernel
theorem d_Model_countBy_9 : decode prog_12_method_22_code 9 = .ok (.iaload, 1) := by decide +kernel
theorem d_Model_countBy_10 : decode prog_12_method_22_code 10 = .ok (.goto 23, 3) := by decide +kernel
theorem d_Model_countBy_13 : decode prog_12_method_22_code 13 = .ok (.iload_n 1, 1) := by decide +kernel
theorem d_Model_countBy_14 : decode prog_12_method_22_code 14 = .ok (.iconst 1, 1) := by decide +kernel
theorem d_Model_countBy_15 : decode prog_12_method_22_code 15 = .ok (.if_icmp .ne 12, 3) := by decide +kernel
theorem d_Model_countBy_18 : decode prog_12_method_22_code 18 = .ok (.aload_n 0, 1) := by decide +kernel
theorem d_Model_countBy_19 : decode prog_12_method_22_code 19 = .ok (.getfield 76, 3) := by decide +kernel
theorem d_Model_countBy_22 : decode prog_12_method_22_code 22 = .ok (.iload_n 2, 1) := by decide +kernel
theorem d_Model_countBy_23 : decode prog_12_method_22_code 23 = .ok (.iaload, 1) := by decide +kernel
theorem d_Model_countBy_24 : decode prog_12_method_22_code 24 = .ok (.goto 9, 3) := by decide +kernel
theorem d_Model_countBy_27 : decode prog_12_method_22_code 27 = .ok (.aload_n 0, 1) := by decide +kernel
theorem d_Model_countBy_28 : decode prog_12_method_22_code 28 = .ok (.getfield 82, 3) := by decide +kernel
theorem d_Model_countBy_31 : decode prog_12_method_22_code 31 = .ok (.iload_n 2, 1) := by decide +kernel
theorem d_Model_countBy_32 : decode prog_12_method_22_code 32 = .ok (.iaload, 1) := by decide +kernel
theorem d_Model_countBy_33 : decode prog_12_method_22_code 33 = .ok (.ireturn, 1) := by decide +kernel
set_option maxRecDepth 50000 in
theorem cd_Model_countBy : Cond.code y_Model_countBy prog_12_method_22_code 3 (some .int) ∈ TB := mem_TB 1094 rfl rfl
theorem im_Model_countBy : Cond.instanceMethod y_Model_countBy ∈ TB := mem_TB 1093 (by decide +kernel) (by decide +kernel)
theorem sl_Model_countBy : Cond.selects R_Model y_Model_countBy y_Model_countBy ∈ TB := mem_TBs (by decide +kernel) (by decide +kernel)
theorem hd_Model_countBy : y_Model_countBy.cls ≠ "java/lang/invoke/MethodHandle" ∧ y_Model_countBy.cls ≠ "java/lang/invoke/VarHandle" ∧ (parseMethodDescriptor y_Model_countBy.desc).map (fun d => d.parameters.length) = some 2 := by decide +kernel
def y_Model_segment : MethodName := ⟨R_Model, "segment", "(ZIIIIII)I"⟩
abbrev ws_Model_segment : List Cond := .code y_Model_segment prog_12_method_23_code 8 (some .int) :: TB
theorem d_Model_segment_0 : decode prog_12_method_23_code 0 = .ok (.iload_n 1, 1) := by decide +kernel
theorem d_Model_segment_1 : decode prog_12_method_23_code 1 = .ok (.ifCond .eq 21, 3) := by decide +kernel
theorem d_Model_segment_4 : decode prog_12_method_23_code 4 = .ok (.iload_n 2, 1) := by decide +kernel
theorem d_Model_segment_5 : decode prog_12_method_23_code 5 = .ok (.iload_n 3, 1) := by decide +kernel
theorem d_Model_segment_6 : decode prog_12_method_23_code 6 = .ok (.iload 4, 2) := by decide +kernel
theorem d_Model_segment_8 : decode prog_12_method_23_code 8 = .ok (.iload 6, 2) := by decide +kernel
theorem d_Model_segment_10 : decode prog_12_method_23_code 10 = .ok (.iadd, 1) := by decide +kernel
theorem d_Model_segment_11 : decode prog_12_method_23_code 11 = .ok (.iload 4, 2) := by decide +kernel
theorem d_Model_segment_13 : decode prog_12_method_23_code 13 = .ok (.iload 7, 2) := by decide +kernel
theorem d_Model_segment_15 : decode prog_12_method_23_code 15 = .ok (.iadd, 1) := by decide +kernel
theorem d_Model_segment_16 : decode prog_12_method_23_code 16 = .ok (.invokestatic 186, 3) := by decide +kernel
theorem d_Model_segment_19 : decode prog_12_method_23_code 19 = .ok (.goto 18, 3) := by decide +kernel
theorem d_Model_segment_22 : decode prog_12_method_23_code 22 = .ok (.iload_n 2, 1) := by decide +kernel
theorem d_Model_segment_23 : decode prog_12_method_23_code 23 = .ok (.iload 6, 2) := by decide +kernel
theorem d_Model_segment_25 : decode prog_12_method_23_code 25 = .ok (.iadd, 1) := by decide +kernel
theorem d_Model_segment_26 : decode prog_12_method_23_code 26 = .ok (.iload_n 2, 1) := by decide +kernel
theorem d_Model_segment_27 : decode prog_12_method_23_code 27 = .ok (.iload 7, 2) := by decide +kernel
theorem d_Model_segment_29 : decode prog_12_method_23_code 29 = .ok (.iadd, 1) := by decide +kernel
theorem d_Model_segment_30 : decode prog_12_method_23_code 30 = .ok (.iload 4, 2) := by decide +kernel
theorem d_Model_segment_32 : decode prog_12_method_23_code 32 = .ok (.iload 5, 2) := by decide +kernel
theorem d_Model_segment_34 : decode prog_12_method_23_code 34 = .ok (.invokestatic 186, 3) := by decide +kernel
theorem d_Model_segment_37 : decode prog_12_method_23_code 37 = .ok (.ireturn, 1) := by decide +kernel
set_option maxRecDepth 50000 in
theorem cd_Model_segment : Cond.code y_Model_segment prog_12_method_23_code 8 (some .int) ∈ TB := mem_TB 1090 rfl rfl
theorem im_Model_segment : Cond.instanceMethod y_Model_segment ∈ TB := mem_TB 1089 (by decide +kernel) (by decide +kernel)
theorem sl_Model_segment : Cond.selects R_Model y_Model_segment y_Model_segment ∈ TB := mem_TBs (by decide +kernel) (by decide +kernel)
theorem hd_Model_segment : y_Model_segment.cls ≠ "java/lang/invoke/MethodHandle" ∧ y_Model_segment.cls ≠ "java/lang/invoke/VarHandle" ∧ (parseMethodDescriptor y_Model_segment.desc).map (fun d => d.parameters.length) = some 7 := by decide +kernel
def y_Model_isCut : MethodName := ⟨R_Model, "isCut", "(II)Z"⟩
abbrev ws_Model_isCut : List Cond := .code y_Model_isCut prog_12_method_24_code 3 (some .boolean) :: TB
theorem d_Model_isCut_0 : decode prog_12_method_24_code 0 = .ok (.iload_n 1, 1) := by decide +kernel
theorem d_Model_isCut_1 : decode prog_12_method_24_code 1 = .ok (.aload_n 0, 1) := by decide +kernel
theorem d_Model_isCut_2 : decode prog_12_method_24_code 2 = .ok (.getfield 91, 3) := by decide +kernel
theorem d_Model_isCut_5 : decode prog_12_method_24_code 5 = .ok (.if_icmp .lt 27, 3) := by decide +kernel
theorem d_Model_isCut_8 : decode prog_12_method_24_code 8 = .ok (.aload_n 0, 1) := by decide +kernel
theorem d_Model_isCut_9 : decode prog_12_method_24_code 9 = .ok (.iload_n 1, 1) := by decide +kernel
theorem d_Model_isCut_10 : decode prog_12_method_24_code 10 = .ok (.invokevirtual 196, 3) := by decide +kernel
theorem d_Model_isCut_13 : decode prog_12_method_24_code 13 = .ok (.ifCond .eq 19, 3) := by decide +kernel
theorem d_Model_isCut_16 : decode prog_12_method_24_code 16 = .ok (.aload_n 0, 1) := by decide +kernel
theorem d_Model_isCut_17 : decode prog_12_method_24_code 17 = .ok (.getfield 168, 3) := by decide +kernel
theorem d_Model_isCut_20 : decode prog_12_method_24_code 20 = .ok (.ifCond .eq 12, 3) := by decide +kernel
theorem d_Model_isCut_23 : decode prog_12_method_24_code 23 = .ok (.aload_n 0, 1) := by decide +kernel
theorem d_Model_isCut_24 : decode prog_12_method_24_code 24 = .ok (.getfield 55, 3) := by decide +kernel
theorem d_Model_isCut_27 : decode prog_12_method_24_code 27 = .ok (.iload_n 2, 1) := by decide +kernel
theorem d_Model_isCut_28 : decode prog_12_method_24_code 28 = .ok (.baload, 1) := by decide +kernel
theorem d_Model_isCut_29 : decode prog_12_method_24_code 29 = .ok (.ifCond .eq 7, 3) := by decide +kernel
theorem d_Model_isCut_32 : decode prog_12_method_24_code 32 = .ok (.iconst 1, 1) := by decide +kernel
theorem d_Model_isCut_33 : decode prog_12_method_24_code 33 = .ok (.goto 4, 3) := by decide +kernel
theorem d_Model_isCut_36 : decode prog_12_method_24_code 36 = .ok (.iconst 0, 1) := by decide +kernel
theorem d_Model_isCut_37 : decode prog_12_method_24_code 37 = .ok (.ireturn, 1) := by decide +kernel
set_option maxRecDepth 50000 in
theorem cd_Model_isCut : Cond.code y_Model_isCut prog_12_method_24_code 3 (some .boolean) ∈ TB := mem_TB 1098 rfl rfl
theorem im_Model_isCut : Cond.instanceMethod y_Model_isCut ∈ TB := mem_TB 1097 (by decide +kernel) (by decide +kernel)
theorem sl_Model_isCut : Cond.selects R_Model y_Model_isCut y_Model_isCut ∈ TB := mem_TBs (by decide +kernel) (by decide +kernel)
theorem hd_Model_isCut : y_Model_isCut.cls ≠ "java/lang/invoke/MethodHandle" ∧ y_Model_isCut.cls ≠ "java/lang/invoke/VarHandle" ∧ (parseMethodDescriptor y_Model_isCut.desc).map (fun d => d.parameters.length) = some 2 := by decide +kernel
def y_Model_reckon : MethodName := ⟨R_Model, "reckon", "(IIIII)V"⟩
abbrev ws_Model_reckon : List Cond := .code y_Model_reckon prog_12_method_25_code 16 none :: TB
theorem d_Model_reckon_0 : decode prog_12_method_25_code 0 = .ok (.aload_n 0, 1) := by decide +kernel
theorem d_Model_reckon_1 : decode prog_12_method_25_code 1 = .ok (.iload_n 1, 1) := by decide +kernel
theorem d_Model_reckon_2 : decode prog_12_method_25_code 2 = .ok (.invokevirtual 196, 3) := by decide +kernel
theorem d_Model_reckon_5 : decode prog_12_method_25_code 5 = .ok (.istore 6, 2) := by decide +kernel
theorem d_Model_reckon_7 : decode prog_12_method_25_code 7 = .ok (.iload 6, 2) := by decide +kernel
theorem d_Model_reckon_9 : decode prog_12_method_25_code 9 = .ok (.ifCond .eq 11, 3) := by decide +kernel
theorem d_Model_reckon_12 : decode prog_12_method_25_code 12 = .ok (.iload 5, 2) := by decide +kernel
theorem d_Model_reckon_14 : decode prog_12_method_25_code 14 = .ok (.iload 4, 2) := by decide +kernel
theorem d_Model_reckon_16 : decode prog_12_method_25_code 16 = .ok (.isub, 1) := by decide +kernel
theorem d_Model_reckon_17 : decode prog_12_method_25_code 17 = .ok (.goto 6, 3) := by decide +kernel
theorem d_Model_reckon_20 : decode prog_12_method_25_code 20 = .ok (.iload_n 3, 1) := by decide +kernel
theorem d_Model_reckon_21 : decode prog_12_method_25_code 21 = .ok (.iload_n 2, 1) := by decide +kernel
theorem d_Model_reckon_22 : decode prog_12_method_25_code 22 = .ok (.isub, 1) := by decide +kernel
theorem d_Model_reckon_23 : decode prog_12_method_25_code 23 = .ok (.istore 7, 2) := by decide +kernel
theorem d_Model_reckon_25 : decode prog_12_method_25_code 25 = .ok (.bipush 32, 2) := by decide +kernel
theorem d_Model_reckon_27 : decode prog_12_method_25_code 27 = .ok (.iload_n 1, 1) := by decide +kernel
theorem d_Model_reckon_28 : decode prog_12_method_25_code 28 = .ok (.imul, 1) := by decide +kernel
theorem d_Model_reckon_29 : decode prog_12_method_25_code 29 = .ok (.istore 8, 2) := by decide +kernel
theorem d_Model_reckon_31 : decode prog_12_method_25_code 31 = .ok (.aload_n 0, 1) := by decide +kernel
theorem d_Model_reckon_32 : decode prog_12_method_25_code 32 = .ok (.getfield 85, 3) := by decide +kernel
theorem d_Model_reckon_35 : decode prog_12_method_25_code 35 = .ok (.iload 8, 2) := by decide +kernel
theorem d_Model_reckon_37 : decode prog_12_method_25_code 37 = .ok (.iload 7, 2) := by decide +kernel
theorem d_Model_reckon_39 : decode prog_12_method_25_code 39 = .ok (.iadd, 1) := by decide +kernel
theorem d_Model_reckon_40 : decode prog_12_method_25_code 40 = .ok (.lconst 0, 1) := by decide +kernel
theorem d_Model_reckon_41 : decode prog_12_method_25_code 41 = .ok (.lastore, 1) := by decide +kernel
theorem d_Model_reckon_42 : decode prog_12_method_25_code 42 = .ok (.aload_n 0, 1) := by decide +kernel
theorem d_Model_reckon_43 : decode prog_12_method_25_code 43 = .ok (.getfield 88, 3) := by decide +kernel
theorem d_Model_reckon_46 : decode prog_12_method_25_code 46 = .ok (.iload 8, 2) := by decide +kernel
theorem d_Model_reckon_48 : decode prog_12_method_25_code 48 = .ok (.iload 7, 2) := by decide +kernel
theorem d_Model_reckon_50 : decode prog_12_method_25_code 50 = .ok (.iadd, 1) := by decide +kernel
theorem d_Model_reckon_51 : decode prog_12_method_25_code 51 = .ok (.iconst 0, 1) := by decide +kernel
theorem d_Model_reckon_52 : decode prog_12_method_25_code 52 = .ok (.iastore, 1) := by decide +kernel
theorem d_Model_reckon_53 : decode prog_12_method_25_code 53 = .ok (.iload 7, 2) := by decide +kernel
theorem d_Model_reckon_55 : decode prog_12_method_25_code 55 = .ok (.iconst 1, 1) := by decide +kernel
theorem d_Model_reckon_56 : decode prog_12_method_25_code 56 = .ok (.isub, 1) := by decide +kernel
theorem d_Model_reckon_57 : decode prog_12_method_25_code 57 = .ok (.istore 9, 2) := by decide +kernel
theorem d_Model_reckon_59 : decode prog_12_method_25_code 59 = .ok (.iload 9, 2) := by decide +kernel
theorem d_Model_reckon_61 : decode prog_12_method_25_code 61 = .ok (.ifCond .lt 227, 3) := by decide +kernel
theorem d_Model_reckon_64 : decode prog_12_method_25_code 64 = .ok (.aload_n 0, 1) := by decide +kernel
theorem d_Model_reckon_65 : decode prog_12_method_25_code 65 = .ok (.getfield 85, 3) := by decide +kernel
theorem d_Model_reckon_68 : decode prog_12_method_25_code 68 = .ok (.iload 8, 2) := by decide +kernel
theorem d_Model_reckon_70 : decode prog_12_method_25_code 70 = .ok (.iload 9, 2) := by decide +kernel
theorem d_Model_reckon_72 : decode prog_12_method_25_code 72 = .ok (.iadd, 1) := by decide +kernel
theorem d_Model_reckon_73 : decode prog_12_method_25_code 73 = .ok (.aload_n 0, 1) := by decide +kernel
theorem d_Model_reckon_74 : decode prog_12_method_25_code 74 = .ok (.getfield 85, 3) := by decide +kernel
theorem d_Model_reckon_77 : decode prog_12_method_25_code 77 = .ok (.iload 8, 2) := by decide +kernel
theorem d_Model_reckon_79 : decode prog_12_method_25_code 79 = .ok (.iload 9, 2) := by decide +kernel
theorem d_Model_reckon_81 : decode prog_12_method_25_code 81 = .ok (.iadd, 1) := by decide +kernel
theorem d_Model_reckon_82 : decode prog_12_method_25_code 82 = .ok (.iconst 1, 1) := by decide +kernel
theorem d_Model_reckon_83 : decode prog_12_method_25_code 83 = .ok (.iadd, 1) := by decide +kernel
theorem d_Model_reckon_84 : decode prog_12_method_25_code 84 = .ok (.laload, 1) := by decide +kernel
theorem d_Model_reckon_85 : decode prog_12_method_25_code 85 = .ok (.lastore, 1) := by decide +kernel
theorem d_Model_reckon_86 : decode prog_12_method_25_code 86 = .ok (.aload_n 0, 1) := by decide +kernel
theorem d_Model_reckon_87 : decode prog_12_method_25_code 87 = .ok (.getfield 88, 3) := by decide +kernel
theorem d_Model_reckon_90 : decode prog_12_method_25_code 90 = .ok (.iload 8, 2) := by decide +kernel
theorem d_Model_reckon_92 : decode prog_12_method_25_code 92 = .ok (.iload 9, 2) := by decide +kernel
theorem d_Model_reckon_94 : decode prog_12_method_25_code 94 = .ok (.iadd, 1) := by decide +kernel
theorem d_Model_reckon_95 : decode prog_12_method_25_code 95 = .ok (.aload_n 0, 1) := by decide +kernel
theorem d_Model_reckon_96 : decode prog_12_method_25_code 96 = .ok (.getfield 88, 3) := by decide +kernel
theorem d_Model_reckon_99 : decode prog_12_method_25_code 99 = .ok (.iload 8, 2) := by decide +kernel
theorem d_Model_reckon_101 : decode prog_12_method_25_code 101 = .ok (.iload 9, 2) := by decide +kernel
theorem d_Model_reckon_103 : decode prog_12_method_25_code 103 = .ok (.iadd, 1) := by decide +kernel
theorem d_Model_reckon_104 : decode prog_12_method_25_code 104 = .ok (.iconst 1, 1) := by decide +kernel
theorem d_Model_reckon_105 : decode prog_12_method_25_code 105 = .ok (.iadd, 1) := by decide +kernel
theorem d_Model_reckon_106 : decode prog_12_method_25_code 106 = .ok (.iaload, 1) := by decide +kernel
theorem d_Model_reckon_107 : decode prog_12_method_25_code 107 = .ok (.iastore, 1) := by decide +kernel
theorem d_Model_reckon_108 : decode prog_12_method_25_code 108 = .ok (.iload 9, 2) := by decide +kernel
theorem d_Model_reckon_110 : decode prog_12_method_25_code 110 = .ok (.iconst 1, 1) := by decide +kernel
theorem d_Model_reckon_111 : decode prog_12_method_25_code 111 = .ok (.iadd, 1) := by decide +kernel
theorem d_Model_reckon_112 : decode prog_12_method_25_code 112 = .ok (.istore 10, 2) := by decide +kernel
theorem d_Model_reckon_114 : decode prog_12_method_25_code 114 = .ok (.iload 10, 2) := by decide +kernel
theorem d_Model_reckon_116 : decode prog_12_method_25_code 116 = .ok (.iload 7, 2) := by decide +kernel
theorem d_Model_reckon_118 : decode prog_12_method_25_code 118 = .ok (.if_icmp .gt 164, 3) := by decide +kernel
theorem d_Model_reckon_121 : decode prog_12_method_25_code 121 = .ok (.aload_n 0, 1) := by decide +kernel
theorem d_Model_reckon_122 : decode prog_12_method_25_code 122 = .ok (.iload 6, 2) := by decide +kernel
theorem d_Model_reckon_124 : decode prog_12_method_25_code 124 = .ok (.iload_n 2, 1) := by decide +kernel
theorem d_Model_reckon_125 : decode prog_12_method_25_code 125 = .ok (.iload_n 3, 1) := by decide +kernel
theorem d_Model_reckon_126 : decode prog_12_method_25_code 126 = .ok (.iload 4, 2) := by decide +kernel
theorem d_Model_reckon_128 : decode prog_12_method_25_code 128 = .ok (.iload 5, 2) := by decide +kernel
theorem d_Model_reckon_130 : decode prog_12_method_25_code 130 = .ok (.iload 9, 2) := by decide +kernel
theorem d_Model_reckon_132 : decode prog_12_method_25_code 132 = .ok (.iload 10, 2) := by decide +kernel
theorem d_Model_reckon_134 : decode prog_12_method_25_code 134 = .ok (.invokevirtual 199, 3) := by decide +kernel
theorem d_Model_reckon_137 : decode prog_12_method_25_code 137 = .ok (.istore 11, 2) := by decide +kernel
theorem d_Model_reckon_139 : decode prog_12_method_25_code 139 = .ok (.aload_n 0, 1) := by decide +kernel
theorem d_Model_reckon_140 : decode prog_12_method_25_code 140 = .ok (.iload_n 1, 1) := by decide +kernel
theorem d_Model_reckon_141 : decode prog_12_method_25_code 141 = .ok (.iconst 1, 1) := by decide +kernel
theorem d_Model_reckon_142 : decode prog_12_method_25_code 142 = .ok (.isub, 1) := by decide +kernel
theorem d_Model_reckon_143 : decode prog_12_method_25_code 143 = .ok (.iload 11, 2) := by decide +kernel
theorem d_Model_reckon_145 : decode prog_12_method_25_code 145 = .ok (.invokevirtual 203, 3) := by decide +kernel
theorem d_Model_reckon_148 : decode prog_12_method_25_code 148 = .ok (.istore 12, 2) := by decide +kernel
theorem d_Model_reckon_150 : decode prog_12_method_25_code 150 = .ok (.iload 12, 2) := by decide +kernel
theorem d_Model_reckon_152 : decode prog_12_method_25_code 152 = .ok (.ifCond .le 124, 3) := by decide +kernel
theorem d_Model_reckon_155 : decode prog_12_method_25_code 155 = .ok (.aload_n 0, 1) := by decide +kernel
theorem d_Model_reckon_156 : decode prog_12_method_25_code 156 = .ok (.iload_n 1, 1) := by decide +kernel
theorem d_Model_reckon_157 : decode prog_12_method_25_code 157 = .ok (.iload 10, 2) := by decide +kernel
theorem d_Model_reckon_159 : decode prog_12_method_25_code 159 = .ok (.iload 9, 2) := by decide +kernel
theorem d_Model_reckon_161 : decode prog_12_method_25_code 161 = .ok (.isub, 1) := by decide +kernel
theorem d_Model_reckon_162 : decode prog_12_method_25_code 162 = .ok (.invokevirtual 207, 3) := by decide +kernel
theorem d_Model_reckon_165 : decode prog_12_method_25_code 165 = .ok (.ifCond .eq 111, 3) := by decide +kernel
theorem d_Model_reckon_168 : decode prog_12_method_25_code 168 = .ok (.aload_n 0, 1) := by decide +kernel
theorem d_Model_reckon_169 : decode prog_12_method_25_code 169 = .ok (.getfield 85, 3) := by decide +kernel
theorem d_Model_reckon_172 : decode prog_12_method_25_code 172 = .ok (.iload 8, 2) := by decide +kernel
theorem d_Model_reckon_174 : decode prog_12_method_25_code 174 = .ok (.iload 10, 2) := by decide +kernel
theorem d_Model_reckon_176 : decode prog_12_method_25_code 176 = .ok (.iadd, 1) := by decide +kernel
theorem d_Model_reckon_177 : decode prog_12_method_25_code 177 = .ok (.laload, 1) := by decide +kernel
theorem d_Model_reckon_178 : decode prog_12_method_25_code 178 = .ok (.aload_n 0, 1) := by decide +kernel
theorem d_Model_reckon_179 : decode prog_12_method_25_code 179 = .ok (.iload_n 1, 1) := by decide +kernel
theorem d_Model_reckon_180 : decode prog_12_method_25_code 180 = .ok (.iconst 1, 1) := by decide +kernel
theorem d_Model_reckon_181 : decode prog_12_method_25_code 181 = .ok (.isub, 1) := by decide +kernel
theorem d_Model_reckon_182 : decode prog_12_method_25_code 182 = .ok (.iload 11, 2) := by decide +kernel
theorem d_Model_reckon_184 : decode prog_12_method_25_code 184 = .ok (.invokevirtual 211, 3) := by decide +kernel
theorem d_Model_reckon_187 : decode prog_12_method_25_code 187 = .ok (.ladd, 1) := by decide +kernel
theorem d_Model_reckon_188 : decode prog_12_method_25_code 188 = .ok (.lstore 13, 2) := by decide +kernel
theorem d_Model_reckon_190 : decode prog_12_method_25_code 190 = .ok (.aload_n 0, 1) := by decide +kernel
theorem d_Model_reckon_191 : decode prog_12_method_25_code 191 = .ok (.getfield 88, 3) := by decide +kernel
theorem d_Model_reckon_194 : decode prog_12_method_25_code 194 = .ok (.iload 8, 2) := by decide +kernel
theorem d_Model_reckon_196 : decode prog_12_method_25_code 196 = .ok (.iload 10, 2) := by decide +kernel
theorem d_Model_reckon_198 : decode prog_12_method_25_code 198 = .ok (.iadd, 1) := by decide +kernel
theorem d_Model_reckon_199 : decode prog_12_method_25_code 199 = .ok (.iaload, 1) := by decide +kernel
theorem d_Model_reckon_200 : decode prog_12_method_25_code 200 = .ok (.iload 12, 2) := by decide +kernel
theorem d_Model_reckon_202 : decode prog_12_method_25_code 202 = .ok (.iadd, 1) := by decide +kernel
theorem d_Model_reckon_203 : decode prog_12_method_25_code 203 = .ok (.istore 15, 2) := by decide +kernel
theorem d_Model_reckon_205 : decode prog_12_method_25_code 205 = .ok (.lload 13, 2) := by decide +kernel
theorem d_Model_reckon_207 : decode prog_12_method_25_code 207 = .ok (.aload_n 0, 1) := by decide +kernel
theorem d_Model_reckon_208 : decode prog_12_method_25_code 208 = .ok (.getfield 85, 3) := by decide +kernel
theorem d_Model_reckon_211 : decode prog_12_method_25_code 211 = .ok (.iload 8, 2) := by decide +kernel
theorem d_Model_reckon_213 : decode prog_12_method_25_code 213 = .ok (.iload 9, 2) := by decide +kernel
theorem d_Model_reckon_215 : decode prog_12_method_25_code 215 = .ok (.iadd, 1) := by decide +kernel
theorem d_Model_reckon_216 : decode prog_12_method_25_code 216 = .ok (.laload, 1) := by decide +kernel
theorem d_Model_reckon_217 : decode prog_12_method_25_code 217 = .ok (.lcmp, 1) := by decide +kernel
theorem d_Model_reckon_218 : decode prog_12_method_25_code 218 = .ok (.ifCond .gt 34, 3) := by decide +kernel
theorem d_Model_reckon_221 : decode prog_12_method_25_code 221 = .ok (.lload 13, 2) := by decide +kernel
theorem d_Model_reckon_223 : decode prog_12_method_25_code 223 = .ok (.aload_n 0, 1) := by decide +kernel
theorem d_Model_reckon_224 : decode prog_12_method_25_code 224 = .ok (.getfield 85, 3) := by decide +kernel
theorem d_Model_reckon_227 : decode prog_12_method_25_code 227 = .ok (.iload 8, 2) := by decide +kernel
theorem d_Model_reckon_229 : decode prog_12_method_25_code 229 = .ok (.iload 9, 2) := by decide +kernel
theorem d_Model_reckon_231 : decode prog_12_method_25_code 231 = .ok (.iadd, 1) := by decide +kernel
theorem d_Model_reckon_232 : decode prog_12_method_25_code 232 = .ok (.laload, 1) := by decide +kernel
theorem d_Model_reckon_233 : decode prog_12_method_25_code 233 = .ok (.lcmp, 1) := by decide +kernel
theorem d_Model_reckon_234 : decode prog_12_method_25_code 234 = .ok (.ifCond .ne 42, 3) := by decide +kernel
theorem d_Model_reckon_237 : decode prog_12_method_25_code 237 = .ok (.iload 15, 2) := by decide +kernel
theorem d_Model_reckon_239 : decode prog_12_method_25_code 239 = .ok (.aload_n 0, 1) := by decide +kernel
theorem d_Model_reckon_240 : decode prog_12_method_25_code 240 = .ok (.getfield 88, 3) := by decide +kernel
theorem d_Model_reckon_243 : decode prog_12_method_25_code 243 = .ok (.iload 8, 2) := by decide +kernel
theorem d_Model_reckon_245 : decode prog_12_method_25_code 245 = .ok (.iload 9, 2) := by decide +kernel
theorem d_Model_reckon_247 : decode prog_12_method_25_code 247 = .ok (.iadd, 1) := by decide +kernel
theorem d_Model_reckon_248 : decode prog_12_method_25_code 248 = .ok (.iaload, 1) := by decide +kernel
theorem d_Model_reckon_249 : decode prog_12_method_25_code 249 = .ok (.if_icmp .ge 27, 3) := by decide +kernel
theorem d_Model_reckon_252 : decode prog_12_method_25_code 252 = .ok (.aload_n 0, 1) := by decide +kernel
theorem d_Model_reckon_253 : decode prog_12_method_25_code 253 = .ok (.getfield 85, 3) := by decide +kernel
theorem d_Model_reckon_256 : decode prog_12_method_25_code 256 = .ok (.iload 8, 2) := by decide +kernel
theorem d_Model_reckon_258 : decode prog_12_method_25_code 258 = .ok (.iload 9, 2) := by decide +kernel
theorem d_Model_reckon_260 : decode prog_12_method_25_code 260 = .ok (.iadd, 1) := by decide +kernel
theorem d_Model_reckon_261 : decode prog_12_method_25_code 261 = .ok (.lload 13, 2) := by decide +kernel
theorem d_Model_reckon_263 : decode prog_12_method_25_code 263 = .ok (.lastore, 1) := by decide +kernel
theorem d_Model_reckon_264 : decode prog_12_method_25_code 264 = .ok (.aload_n 0, 1) := by decide +kernel
theorem d_Model_reckon_265 : decode prog_12_method_25_code 265 = .ok (.getfield 88, 3) := by decide +kernel
theorem d_Model_reckon_268 : decode prog_12_method_25_code 268 = .ok (.iload 8, 2) := by decide +kernel
theorem d_Model_reckon_270 : decode prog_12_method_25_code 270 = .ok (.iload 9, 2) := by decide +kernel
theorem d_Model_reckon_272 : decode prog_12_method_25_code 272 = .ok (.iadd, 1) := by decide +kernel
theorem d_Model_reckon_273 : decode prog_12_method_25_code 273 = .ok (.iload 15, 2) := by decide +kernel
theorem d_Model_reckon_275 : decode prog_12_method_25_code 275 = .ok (.iastore, 1) := by decide +kernel
theorem d_Model_reckon_276 : decode prog_12_method_25_code 276 = .ok (.iinc 10 1, 3) := by decide +kernel
theorem d_Model_reckon_279 : decode prog_12_method_25_code 279 = .ok (.goto (-165), 3) := by decide +kernel
theorem d_Model_reckon_282 : decode prog_12_method_25_code 282 = .ok (.iinc 9 (-1), 3) := by decide +kernel
theorem d_Model_reckon_285 : decode prog_12_method_25_code 285 = .ok (.goto (-226), 3) := by decide +kernel
theorem d_Model_reckon_288 : decode prog_12_method_25_code 288 = .ok (.return_, 1) := by decide +kernel
set_option maxRecDepth 50000 in
theorem cd_Model_reckon : Cond.code y_Model_reckon prog_12_method_25_code 16 none ∈ TB := mem_TB 1082 rfl rfl
theorem im_Model_reckon : Cond.instanceMethod y_Model_reckon ∈ TB := mem_TB 1081 (by decide +kernel) (by decide +kernel)
theorem sl_Model_reckon : Cond.selects R_Model y_Model_reckon y_Model_reckon ∈ TB := mem_TBs (by decide +kernel) (by decide +kernel)
theorem hd_Model_reckon : y_Model_reckon.cls ≠ "java/lang/invoke/MethodHandle" ∧ y_Model_reckon.cls ≠ "java/lang/invoke/VarHandle" ∧ (parseMethodDescriptor y_Model_reckon.desc).map (fun d => d.parameters.length) = some 5 := by decide +kernel
def y_Model_segmentFrom : MethodName := ⟨R_Model, "segmentFrom", "(IIIIII)I"⟩
abbrev ws_Model_segmentFrom : List Cond := .code y_Model_segmentFrom prog_12_method_26_code 13 (some .int) :: TB
theorem d_Model_segmentFrom_0 : decode prog_12_method_26_code 0 = .ok (.aload_n 0, 1) := by decide +kernel
theorem d_Model_segmentFrom_1 : decode prog_12_method_26_code 1 = .ok (.iload_n 1, 1) := by decide +kernel
theorem d_Model_segmentFrom_2 : decode prog_12_method_26_code 2 = .ok (.invokevirtual 196, 3) := by decide +kernel
theorem d_Model_segmentFrom_5 : decode prog_12_method_26_code 5 = .ok (.istore 7, 2) := by decide +kernel
theorem d_Model_segmentFrom_7 : decode prog_12_method_26_code 7 = .ok (.bipush 32, 2) := by decide +kernel
theorem d_Model_segmentFrom_9 : decode prog_12_method_26_code 9 = .ok (.iload_n 1, 1) := by decide +kernel
theorem d_Model_segmentFrom_10 : decode prog_12_method_26_code 10 = .ok (.imul, 1) := by decide +kernel
theorem d_Model_segmentFrom_11 : decode prog_12_method_26_code 11 = .ok (.istore 8, 2) := by decide +kernel
theorem d_Model_segmentFrom_13 : decode prog_12_method_26_code 13 = .ok (.iload 7, 2) := by decide +kernel
theorem d_Model_segmentFrom_15 : decode prog_12_method_26_code 15 = .ok (.ifCond .eq 11, 3) := by decide +kernel
theorem d_Model_segmentFrom_18 : decode prog_12_method_26_code 18 = .ok (.iload 6, 2) := by decide +kernel
theorem d_Model_segmentFrom_20 : decode prog_12_method_26_code 20 = .ok (.iload 5, 2) := by decide +kernel
theorem d_Model_segmentFrom_22 : decode prog_12_method_26_code 22 = .ok (.isub, 1) := by decide +kernel
theorem d_Model_segmentFrom_23 : decode prog_12_method_26_code 23 = .ok (.goto 7, 3) := by decide +kernel
theorem d_Model_segmentFrom_26 : decode prog_12_method_26_code 26 = .ok (.iload 4, 2) := by decide +kernel
theorem d_Model_segmentFrom_28 : decode prog_12_method_26_code 28 = .ok (.iload_n 3, 1) := by decide +kernel
theorem d_Model_segmentFrom_29 : decode prog_12_method_26_code 29 = .ok (.isub, 1) := by decide +kernel
theorem d_Model_segmentFrom_30 : decode prog_12_method_26_code 30 = .ok (.istore 9, 2) := by decide +kernel
theorem d_Model_segmentFrom_32 : decode prog_12_method_26_code 32 = .ok (.iload 9, 2) := by decide +kernel
theorem d_Model_segmentFrom_34 : decode prog_12_method_26_code 34 = .ok (.iload_n 2, 1) := by decide +kernel
theorem d_Model_segmentFrom_35 : decode prog_12_method_26_code 35 = .ok (.if_icmp .le 128, 3) := by decide +kernel
theorem d_Model_segmentFrom_38 : decode prog_12_method_26_code 38 = .ok (.aload_n 0, 1) := by decide +kernel
theorem d_Model_segmentFrom_39 : decode prog_12_method_26_code 39 = .ok (.iload 7, 2) := by decide +kernel
theorem d_Model_segmentFrom_41 : decode prog_12_method_26_code 41 = .ok (.iload_n 3, 1) := by decide +kernel
theorem d_Model_segmentFrom_42 : decode prog_12_method_26_code 42 = .ok (.iload 4, 2) := by decide +kernel
theorem d_Model_segmentFrom_44 : decode prog_12_method_26_code 44 = .ok (.iload 5, 2) := by decide +kernel
theorem d_Model_segmentFrom_46 : decode prog_12_method_26_code 46 = .ok (.iload 6, 2) := by decide +kernel
theorem d_Model_segmentFrom_48 : decode prog_12_method_26_code 48 = .ok (.iload_n 2, 1) := by decide +kernel
theorem d_Model_segmentFrom_49 : decode prog_12_method_26_code 49 = .ok (.iload 9, 2) := by decide +kernel
theorem d_Model_segmentFrom_51 : decode prog_12_method_26_code 51 = .ok (.invokevirtual 199, 3) := by decide +kernel
theorem d_Model_segmentFrom_54 : decode prog_12_method_26_code 54 = .ok (.istore 10, 2) := by decide +kernel
theorem d_Model_segmentFrom_56 : decode prog_12_method_26_code 56 = .ok (.aload_n 0, 1) := by decide +kernel
theorem d_Model_segmentFrom_57 : decode prog_12_method_26_code 57 = .ok (.iload_n 1, 1) := by decide +kernel
theorem d_Model_segmentFrom_58 : decode prog_12_method_26_code 58 = .ok (.iconst 1, 1) := by decide +kernel
theorem d_Model_segmentFrom_59 : decode prog_12_method_26_code 59 = .ok (.isub, 1) := by decide +kernel
theorem d_Model_segmentFrom_60 : decode prog_12_method_26_code 60 = .ok (.iload 10, 2) := by decide +kernel
theorem d_Model_segmentFrom_62 : decode prog_12_method_26_code 62 = .ok (.invokevirtual 203, 3) := by decide +kernel
theorem d_Model_segmentFrom_65 : decode prog_12_method_26_code 65 = .ok (.istore 11, 2) := by decide +kernel
theorem d_Model_segmentFrom_67 : decode prog_12_method_26_code 67 = .ok (.aload_n 0, 1) := by decide +kernel
theorem d_Model_segmentFrom_68 : decode prog_12_method_26_code 68 = .ok (.getfield 85, 3) := by decide +kernel
theorem d_Model_segmentFrom_71 : decode prog_12_method_26_code 71 = .ok (.iload 8, 2) := by decide +kernel
theorem d_Model_segmentFrom_73 : decode prog_12_method_26_code 73 = .ok (.iload 9, 2) := by decide +kernel
theorem d_Model_segmentFrom_75 : decode prog_12_method_26_code 75 = .ok (.iadd, 1) := by decide +kernel
theorem d_Model_segmentFrom_76 : decode prog_12_method_26_code 76 = .ok (.laload, 1) := by decide +kernel
theorem d_Model_segmentFrom_77 : decode prog_12_method_26_code 77 = .ok (.aload_n 0, 1) := by decide +kernel
theorem d_Model_segmentFrom_78 : decode prog_12_method_26_code 78 = .ok (.iload_n 1, 1) := by decide +kernel
theorem d_Model_segmentFrom_79 : decode prog_12_method_26_code 79 = .ok (.iconst 1, 1) := by decide +kernel
theorem d_Model_segmentFrom_80 : decode prog_12_method_26_code 80 = .ok (.isub, 1) := by decide +kernel
theorem d_Model_segmentFrom_81 : decode prog_12_method_26_code 81 = .ok (.iload 10, 2) := by decide +kernel
theorem d_Model_segmentFrom_83 : decode prog_12_method_26_code 83 = .ok (.invokevirtual 211, 3) := by decide +kernel
theorem d_Model_segmentFrom_86 : decode prog_12_method_26_code 86 = .ok (.ladd, 1) := by decide +kernel
theorem d_Model_segmentFrom_87 : decode prog_12_method_26_code 87 = .ok (.aload_n 0, 1) := by decide +kernel
theorem d_Model_segmentFrom_88 : decode prog_12_method_26_code 88 = .ok (.getfield 85, 3) := by decide +kernel
theorem d_Model_segmentFrom_91 : decode prog_12_method_26_code 91 = .ok (.iload 8, 2) := by decide +kernel
theorem d_Model_segmentFrom_93 : decode prog_12_method_26_code 93 = .ok (.iload_n 2, 1) := by decide +kernel
theorem d_Model_segmentFrom_94 : decode prog_12_method_26_code 94 = .ok (.iadd, 1) := by decide +kernel
theorem d_Model_segmentFrom_95 : decode prog_12_method_26_code 95 = .ok (.laload, 1) := by decide +kernel
theorem d_Model_segmentFrom_96 : decode prog_12_method_26_code 96 = .ok (.lcmp, 1) := by decide +kernel
theorem d_Model_segmentFrom_97 : decode prog_12_method_26_code 97 = .ok (.ifCond .ne 32, 3) := by decide +kernel
theorem d_Model_segmentFrom_100 : decode prog_12_method_26_code 100 = .ok (.aload_n 0, 1) := by decide +kernel
theorem d_Model_segmentFrom_101 : decode prog_12_method_26_code 101 = .ok (.getfield 88, 3) := by decide +kernel
theorem d_Model_segmentFrom_104 : decode prog_12_method_26_code 104 = .ok (.iload 8, 2) := by decide +kernel
theorem d_Model_segmentFrom_106 : decode prog_12_method_26_code 106 = .ok (.iload 9, 2) := by decide +kernel
theorem d_Model_segmentFrom_108 : decode prog_12_method_26_code 108 = .ok (.iadd, 1) := by decide +kernel
theorem d_Model_segmentFrom_109 : decode prog_12_method_26_code 109 = .ok (.iaload, 1) := by decide +kernel
theorem d_Model_segmentFrom_110 : decode prog_12_method_26_code 110 = .ok (.iload 11, 2) := by decide +kernel
theorem d_Model_segmentFrom_112 : decode prog_12_method_26_code 112 = .ok (.iadd, 1) := by decide +kernel
theorem d_Model_segmentFrom_113 : decode prog_12_method_26_code 113 = .ok (.aload_n 0, 1) := by decide +kernel
theorem d_Model_segmentFrom_114 : decode prog_12_method_26_code 114 = .ok (.getfield 88, 3) := by decide +kernel
theorem d_Model_segmentFrom_117 : decode prog_12_method_26_code 117 = .ok (.iload 8, 2) := by decide +kernel
theorem d_Model_segmentFrom_119 : decode prog_12_method_26_code 119 = .ok (.iload_n 2, 1) := by decide +kernel
theorem d_Model_segmentFrom_120 : decode prog_12_method_26_code 120 = .ok (.iadd, 1) := by decide +kernel
theorem d_Model_segmentFrom_121 : decode prog_12_method_26_code 121 = .ok (.iaload, 1) := by decide +kernel
theorem d_Model_segmentFrom_122 : decode prog_12_method_26_code 122 = .ok (.if_icmp .ne 7, 3) := by decide +kernel
theorem d_Model_segmentFrom_125 : decode prog_12_method_26_code 125 = .ok (.iconst 1, 1) := by decide +kernel
theorem d_Model_segmentFrom_126 : decode prog_12_method_26_code 126 = .ok (.goto 4, 3) := by decide +kernel
theorem d_Model_segmentFrom_129 : decode prog_12_method_26_code 129 = .ok (.iconst 0, 1) := by decide +kernel
theorem d_Model_segmentFrom_130 : decode prog_12_method_26_code 130 = .ok (.istore 12, 2) := by decide +kernel
theorem d_Model_segmentFrom_132 : decode prog_12_method_26_code 132 = .ok (.iload 11, 2) := by decide +kernel
theorem d_Model_segmentFrom_134 : decode prog_12_method_26_code 134 = .ok (.ifCond .le 23, 3) := by decide +kernel
theorem d_Model_segmentFrom_137 : decode prog_12_method_26_code 137 = .ok (.iload 12, 2) := by decide +kernel
theorem d_Model_segmentFrom_139 : decode prog_12_method_26_code 139 = .ok (.ifCond .eq 18, 3) := by decide +kernel
theorem d_Model_segmentFrom_142 : decode prog_12_method_26_code 142 = .ok (.aload_n 0, 1) := by decide +kernel
theorem d_Model_segmentFrom_143 : decode prog_12_method_26_code 143 = .ok (.iload_n 1, 1) := by decide +kernel
theorem d_Model_segmentFrom_144 : decode prog_12_method_26_code 144 = .ok (.iload 9, 2) := by decide +kernel
theorem d_Model_segmentFrom_146 : decode prog_12_method_26_code 146 = .ok (.iload_n 2, 1) := by decide +kernel
theorem d_Model_segmentFrom_147 : decode prog_12_method_26_code 147 = .ok (.isub, 1) := by decide +kernel
theorem d_Model_segmentFrom_148 : decode prog_12_method_26_code 148 = .ok (.invokevirtual 207, 3) := by decide +kernel
theorem d_Model_segmentFrom_151 : decode prog_12_method_26_code 151 = .ok (.ifCond .eq 6, 3) := by decide +kernel
theorem d_Model_segmentFrom_154 : decode prog_12_method_26_code 154 = .ok (.iload 9, 2) := by decide +kernel
theorem d_Model_segmentFrom_156 : decode prog_12_method_26_code 156 = .ok (.ireturn, 1) := by decide +kernel
theorem d_Model_segmentFrom_157 : decode prog_12_method_26_code 157 = .ok (.iinc 9 (-1), 3) := by decide +kernel
theorem d_Model_segmentFrom_160 : decode prog_12_method_26_code 160 = .ok (.goto (-128), 3) := by decide +kernel
theorem d_Model_segmentFrom_163 : decode prog_12_method_26_code 163 = .ok (.iconst (-1), 1) := by decide +kernel
theorem d_Model_segmentFrom_164 : decode prog_12_method_26_code 164 = .ok (.ireturn, 1) := by decide +kernel
set_option maxRecDepth 50000 in
theorem cd_Model_segmentFrom : Cond.code y_Model_segmentFrom prog_12_method_26_code 13 (some .int) ∈ TB := mem_TB 1114 rfl rfl
theorem im_Model_segmentFrom : Cond.instanceMethod y_Model_segmentFrom ∈ TB := mem_TB 1113 (by decide +kernel) (by decide +kernel)
theorem sl_Model_segmentFrom : Cond.selects R_Model y_Model_segmentFrom y_Model_segmentFrom ∈ TB := mem_TBs (by decide +kernel) (by decide +kernel)
theorem hd_Model_segmentFrom : y_Model_segmentFrom.cls ≠ "java/lang/invoke/MethodHandle" ∧ y_Model_segmentFrom.cls ≠ "java/lang/invoke/VarHandle" ∧ (parseMethodDescriptor y_Model_segmentFrom.desc).map (fun d => d.parameters.length) = some 6 := by decide +kernel
def y_Model_fillOne : MethodName := ⟨R_Model, "fillOne", "()V"⟩
abbrev ws_Model_fillOne : List Cond := .code y_Model_fillOne prog_12_method_27_code 5 none :: TB
theorem d_Model_fillOne_0 : decode prog_12_method_27_code 0 = .ok (.iconst 0, 1) := by decide +kernel
theorem d_Model_fillOne_1 : decode prog_12_method_27_code 1 = .ok (.istore_n 1, 1) := by decide +kernel
theorem d_Model_fillOne_2 : decode prog_12_method_27_code 2 = .ok (.iload_n 1, 1) := by decide +kernel
theorem d_Model_fillOne_3 : decode prog_12_method_27_code 3 = .ok (.aload_n 0, 1) := by decide +kernel
theorem d_Model_fillOne_4 : decode prog_12_method_27_code 4 = .ok (.getfield 125, 3) := by decide +kernel
theorem d_Model_fillOne_7 : decode prog_12_method_27_code 7 = .ok (.if_icmp .ge 113, 3) := by decide +kernel
theorem d_Model_fillOne_10 : decode prog_12_method_27_code 10 = .ok (.iload_n 1, 1) := by decide +kernel
theorem d_Model_fillOne_11 : decode prog_12_method_27_code 11 = .ok (.iconst 1, 1) := by decide +kernel
theorem d_Model_fillOne_12 : decode prog_12_method_27_code 12 = .ok (.iadd, 1) := by decide +kernel
theorem d_Model_fillOne_13 : decode prog_12_method_27_code 13 = .ok (.istore_n 2, 1) := by decide +kernel
theorem d_Model_fillOne_14 : decode prog_12_method_27_code 14 = .ok (.iload_n 2, 1) := by decide +kernel
theorem d_Model_fillOne_15 : decode prog_12_method_27_code 15 = .ok (.aload_n 0, 1) := by decide +kernel
theorem d_Model_fillOne_16 : decode prog_12_method_27_code 16 = .ok (.getfield 125, 3) := by decide +kernel
theorem d_Model_fillOne_19 : decode prog_12_method_27_code 19 = .ok (.if_icmp .gt 95, 3) := by decide +kernel
theorem d_Model_fillOne_22 : decode prog_12_method_27_code 22 = .ok (.iconst 0, 1) := by decide +kernel
theorem d_Model_fillOne_23 : decode prog_12_method_27_code 23 = .ok (.istore_n 3, 1) := by decide +kernel
theorem d_Model_fillOne_24 : decode prog_12_method_27_code 24 = .ok (.iload_n 3, 1) := by decide +kernel
theorem d_Model_fillOne_25 : decode prog_12_method_27_code 25 = .ok (.aload_n 0, 1) := by decide +kernel
theorem d_Model_fillOne_26 : decode prog_12_method_27_code 26 = .ok (.getfield 128, 3) := by decide +kernel
theorem d_Model_fillOne_29 : decode prog_12_method_27_code 29 = .ok (.if_icmp .ge 79, 3) := by decide +kernel
theorem d_Model_fillOne_32 : decode prog_12_method_27_code 32 = .ok (.iload_n 3, 1) := by decide +kernel
theorem d_Model_fillOne_33 : decode prog_12_method_27_code 33 = .ok (.iconst 1, 1) := by decide +kernel
theorem d_Model_fillOne_34 : decode prog_12_method_27_code 34 = .ok (.iadd, 1) := by decide +kernel
theorem d_Model_fillOne_35 : decode prog_12_method_27_code 35 = .ok (.istore 4, 2) := by decide +kernel
theorem d_Model_fillOne_37 : decode prog_12_method_27_code 37 = .ok (.iload 4, 2) := by decide +kernel
theorem d_Model_fillOne_39 : decode prog_12_method_27_code 39 = .ok (.aload_n 0, 1) := by decide +kernel
theorem d_Model_fillOne_40 : decode prog_12_method_27_code 40 = .ok (.getfield 128, 3) := by decide +kernel
theorem d_Model_fillOne_43 : decode prog_12_method_27_code 43 = .ok (.if_icmp .gt 59, 3) := by decide +kernel
theorem d_Model_fillOne_46 : decode prog_12_method_27_code 46 = .ok (.aload_n 0, 1) := by decide +kernel
theorem d_Model_fillOne_47 : decode prog_12_method_27_code 47 = .ok (.iconst 1, 1) := by decide +kernel
theorem d_Model_fillOne_48 : decode prog_12_method_27_code 48 = .ok (.iload_n 1, 1) := by decide +kernel
theorem d_Model_fillOne_49 : decode prog_12_method_27_code 49 = .ok (.iload_n 2, 1) := by decide +kernel
theorem d_Model_fillOne_50 : decode prog_12_method_27_code 50 = .ok (.iload_n 3, 1) := by decide +kernel
theorem d_Model_fillOne_51 : decode prog_12_method_27_code 51 = .ok (.iload 4, 2) := by decide +kernel
theorem d_Model_fillOne_53 : decode prog_12_method_27_code 53 = .ok (.invokevirtual 215, 3) := by decide +kernel
theorem d_Model_fillOne_56 : decode prog_12_method_27_code 56 = .ok (.aload_n 0, 1) := by decide +kernel
theorem d_Model_fillOne_57 : decode prog_12_method_27_code 57 = .ok (.getfield 73, 3) := by decide +kernel
theorem d_Model_fillOne_60 : decode prog_12_method_27_code 60 = .ok (.iload_n 1, 1) := by decide +kernel
theorem d_Model_fillOne_61 : decode prog_12_method_27_code 61 = .ok (.iload_n 2, 1) := by decide +kernel
theorem d_Model_fillOne_62 : decode prog_12_method_27_code 62 = .ok (.iload_n 3, 1) := by decide +kernel
theorem d_Model_fillOne_63 : decode prog_12_method_27_code 63 = .ok (.iload 4, 2) := by decide +kernel
theorem d_Model_fillOne_65 : decode prog_12_method_27_code 65 = .ok (.invokestatic 186, 3) := by decide +kernel
theorem d_Model_fillOne_68 : decode prog_12_method_27_code 68 = .ok (.aload_n 0, 1) := by decide +kernel
theorem d_Model_fillOne_69 : decode prog_12_method_27_code 69 = .ok (.getfield 85, 3) := by decide +kernel
theorem d_Model_fillOne_72 : decode prog_12_method_27_code 72 = .ok (.bipush 32, 2) := by decide +kernel
theorem d_Model_fillOne_74 : decode prog_12_method_27_code 74 = .ok (.laload, 1) := by decide +kernel
theorem d_Model_fillOne_75 : decode prog_12_method_27_code 75 = .ok (.lastore, 1) := by decide +kernel
theorem d_Model_fillOne_76 : decode prog_12_method_27_code 76 = .ok (.aload_n 0, 1) := by decide +kernel
theorem d_Model_fillOne_77 : decode prog_12_method_27_code 77 = .ok (.getfield 76, 3) := by decide +kernel
theorem d_Model_fillOne_80 : decode prog_12_method_27_code 80 = .ok (.iload_n 1, 1) := by decide +kernel
theorem d_Model_fillOne_81 : decode prog_12_method_27_code 81 = .ok (.iload_n 2, 1) := by decide +kernel
theorem d_Model_fillOne_82 : decode prog_12_method_27_code 82 = .ok (.iload_n 3, 1) := by decide +kernel
theorem d_Model_fillOne_83 : decode prog_12_method_27_code 83 = .ok (.iload 4, 2) := by decide +kernel
theorem d_Model_fillOne_85 : decode prog_12_method_27_code 85 = .ok (.invokestatic 186, 3) := by decide +kernel
theorem d_Model_fillOne_88 : decode prog_12_method_27_code 88 = .ok (.aload_n 0, 1) := by decide +kernel
theorem d_Model_fillOne_89 : decode prog_12_method_27_code 89 = .ok (.getfield 88, 3) := by decide +kernel
theorem d_Model_fillOne_92 : decode prog_12_method_27_code 92 = .ok (.bipush 32, 2) := by decide +kernel
theorem d_Model_fillOne_94 : decode prog_12_method_27_code 94 = .ok (.iaload, 1) := by decide +kernel
theorem d_Model_fillOne_95 : decode prog_12_method_27_code 95 = .ok (.iastore, 1) := by decide +kernel
theorem d_Model_fillOne_96 : decode prog_12_method_27_code 96 = .ok (.iinc 4 1, 3) := by decide +kernel
theorem d_Model_fillOne_99 : decode prog_12_method_27_code 99 = .ok (.goto (-62), 3) := by decide +kernel
theorem d_Model_fillOne_102 : decode prog_12_method_27_code 102 = .ok (.iinc 3 1, 3) := by decide +kernel
theorem d_Model_fillOne_105 : decode prog_12_method_27_code 105 = .ok (.goto (-81), 3) := by decide +kernel
theorem d_Model_fillOne_108 : decode prog_12_method_27_code 108 = .ok (.iinc 2 1, 3) := by decide +kernel
theorem d_Model_fillOne_111 : decode prog_12_method_27_code 111 = .ok (.goto (-97), 3) := by decide +kernel
theorem d_Model_fillOne_114 : decode prog_12_method_27_code 114 = .ok (.iinc 1 1, 3) := by decide +kernel
theorem d_Model_fillOne_117 : decode prog_12_method_27_code 117 = .ok (.goto (-115), 3) := by decide +kernel
theorem d_Model_fillOne_120 : decode prog_12_method_27_code 120 = .ok (.return_, 1) := by decide +kernel
set_option maxRecDepth 50000 in
theorem cd_Model_fillOne : Cond.code y_Model_fillOne prog_12_method_27_code 5 none ∈ TB := mem_TB 1078 rfl rfl
theorem im_Model_fillOne : Cond.instanceMethod y_Model_fillOne ∈ TB := mem_TB 1077 (by decide +kernel) (by decide +kernel)
theorem sl_Model_fillOne : Cond.selects R_Model y_Model_fillOne y_Model_fillOne ∈ TB := mem_TBs (by decide +kernel) (by decide +kernel)
theorem hd_Model_fillOne : y_Model_fillOne.cls ≠ "java/lang/invoke/MethodHandle" ∧ y_Model_fillOne.cls ≠ "java/lang/invoke/VarHandle" ∧ (parseMethodDescriptor y_Model_fillOne.desc).map (fun d => d.parameters.length) = some 0 := by decide +kernel
def y_Model_fillTwo : MethodName := ⟨R_Model, "fillTwo", "()V"⟩
abbrev ws_Model_fillTwo : List Cond := .code y_Model_fillTwo prog_12_method_28_code 6 none :: TB
theorem d_Model_fillTwo_0 : decode prog_12_method_28_code 0 = .ok (.aload_n 0, 1) := by decide +kernel
theorem d_Model_fillTwo_1 : decode prog_12_method_28_code 1 = .ok (.iconst 3, 1) := by decide +kernel
theorem d_Model_fillTwo_2 : decode prog_12_method_28_code 2 = .ok (.invokevirtual 196, 3) := by decide +kernel
theorem d_Model_fillTwo_5 : decode prog_12_method_28_code 5 = .ok (.istore_n 1, 1) := by decide +kernel
theorem d_Model_fillTwo_6 : decode prog_12_method_28_code 6 = .ok (.iload_n 1, 1) := by decide +kernel
theorem d_Model_fillTwo_7 : decode prog_12_method_28_code 7 = .ok (.ifCond .eq 10, 3) := by decide +kernel
theorem d_Model_fillTwo_10 : decode prog_12_method_28_code 10 = .ok (.aload_n 0, 1) := by decide +kernel
theorem d_Model_fillTwo_11 : decode prog_12_method_28_code 11 = .ok (.getfield 128, 3) := by decide +kernel
theorem d_Model_fillTwo_14 : decode prog_12_method_28_code 14 = .ok (.goto 7, 3) := by decide +kernel
theorem d_Model_fillTwo_17 : decode prog_12_method_28_code 17 = .ok (.aload_n 0, 1) := by decide +kernel
theorem d_Model_fillTwo_18 : decode prog_12_method_28_code 18 = .ok (.getfield 125, 3) := by decide +kernel
theorem d_Model_fillTwo_21 : decode prog_12_method_28_code 21 = .ok (.istore_n 2, 1) := by decide +kernel
theorem d_Model_fillTwo_22 : decode prog_12_method_28_code 22 = .ok (.iconst 0, 1) := by decide +kernel
theorem d_Model_fillTwo_23 : decode prog_12_method_28_code 23 = .ok (.istore_n 3, 1) := by decide +kernel
theorem d_Model_fillTwo_24 : decode prog_12_method_28_code 24 = .ok (.iload_n 3, 1) := by decide +kernel
theorem d_Model_fillTwo_25 : decode prog_12_method_28_code 25 = .ok (.iload_n 2, 1) := by decide +kernel
theorem d_Model_fillTwo_26 : decode prog_12_method_28_code 26 = .ok (.if_icmp .ge 107, 3) := by decide +kernel
theorem d_Model_fillTwo_29 : decode prog_12_method_28_code 29 = .ok (.iload_n 3, 1) := by decide +kernel
theorem d_Model_fillTwo_30 : decode prog_12_method_28_code 30 = .ok (.iconst 1, 1) := by decide +kernel
theorem d_Model_fillTwo_31 : decode prog_12_method_28_code 31 = .ok (.iadd, 1) := by decide +kernel
theorem d_Model_fillTwo_32 : decode prog_12_method_28_code 32 = .ok (.istore 4, 2) := by decide +kernel
theorem d_Model_fillTwo_34 : decode prog_12_method_28_code 34 = .ok (.iload 4, 2) := by decide +kernel
theorem d_Model_fillTwo_36 : decode prog_12_method_28_code 36 = .ok (.iload_n 2, 1) := by decide +kernel
theorem d_Model_fillTwo_37 : decode prog_12_method_28_code 37 = .ok (.if_icmp .gt 90, 3) := by decide +kernel
theorem d_Model_fillTwo_40 : decode prog_12_method_28_code 40 = .ok (.iload_n 1, 1) := by decide +kernel
theorem d_Model_fillTwo_41 : decode prog_12_method_28_code 41 = .ok (.ifCond .eq 19, 3) := by decide +kernel
theorem d_Model_fillTwo_44 : decode prog_12_method_28_code 44 = .ok (.aload_n 0, 1) := by decide +kernel
theorem d_Model_fillTwo_45 : decode prog_12_method_28_code 45 = .ok (.iconst 2, 1) := by decide +kernel
theorem d_Model_fillTwo_46 : decode prog_12_method_28_code 46 = .ok (.iconst 0, 1) := by decide +kernel
theorem d_Model_fillTwo_47 : decode prog_12_method_28_code 47 = .ok (.aload_n 0, 1) := by decide +kernel
theorem d_Model_fillTwo_48 : decode prog_12_method_28_code 48 = .ok (.getfield 125, 3) := by decide +kernel
theorem d_Model_fillTwo_51 : decode prog_12_method_28_code 51 = .ok (.iload_n 3, 1) := by decide +kernel
theorem d_Model_fillTwo_52 : decode prog_12_method_28_code 52 = .ok (.iload 4, 2) := by decide +kernel
theorem d_Model_fillTwo_54 : decode prog_12_method_28_code 54 = .ok (.invokevirtual 215, 3) := by decide +kernel
theorem d_Model_fillTwo_57 : decode prog_12_method_28_code 57 = .ok (.goto 16, 3) := by decide +kernel
theorem d_Model_fillTwo_60 : decode prog_12_method_28_code 60 = .ok (.aload_n 0, 1) := by decide +kernel
theorem d_Model_fillTwo_61 : decode prog_12_method_28_code 61 = .ok (.iconst 2, 1) := by decide +kernel
theorem d_Model_fillTwo_62 : decode prog_12_method_28_code 62 = .ok (.iload_n 3, 1) := by decide +kernel
theorem d_Model_fillTwo_63 : decode prog_12_method_28_code 63 = .ok (.iload 4, 2) := by decide +kernel
theorem d_Model_fillTwo_65 : decode prog_12_method_28_code 65 = .ok (.iconst 0, 1) := by decide +kernel
theorem d_Model_fillTwo_66 : decode prog_12_method_28_code 66 = .ok (.aload_n 0, 1) := by decide +kernel
theorem d_Model_fillTwo_67 : decode prog_12_method_28_code 67 = .ok (.getfield 128, 3) := by decide +kernel
theorem d_Model_fillTwo_70 : decode prog_12_method_28_code 70 = .ok (.invokevirtual 215, 3) := by decide +kernel
theorem d_Model_fillTwo_73 : decode prog_12_method_28_code 73 = .ok (.aload_n 0, 1) := by decide +kernel
theorem d_Model_fillTwo_74 : decode prog_12_method_28_code 74 = .ok (.iload_n 1, 1) := by decide +kernel
theorem d_Model_fillTwo_75 : decode prog_12_method_28_code 75 = .ok (.iconst 0, 1) := by decide +kernel
theorem d_Model_fillTwo_76 : decode prog_12_method_28_code 76 = .ok (.aload_n 0, 1) := by decide +kernel
theorem d_Model_fillTwo_77 : decode prog_12_method_28_code 77 = .ok (.getfield 125, 3) := by decide +kernel
theorem d_Model_fillTwo_80 : decode prog_12_method_28_code 80 = .ok (.iconst 0, 1) := by decide +kernel
theorem d_Model_fillTwo_81 : decode prog_12_method_28_code 81 = .ok (.aload_n 0, 1) := by decide +kernel
theorem d_Model_fillTwo_82 : decode prog_12_method_28_code 82 = .ok (.getfield 128, 3) := by decide +kernel
theorem d_Model_fillTwo_85 : decode prog_12_method_28_code 85 = .ok (.iload_n 3, 1) := by decide +kernel
theorem d_Model_fillTwo_86 : decode prog_12_method_28_code 86 = .ok (.iload 4, 2) := by decide +kernel
theorem d_Model_fillTwo_88 : decode prog_12_method_28_code 88 = .ok (.invokevirtual 199, 3) := by decide +kernel
theorem d_Model_fillTwo_91 : decode prog_12_method_28_code 91 = .ok (.istore 5, 2) := by decide +kernel
theorem d_Model_fillTwo_93 : decode prog_12_method_28_code 93 = .ok (.aload_n 0, 1) := by decide +kernel
theorem d_Model_fillTwo_94 : decode prog_12_method_28_code 94 = .ok (.getfield 79, 3) := by decide +kernel
theorem d_Model_fillTwo_97 : decode prog_12_method_28_code 97 = .ok (.iload 5, 2) := by decide +kernel
theorem d_Model_fillTwo_99 : decode prog_12_method_28_code 99 = .ok (.aload_n 0, 1) := by decide +kernel
theorem d_Model_fillTwo_100 : decode prog_12_method_28_code 100 = .ok (.getfield 85, 3) := by decide +kernel
theorem d_Model_fillTwo_103 : decode prog_12_method_28_code 103 = .ok (.bipush 64, 2) := by decide +kernel
theorem d_Model_fillTwo_105 : decode prog_12_method_28_code 105 = .ok (.laload, 1) := by decide +kernel
theorem d_Model_fillTwo_106 : decode prog_12_method_28_code 106 = .ok (.lastore, 1) := by decide +kernel
theorem d_Model_fillTwo_107 : decode prog_12_method_28_code 107 = .ok (.aload_n 0, 1) := by decide +kernel
theorem d_Model_fillTwo_108 : decode prog_12_method_28_code 108 = .ok (.getfield 82, 3) := by decide +kernel
theorem d_Model_fillTwo_111 : decode prog_12_method_28_code 111 = .ok (.iload 5, 2) := by decide +kernel
theorem d_Model_fillTwo_113 : decode prog_12_method_28_code 113 = .ok (.aload_n 0, 1) := by decide +kernel
theorem d_Model_fillTwo_114 : decode prog_12_method_28_code 114 = .ok (.getfield 88, 3) := by decide +kernel
theorem d_Model_fillTwo_117 : decode prog_12_method_28_code 117 = .ok (.bipush 64, 2) := by decide +kernel
theorem d_Model_fillTwo_119 : decode prog_12_method_28_code 119 = .ok (.iaload, 1) := by decide +kernel
theorem d_Model_fillTwo_120 : decode prog_12_method_28_code 120 = .ok (.iastore, 1) := by decide +kernel
theorem d_Model_fillTwo_121 : decode prog_12_method_28_code 121 = .ok (.iinc 4 1, 3) := by decide +kernel
theorem d_Model_fillTwo_124 : decode prog_12_method_28_code 124 = .ok (.goto (-90), 3) := by decide +kernel
theorem d_Model_fillTwo_127 : decode prog_12_method_28_code 127 = .ok (.iinc 3 1, 3) := by decide +kernel
theorem d_Model_fillTwo_130 : decode prog_12_method_28_code 130 = .ok (.goto (-106), 3) := by decide +kernel
theorem d_Model_fillTwo_133 : decode prog_12_method_28_code 133 = .ok (.return_, 1) := by decide +kernel
set_option maxRecDepth 50000 in
theorem cd_Model_fillTwo : Cond.code y_Model_fillTwo prog_12_method_28_code 6 none ∈ TB := mem_TB 1106 rfl rfl
theorem im_Model_fillTwo : Cond.instanceMethod y_Model_fillTwo ∈ TB := mem_TB 1105 (by decide +kernel) (by decide +kernel)
theorem sl_Model_fillTwo : Cond.selects R_Model y_Model_fillTwo y_Model_fillTwo ∈ TB := mem_TBs (by decide +kernel) (by decide +kernel)
theorem hd_Model_fillTwo : y_Model_fillTwo.cls ≠ "java/lang/invoke/MethodHandle" ∧ y_Model_fillTwo.cls ≠ "java/lang/invoke/VarHandle" ∧ (parseMethodDescriptor y_Model_fillTwo.desc).map (fun d => d.parameters.length) = some 0 := by decide +kernel
def y_Model_put : MethodName := ⟨R_Model, "put", "(IIII)V"⟩
abbrev ws_Model_put : List Cond := .code y_Model_put prog_12_method_29_code 5 none :: TB
theorem d_Model_put_0 : decode prog_12_method_29_code 0 = .ok (.aload_n 0, 1) := by decide +kernel
theorem d_Model_put_1 : decode prog_12_method_29_code 1 = .ok (.getfield 94, 3) := by decide +kernel
theorem d_Model_put_4 : decode prog_12_method_29_code 4 = .ok (.aload_n 0, 1) := by decide +kernel
theorem d_Model_put_5 : decode prog_12_method_29_code 5 = .ok (.getfield 219, 3) := by decide +kernel
theorem d_Model_put_8 : decode prog_12_method_29_code 8 = .ok (.iload_n 1, 1) := by decide +kernel
theorem d_Model_put_9 : decode prog_12_method_29_code 9 = .ok (.iastore, 1) := by decide +kernel
theorem d_Model_put_10 : decode prog_12_method_29_code 10 = .ok (.aload_n 0, 1) := by decide +kernel
theorem d_Model_put_11 : decode prog_12_method_29_code 11 = .ok (.getfield 97, 3) := by decide +kernel
theorem d_Model_put_14 : decode prog_12_method_29_code 14 = .ok (.aload_n 0, 1) := by decide +kernel
theorem d_Model_put_15 : decode prog_12_method_29_code 15 = .ok (.getfield 219, 3) := by decide +kernel
theorem d_Model_put_18 : decode prog_12_method_29_code 18 = .ok (.iload_n 3, 1) := by decide +kernel
theorem d_Model_put_19 : decode prog_12_method_29_code 19 = .ok (.iastore, 1) := by decide +kernel
theorem d_Model_put_20 : decode prog_12_method_29_code 20 = .ok (.aload_n 0, 1) := by decide +kernel
theorem d_Model_put_21 : decode prog_12_method_29_code 21 = .ok (.getfield 100, 3) := by decide +kernel
theorem d_Model_put_24 : decode prog_12_method_29_code 24 = .ok (.aload_n 0, 1) := by decide +kernel
theorem d_Model_put_25 : decode prog_12_method_29_code 25 = .ok (.getfield 219, 3) := by decide +kernel
theorem d_Model_put_28 : decode prog_12_method_29_code 28 = .ok (.iload_n 2, 1) := by decide +kernel
theorem d_Model_put_29 : decode prog_12_method_29_code 29 = .ok (.iload_n 1, 1) := by decide +kernel
theorem d_Model_put_30 : decode prog_12_method_29_code 30 = .ok (.isub, 1) := by decide +kernel
theorem d_Model_put_31 : decode prog_12_method_29_code 31 = .ok (.iastore, 1) := by decide +kernel
theorem d_Model_put_32 : decode prog_12_method_29_code 32 = .ok (.aload_n 0, 1) := by decide +kernel
theorem d_Model_put_33 : decode prog_12_method_29_code 33 = .ok (.getfield 103, 3) := by decide +kernel
theorem d_Model_put_36 : decode prog_12_method_29_code 36 = .ok (.aload_n 0, 1) := by decide +kernel
theorem d_Model_put_37 : decode prog_12_method_29_code 37 = .ok (.getfield 219, 3) := by decide +kernel
theorem d_Model_put_40 : decode prog_12_method_29_code 40 = .ok (.iload 4, 2) := by decide +kernel
theorem d_Model_put_42 : decode prog_12_method_29_code 42 = .ok (.iload_n 3, 1) := by decide +kernel
theorem d_Model_put_43 : decode prog_12_method_29_code 43 = .ok (.isub, 1) := by decide +kernel
theorem d_Model_put_44 : decode prog_12_method_29_code 44 = .ok (.iastore, 1) := by decide +kernel
theorem d_Model_put_45 : decode prog_12_method_29_code 45 = .ok (.aload_n 0, 1) := by decide +kernel
theorem d_Model_put_46 : decode prog_12_method_29_code 46 = .ok (.getfield 106, 3) := by decide +kernel
theorem d_Model_put_49 : decode prog_12_method_29_code 49 = .ok (.aload_n 0, 1) := by decide +kernel
theorem d_Model_put_50 : decode prog_12_method_29_code 50 = .ok (.getfield 219, 3) := by decide +kernel
theorem d_Model_put_53 : decode prog_12_method_29_code 53 = .ok (.aload_n 0, 1) := by decide +kernel
theorem d_Model_put_54 : decode prog_12_method_29_code 54 = .ok (.getfield 70, 3) := by decide +kernel
theorem d_Model_put_57 : decode prog_12_method_29_code 57 = .ok (.iload_n 1, 1) := by decide +kernel
theorem d_Model_put_58 : decode prog_12_method_29_code 58 = .ok (.iload_n 2, 1) := by decide +kernel
theorem d_Model_put_59 : decode prog_12_method_29_code 59 = .ok (.iload_n 3, 1) := by decide +kernel
theorem d_Model_put_60 : decode prog_12_method_29_code 60 = .ok (.iload 4, 2) := by decide +kernel
theorem d_Model_put_62 : decode prog_12_method_29_code 62 = .ok (.invokestatic 186, 3) := by decide +kernel
theorem d_Model_put_65 : decode prog_12_method_29_code 65 = .ok (.iaload, 1) := by decide +kernel
theorem d_Model_put_66 : decode prog_12_method_29_code 66 = .ok (.iastore, 1) := by decide +kernel
theorem d_Model_put_67 : decode prog_12_method_29_code 67 = .ok (.aload_n 0, 1) := by decide +kernel
theorem d_Model_put_68 : decode prog_12_method_29_code 68 = .ok (.dup, 1) := by decide +kernel
theorem d_Model_put_69 : decode prog_12_method_29_code 69 = .ok (.getfield 219, 3) := by decide +kernel
theorem d_Model_put_72 : decode prog_12_method_29_code 72 = .ok (.iconst 1, 1) := by decide +kernel
theorem d_Model_put_73 : decode prog_12_method_29_code 73 = .ok (.iadd, 1) := by decide +kernel
theorem d_Model_put_74 : decode prog_12_method_29_code 74 = .ok (.putfield 219, 3) := by decide +kernel
theorem d_Model_put_77 : decode prog_12_method_29_code 77 = .ok (.return_, 1) := by decide +kernel
set_option maxRecDepth 50000 in
theorem cd_Model_put : Cond.code y_Model_put prog_12_method_29_code 5 none ∈ TB := mem_TB 1118 rfl rfl
theorem im_Model_put : Cond.instanceMethod y_Model_put ∈ TB := mem_TB 1117 (by decide +kernel) (by decide +kernel)
theorem sl_Model_put : Cond.selects R_Model y_Model_put y_Model_put ∈ TB := mem_TBs (by decide +kernel) (by decide +kernel)
theorem hd_Model_put : y_Model_put.cls ≠ "java/lang/invoke/MethodHandle" ∧ y_Model_put.cls ≠ "java/lang/invoke/VarHandle" ∧ (parseMethodDescriptor y_Model_put.desc).map (fun d => d.parameters.length) = some 4 := by decide +kernel
def y_Model_walkOne : MethodName := ⟨R_Model, "walkOne", "(IIII)V"⟩
abbrev ws_Model_walkOne : List Cond := .code y_Model_walkOne prog_12_method_30_code 9 none :: TB
theorem d_Model_walkOne_0 : decode prog_12_method_30_code 0 = .ok (.aload_n 0, 1) := by decide +kernel
theorem d_Model_walkOne_1 : decode prog_12_method_30_code 1 = .ok (.iconst 1, 1) := by decide +kernel
theorem d_Model_walkOne_2 : decode prog_12_method_30_code 2 = .ok (.iload_n 1, 1) := by decide +kernel
theorem d_Model_walkOne_3 : decode prog_12_method_30_code 3 = .ok (.iload_n 2, 1) := by decide +kernel
theorem d_Model_walkOne_4 : decode prog_12_method_30_code 4 = .ok (.iload_n 3, 1) := by decide +kernel
theorem d_Model_walkOne_5 : decode prog_12_method_30_code 5 = .ok (.iload 4, 2) := by decide +kernel
theorem d_Model_walkOne_7 : decode prog_12_method_30_code 7 = .ok (.invokevirtual 215, 3) := by decide +kernel
theorem d_Model_walkOne_10 : decode prog_12_method_30_code 10 = .ok (.aload_n 0, 1) := by decide +kernel
theorem d_Model_walkOne_11 : decode prog_12_method_30_code 11 = .ok (.iconst 1, 1) := by decide +kernel
theorem d_Model_walkOne_12 : decode prog_12_method_30_code 12 = .ok (.invokevirtual 196, 3) := by decide +kernel
theorem d_Model_walkOne_15 : decode prog_12_method_30_code 15 = .ok (.istore 5, 2) := by decide +kernel
theorem d_Model_walkOne_17 : decode prog_12_method_30_code 17 = .ok (.iload 5, 2) := by decide +kernel
theorem d_Model_walkOne_19 : decode prog_12_method_30_code 19 = .ok (.ifCond .eq 10, 3) := by decide +kernel
theorem d_Model_walkOne_22 : decode prog_12_method_30_code 22 = .ok (.iload 4, 2) := by decide +kernel
theorem d_Model_walkOne_24 : decode prog_12_method_30_code 24 = .ok (.iload_n 3, 1) := by decide +kernel
theorem d_Model_walkOne_25 : decode prog_12_method_30_code 25 = .ok (.isub, 1) := by decide +kernel
theorem d_Model_walkOne_26 : decode prog_12_method_30_code 26 = .ok (.goto 6, 3) := by decide +kernel
theorem d_Model_walkOne_29 : decode prog_12_method_30_code 29 = .ok (.iload_n 2, 1) := by decide +kernel
theorem d_Model_walkOne_30 : decode prog_12_method_30_code 30 = .ok (.iload_n 1, 1) := by decide +kernel
theorem d_Model_walkOne_31 : decode prog_12_method_30_code 31 = .ok (.isub, 1) := by decide +kernel
theorem d_Model_walkOne_32 : decode prog_12_method_30_code 32 = .ok (.istore 6, 2) := by decide +kernel
theorem d_Model_walkOne_34 : decode prog_12_method_30_code 34 = .ok (.iconst 0, 1) := by decide +kernel
theorem d_Model_walkOne_35 : decode prog_12_method_30_code 35 = .ok (.istore 7, 2) := by decide +kernel
theorem d_Model_walkOne_37 : decode prog_12_method_30_code 37 = .ok (.iload 7, 2) := by decide +kernel
theorem d_Model_walkOne_39 : decode prog_12_method_30_code 39 = .ok (.iload 6, 2) := by decide +kernel
theorem d_Model_walkOne_41 : decode prog_12_method_30_code 41 = .ok (.if_icmp .ge 83, 3) := by decide +kernel
theorem d_Model_walkOne_44 : decode prog_12_method_30_code 44 = .ok (.aload_n 0, 1) := by decide +kernel
theorem d_Model_walkOne_45 : decode prog_12_method_30_code 45 = .ok (.iconst 1, 1) := by decide +kernel
theorem d_Model_walkOne_46 : decode prog_12_method_30_code 46 = .ok (.iload 7, 2) := by decide +kernel
theorem d_Model_walkOne_48 : decode prog_12_method_30_code 48 = .ok (.iload_n 1, 1) := by decide +kernel
theorem d_Model_walkOne_49 : decode prog_12_method_30_code 49 = .ok (.iload_n 2, 1) := by decide +kernel
theorem d_Model_walkOne_50 : decode prog_12_method_30_code 50 = .ok (.iload_n 3, 1) := by decide +kernel
theorem d_Model_walkOne_51 : decode prog_12_method_30_code 51 = .ok (.iload 4, 2) := by decide +kernel
theorem d_Model_walkOne_53 : decode prog_12_method_30_code 53 = .ok (.invokevirtual 222, 3) := by decide +kernel
theorem d_Model_walkOne_56 : decode prog_12_method_30_code 56 = .ok (.istore 8, 2) := by decide +kernel
theorem d_Model_walkOne_58 : decode prog_12_method_30_code 58 = .ok (.iload 8, 2) := by decide +kernel
theorem d_Model_walkOne_60 : decode prog_12_method_30_code 60 = .ok (.ifCond .le 25, 3) := by decide +kernel
theorem d_Model_walkOne_63 : decode prog_12_method_30_code 63 = .ok (.iload 5, 2) := by decide +kernel
theorem d_Model_walkOne_65 : decode prog_12_method_30_code 65 = .ok (.ifCond .eq 20, 3) := by decide +kernel
theorem d_Model_walkOne_68 : decode prog_12_method_30_code 68 = .ok (.aload_n 0, 1) := by decide +kernel
theorem d_Model_walkOne_69 : decode prog_12_method_30_code 69 = .ok (.iload_n 1, 1) := by decide +kernel
theorem d_Model_walkOne_70 : decode prog_12_method_30_code 70 = .ok (.iload_n 2, 1) := by decide +kernel
theorem d_Model_walkOne_71 : decode prog_12_method_30_code 71 = .ok (.iload_n 3, 1) := by decide +kernel
theorem d_Model_walkOne_72 : decode prog_12_method_30_code 72 = .ok (.iload 7, 2) := by decide +kernel
theorem d_Model_walkOne_74 : decode prog_12_method_30_code 74 = .ok (.iadd, 1) := by decide +kernel
theorem d_Model_walkOne_75 : decode prog_12_method_30_code 75 = .ok (.iload_n 3, 1) := by decide +kernel
theorem d_Model_walkOne_76 : decode prog_12_method_30_code 76 = .ok (.iload 8, 2) := by decide +kernel
theorem d_Model_walkOne_78 : decode prog_12_method_30_code 78 = .ok (.iadd, 1) := by decide +kernel
theorem d_Model_walkOne_79 : decode prog_12_method_30_code 79 = .ok (.invokevirtual 226, 3) := by decide +kernel
theorem d_Model_walkOne_82 : decode prog_12_method_30_code 82 = .ok (.goto 23, 3) := by decide +kernel
theorem d_Model_walkOne_85 : decode prog_12_method_30_code 85 = .ok (.iload 8, 2) := by decide +kernel
theorem d_Model_walkOne_87 : decode prog_12_method_30_code 87 = .ok (.ifCond .le 18, 3) := by decide +kernel
theorem d_Model_walkOne_90 : decode prog_12_method_30_code 90 = .ok (.aload_n 0, 1) := by decide +kernel
theorem d_Model_walkOne_91 : decode prog_12_method_30_code 91 = .ok (.iload_n 1, 1) := by decide +kernel
theorem d_Model_walkOne_92 : decode prog_12_method_30_code 92 = .ok (.iload 7, 2) := by decide +kernel
theorem d_Model_walkOne_94 : decode prog_12_method_30_code 94 = .ok (.iadd, 1) := by decide +kernel
theorem d_Model_walkOne_95 : decode prog_12_method_30_code 95 = .ok (.iload_n 1, 1) := by decide +kernel
theorem d_Model_walkOne_96 : decode prog_12_method_30_code 96 = .ok (.iload 8, 2) := by decide +kernel
theorem d_Model_walkOne_98 : decode prog_12_method_30_code 98 = .ok (.iadd, 1) := by decide +kernel
theorem d_Model_walkOne_99 : decode prog_12_method_30_code 99 = .ok (.iload_n 3, 1) := by decide +kernel
theorem d_Model_walkOne_100 : decode prog_12_method_30_code 100 = .ok (.iload 4, 2) := by decide +kernel
theorem d_Model_walkOne_102 : decode prog_12_method_30_code 102 = .ok (.invokevirtual 226, 3) := by decide +kernel
theorem d_Model_walkOne_105 : decode prog_12_method_30_code 105 = .ok (.iload 8, 2) := by decide +kernel
theorem d_Model_walkOne_107 : decode prog_12_method_30_code 107 = .ok (.ifCond .le 8, 3) := by decide +kernel
theorem d_Model_walkOne_110 : decode prog_12_method_30_code 110 = .ok (.iload 8, 2) := by decide +kernel
theorem d_Model_walkOne_112 : decode prog_12_method_30_code 112 = .ok (.goto 7, 3) := by decide +kernel
theorem d_Model_walkOne_115 : decode prog_12_method_30_code 115 = .ok (.iload 7, 2) := by decide +kernel
theorem d_Model_walkOne_117 : decode prog_12_method_30_code 117 = .ok (.iconst 1, 1) := by decide +kernel
theorem d_Model_walkOne_118 : decode prog_12_method_30_code 118 = .ok (.iadd, 1) := by decide +kernel
theorem d_Model_walkOne_119 : decode prog_12_method_30_code 119 = .ok (.istore 7, 2) := by decide +kernel
theorem d_Model_walkOne_121 : decode prog_12_method_30_code 121 = .ok (.goto (-84), 3) := by decide +kernel
theorem d_Model_walkOne_124 : decode prog_12_method_30_code 124 = .ok (.return_, 1) := by decide +kernel
set_option maxRecDepth 50000 in
theorem cd_Model_walkOne : Cond.code y_Model_walkOne prog_12_method_30_code 9 none ∈ TB := mem_TB 1110 rfl rfl
theorem im_Model_walkOne : Cond.instanceMethod y_Model_walkOne ∈ TB := mem_TB 1109 (by decide +kernel) (by decide +kernel)
theorem sl_Model_walkOne : Cond.selects R_Model y_Model_walkOne y_Model_walkOne ∈ TB := mem_TBs (by decide +kernel) (by decide +kernel)
theorem hd_Model_walkOne : y_Model_walkOne.cls ≠ "java/lang/invoke/MethodHandle" ∧ y_Model_walkOne.cls ≠ "java/lang/invoke/VarHandle" ∧ (parseMethodDescriptor y_Model_walkOne.desc).map (fun d => d.parameters.length) = some 4 := by decide +kernel
def y_Model_walkTwo : MethodName := ⟨R_Model, "walkTwo", "(IIII)V"⟩
abbrev ws_Model_walkTwo : List Cond := .code y_Model_walkTwo prog_12_method_31_code 9 none :: TB
theorem d_Model_walkTwo_0 : decode prog_12_method_31_code 0 = .ok (.aload_n 0, 1) := by decide +kernel
theorem d_Model_walkTwo_1 : decode prog_12_method_31_code 1 = .ok (.iconst 2, 1) := by decide +kernel
theorem d_Model_walkTwo_2 : decode prog_12_method_31_code 2 = .ok (.iload_n 1, 1) := by decide +kernel
theorem d_Model_walkTwo_3 : decode prog_12_method_31_code 3 = .ok (.iload_n 2, 1) := by decide +kernel
theorem d_Model_walkTwo_4 : decode prog_12_method_31_code 4 = .ok (.iload_n 3, 1) := by decide +kernel
theorem d_Model_walkTwo_5 : decode prog_12_method_31_code 5 = .ok (.iload 4, 2) := by decide +kernel
theorem d_Model_walkTwo_7 : decode prog_12_method_31_code 7 = .ok (.invokevirtual 215, 3) := by decide +kernel
theorem d_Model_walkTwo_10 : decode prog_12_method_31_code 10 = .ok (.aload_n 0, 1) := by decide +kernel
theorem d_Model_walkTwo_11 : decode prog_12_method_31_code 11 = .ok (.iconst 2, 1) := by decide +kernel
theorem d_Model_walkTwo_12 : decode prog_12_method_31_code 12 = .ok (.invokevirtual 196, 3) := by decide +kernel
theorem d_Model_walkTwo_15 : decode prog_12_method_31_code 15 = .ok (.istore 5, 2) := by decide +kernel
theorem d_Model_walkTwo_17 : decode prog_12_method_31_code 17 = .ok (.iload 5, 2) := by decide +kernel
theorem d_Model_walkTwo_19 : decode prog_12_method_31_code 19 = .ok (.ifCond .eq 10, 3) := by decide +kernel
theorem d_Model_walkTwo_22 : decode prog_12_method_31_code 22 = .ok (.iload 4, 2) := by decide +kernel
theorem d_Model_walkTwo_24 : decode prog_12_method_31_code 24 = .ok (.iload_n 3, 1) := by decide +kernel
theorem d_Model_walkTwo_25 : decode prog_12_method_31_code 25 = .ok (.isub, 1) := by decide +kernel
theorem d_Model_walkTwo_26 : decode prog_12_method_31_code 26 = .ok (.goto 6, 3) := by decide +kernel
theorem d_Model_walkTwo_29 : decode prog_12_method_31_code 29 = .ok (.iload_n 2, 1) := by decide +kernel
theorem d_Model_walkTwo_30 : decode prog_12_method_31_code 30 = .ok (.iload_n 1, 1) := by decide +kernel
theorem d_Model_walkTwo_31 : decode prog_12_method_31_code 31 = .ok (.isub, 1) := by decide +kernel
theorem d_Model_walkTwo_32 : decode prog_12_method_31_code 32 = .ok (.istore 6, 2) := by decide +kernel
theorem d_Model_walkTwo_34 : decode prog_12_method_31_code 34 = .ok (.iconst 0, 1) := by decide +kernel
theorem d_Model_walkTwo_35 : decode prog_12_method_31_code 35 = .ok (.istore 7, 2) := by decide +kernel
theorem d_Model_walkTwo_37 : decode prog_12_method_31_code 37 = .ok (.iload 7, 2) := by decide +kernel
theorem d_Model_walkTwo_39 : decode prog_12_method_31_code 39 = .ok (.iload 6, 2) := by decide +kernel
theorem d_Model_walkTwo_41 : decode prog_12_method_31_code 41 = .ok (.if_icmp .ge 83, 3) := by decide +kernel
theorem d_Model_walkTwo_44 : decode prog_12_method_31_code 44 = .ok (.aload_n 0, 1) := by decide +kernel
theorem d_Model_walkTwo_45 : decode prog_12_method_31_code 45 = .ok (.iconst 2, 1) := by decide +kernel
theorem d_Model_walkTwo_46 : decode prog_12_method_31_code 46 = .ok (.iload 7, 2) := by decide +kernel
theorem d_Model_walkTwo_48 : decode prog_12_method_31_code 48 = .ok (.iload_n 1, 1) := by decide +kernel
theorem d_Model_walkTwo_49 : decode prog_12_method_31_code 49 = .ok (.iload_n 2, 1) := by decide +kernel
theorem d_Model_walkTwo_50 : decode prog_12_method_31_code 50 = .ok (.iload_n 3, 1) := by decide +kernel
theorem d_Model_walkTwo_51 : decode prog_12_method_31_code 51 = .ok (.iload 4, 2) := by decide +kernel
theorem d_Model_walkTwo_53 : decode prog_12_method_31_code 53 = .ok (.invokevirtual 222, 3) := by decide +kernel
theorem d_Model_walkTwo_56 : decode prog_12_method_31_code 56 = .ok (.istore 8, 2) := by decide +kernel
theorem d_Model_walkTwo_58 : decode prog_12_method_31_code 58 = .ok (.iload 8, 2) := by decide +kernel
theorem d_Model_walkTwo_60 : decode prog_12_method_31_code 60 = .ok (.ifCond .le 25, 3) := by decide +kernel
theorem d_Model_walkTwo_63 : decode prog_12_method_31_code 63 = .ok (.iload 5, 2) := by decide +kernel
theorem d_Model_walkTwo_65 : decode prog_12_method_31_code 65 = .ok (.ifCond .eq 20, 3) := by decide +kernel
theorem d_Model_walkTwo_68 : decode prog_12_method_31_code 68 = .ok (.aload_n 0, 1) := by decide +kernel
theorem d_Model_walkTwo_69 : decode prog_12_method_31_code 69 = .ok (.iload_n 1, 1) := by decide +kernel
theorem d_Model_walkTwo_70 : decode prog_12_method_31_code 70 = .ok (.iload_n 2, 1) := by decide +kernel
theorem d_Model_walkTwo_71 : decode prog_12_method_31_code 71 = .ok (.iload_n 3, 1) := by decide +kernel
theorem d_Model_walkTwo_72 : decode prog_12_method_31_code 72 = .ok (.iload 7, 2) := by decide +kernel
theorem d_Model_walkTwo_74 : decode prog_12_method_31_code 74 = .ok (.iadd, 1) := by decide +kernel
theorem d_Model_walkTwo_75 : decode prog_12_method_31_code 75 = .ok (.iload_n 3, 1) := by decide +kernel
theorem d_Model_walkTwo_76 : decode prog_12_method_31_code 76 = .ok (.iload 8, 2) := by decide +kernel
theorem d_Model_walkTwo_78 : decode prog_12_method_31_code 78 = .ok (.iadd, 1) := by decide +kernel
theorem d_Model_walkTwo_79 : decode prog_12_method_31_code 79 = .ok (.invokevirtual 229, 3) := by decide +kernel
theorem d_Model_walkTwo_82 : decode prog_12_method_31_code 82 = .ok (.goto 23, 3) := by decide +kernel
theorem d_Model_walkTwo_85 : decode prog_12_method_31_code 85 = .ok (.iload 8, 2) := by decide +kernel
theorem d_Model_walkTwo_87 : decode prog_12_method_31_code 87 = .ok (.ifCond .le 18, 3) := by decide +kernel
theorem d_Model_walkTwo_90 : decode prog_12_method_31_code 90 = .ok (.aload_n 0, 1) := by decide +kernel
theorem d_Model_walkTwo_91 : decode prog_12_method_31_code 91 = .ok (.iload_n 1, 1) := by decide +kernel
theorem d_Model_walkTwo_92 : decode prog_12_method_31_code 92 = .ok (.iload 7, 2) := by decide +kernel
theorem d_Model_walkTwo_94 : decode prog_12_method_31_code 94 = .ok (.iadd, 1) := by decide +kernel
theorem d_Model_walkTwo_95 : decode prog_12_method_31_code 95 = .ok (.iload_n 1, 1) := by decide +kernel
theorem d_Model_walkTwo_96 : decode prog_12_method_31_code 96 = .ok (.iload 8, 2) := by decide +kernel
theorem d_Model_walkTwo_98 : decode prog_12_method_31_code 98 = .ok (.iadd, 1) := by decide +kernel
theorem d_Model_walkTwo_99 : decode prog_12_method_31_code 99 = .ok (.iload_n 3, 1) := by decide +kernel
theorem d_Model_walkTwo_100 : decode prog_12_method_31_code 100 = .ok (.iload 4, 2) := by decide +kernel
theorem d_Model_walkTwo_102 : decode prog_12_method_31_code 102 = .ok (.invokevirtual 229, 3) := by decide +kernel
theorem d_Model_walkTwo_105 : decode prog_12_method_31_code 105 = .ok (.iload 8, 2) := by decide +kernel
theorem d_Model_walkTwo_107 : decode prog_12_method_31_code 107 = .ok (.ifCond .le 8, 3) := by decide +kernel
theorem d_Model_walkTwo_110 : decode prog_12_method_31_code 110 = .ok (.iload 8, 2) := by decide +kernel
theorem d_Model_walkTwo_112 : decode prog_12_method_31_code 112 = .ok (.goto 7, 3) := by decide +kernel
theorem d_Model_walkTwo_115 : decode prog_12_method_31_code 115 = .ok (.iload 7, 2) := by decide +kernel
theorem d_Model_walkTwo_117 : decode prog_12_method_31_code 117 = .ok (.iconst 1, 1) := by decide +kernel
theorem d_Model_walkTwo_118 : decode prog_12_method_31_code 118 = .ok (.iadd, 1) := by decide +kernel
theorem d_Model_walkTwo_119 : decode prog_12_method_31_code 119 = .ok (.istore 7, 2) := by decide +kernel
theorem d_Model_walkTwo_121 : decode prog_12_method_31_code 121 = .ok (.goto (-84), 3) := by decide +kernel
theorem d_Model_walkTwo_124 : decode prog_12_method_31_code 124 = .ok (.return_, 1) := by decide +kernel
set_option maxRecDepth 50000 in
theorem cd_Model_walkTwo : Cond.code y_Model_walkTwo prog_12_method_31_code 9 none ∈ TB := mem_TB 1122 rfl rfl
theorem im_Model_walkTwo : Cond.instanceMethod y_Model_walkTwo ∈ TB := mem_TB 1121 (by decide +kernel) (by decide +kernel)
theorem sl_Model_walkTwo : Cond.selects R_Model y_Model_walkTwo y_Model_walkTwo ∈ TB := mem_TBs (by decide +kernel) (by decide +kernel)
theorem hd_Model_walkTwo : y_Model_walkTwo.cls ≠ "java/lang/invoke/MethodHandle" ∧ y_Model_walkTwo.cls ≠ "java/lang/invoke/VarHandle" ∧ (parseMethodDescriptor y_Model_walkTwo.desc).map (fun d => d.parameters.length) = some 4 := by decide +kernel
def y_Model_walkThree : MethodName := ⟨R_Model, "walkThree", "()V"⟩
abbrev ws_Model_walkThree : List Cond := .code y_Model_walkThree prog_12_method_32_code 5 none :: TB
theorem d_Model_walkThree_0 : decode prog_12_method_32_code 0 = .ok (.aload_n 0, 1) := by decide +kernel
theorem d_Model_walkThree_1 : decode prog_12_method_32_code 1 = .ok (.iconst 3, 1) := by decide +kernel
theorem d_Model_walkThree_2 : decode prog_12_method_32_code 2 = .ok (.iconst 0, 1) := by decide +kernel
theorem d_Model_walkThree_3 : decode prog_12_method_32_code 3 = .ok (.aload_n 0, 1) := by decide +kernel
theorem d_Model_walkThree_4 : decode prog_12_method_32_code 4 = .ok (.getfield 125, 3) := by decide +kernel
theorem d_Model_walkThree_7 : decode prog_12_method_32_code 7 = .ok (.iconst 0, 1) := by decide +kernel
theorem d_Model_walkThree_8 : decode prog_12_method_32_code 8 = .ok (.aload_n 0, 1) := by decide +kernel
theorem d_Model_walkThree_9 : decode prog_12_method_32_code 9 = .ok (.getfield 128, 3) := by decide +kernel
theorem d_Model_walkThree_12 : decode prog_12_method_32_code 12 = .ok (.invokevirtual 215, 3) := by decide +kernel
theorem d_Model_walkThree_15 : decode prog_12_method_32_code 15 = .ok (.aload_n 0, 1) := by decide +kernel
theorem d_Model_walkThree_16 : decode prog_12_method_32_code 16 = .ok (.iconst 3, 1) := by decide +kernel
theorem d_Model_walkThree_17 : decode prog_12_method_32_code 17 = .ok (.invokevirtual 196, 3) := by decide +kernel
theorem d_Model_walkThree_20 : decode prog_12_method_32_code 20 = .ok (.istore_n 1, 1) := by decide +kernel
theorem d_Model_walkThree_21 : decode prog_12_method_32_code 21 = .ok (.iload_n 1, 1) := by decide +kernel
theorem d_Model_walkThree_22 : decode prog_12_method_32_code 22 = .ok (.ifCond .eq 10, 3) := by decide +kernel
theorem d_Model_walkThree_25 : decode prog_12_method_32_code 25 = .ok (.aload_n 0, 1) := by decide +kernel
theorem d_Model_walkThree_26 : decode prog_12_method_32_code 26 = .ok (.getfield 128, 3) := by decide +kernel
theorem d_Model_walkThree_29 : decode prog_12_method_32_code 29 = .ok (.goto 7, 3) := by decide +kernel
theorem d_Model_walkThree_32 : decode prog_12_method_32_code 32 = .ok (.aload_n 0, 1) := by decide +kernel
theorem d_Model_walkThree_33 : decode prog_12_method_32_code 33 = .ok (.getfield 125, 3) := by decide +kernel
theorem d_Model_walkThree_36 : decode prog_12_method_32_code 36 = .ok (.istore_n 2, 1) := by decide +kernel
theorem d_Model_walkThree_37 : decode prog_12_method_32_code 37 = .ok (.iconst 0, 1) := by decide +kernel
theorem d_Model_walkThree_38 : decode prog_12_method_32_code 38 = .ok (.istore_n 3, 1) := by decide +kernel
theorem d_Model_walkThree_39 : decode prog_12_method_32_code 39 = .ok (.iload_n 3, 1) := by decide +kernel
theorem d_Model_walkThree_40 : decode prog_12_method_32_code 40 = .ok (.iload_n 2, 1) := by decide +kernel
theorem d_Model_walkThree_41 : decode prog_12_method_32_code 41 = .ok (.if_icmp .ge 79, 3) := by decide +kernel
theorem d_Model_walkThree_44 : decode prog_12_method_32_code 44 = .ok (.aload_n 0, 1) := by decide +kernel
theorem d_Model_walkThree_45 : decode prog_12_method_32_code 45 = .ok (.iconst 3, 1) := by decide +kernel
theorem d_Model_walkThree_46 : decode prog_12_method_32_code 46 = .ok (.iload_n 3, 1) := by decide +kernel
theorem d_Model_walkThree_47 : decode prog_12_method_32_code 47 = .ok (.iconst 0, 1) := by decide +kernel
theorem d_Model_walkThree_48 : decode prog_12_method_32_code 48 = .ok (.aload_n 0, 1) := by decide +kernel
theorem d_Model_walkThree_49 : decode prog_12_method_32_code 49 = .ok (.getfield 125, 3) := by decide +kernel
theorem d_Model_walkThree_52 : decode prog_12_method_32_code 52 = .ok (.iconst 0, 1) := by decide +kernel
theorem d_Model_walkThree_53 : decode prog_12_method_32_code 53 = .ok (.aload_n 0, 1) := by decide +kernel
theorem d_Model_walkThree_54 : decode prog_12_method_32_code 54 = .ok (.getfield 128, 3) := by decide +kernel
theorem d_Model_walkThree_57 : decode prog_12_method_32_code 57 = .ok (.invokevirtual 222, 3) := by decide +kernel
theorem d_Model_walkThree_60 : decode prog_12_method_32_code 60 = .ok (.istore 4, 2) := by decide +kernel
theorem d_Model_walkThree_62 : decode prog_12_method_32_code 62 = .ok (.iload 4, 2) := by decide +kernel
theorem d_Model_walkThree_64 : decode prog_12_method_32_code 64 = .ok (.ifCond .le 22, 3) := by decide +kernel
theorem d_Model_walkThree_67 : decode prog_12_method_32_code 67 = .ok (.iload_n 1, 1) := by decide +kernel
theorem d_Model_walkThree_68 : decode prog_12_method_32_code 68 = .ok (.ifCond .eq 18, 3) := by decide +kernel
theorem d_Model_walkThree_71 : decode prog_12_method_32_code 71 = .ok (.aload_n 0, 1) := by decide +kernel
theorem d_Model_walkThree_72 : decode prog_12_method_32_code 72 = .ok (.iconst 0, 1) := by decide +kernel
theorem d_Model_walkThree_73 : decode prog_12_method_32_code 73 = .ok (.aload_n 0, 1) := by decide +kernel
theorem d_Model_walkThree_74 : decode prog_12_method_32_code 74 = .ok (.getfield 125, 3) := by decide +kernel
theorem d_Model_walkThree_77 : decode prog_12_method_32_code 77 = .ok (.iload_n 3, 1) := by decide +kernel
theorem d_Model_walkThree_78 : decode prog_12_method_32_code 78 = .ok (.iload 4, 2) := by decide +kernel
theorem d_Model_walkThree_80 : decode prog_12_method_32_code 80 = .ok (.invokevirtual 232, 3) := by decide +kernel
theorem d_Model_walkThree_83 : decode prog_12_method_32_code 83 = .ok (.goto 20, 3) := by decide +kernel
theorem d_Model_walkThree_86 : decode prog_12_method_32_code 86 = .ok (.iload 4, 2) := by decide +kernel
theorem d_Model_walkThree_88 : decode prog_12_method_32_code 88 = .ok (.ifCond .le 15, 3) := by decide +kernel
theorem d_Model_walkThree_91 : decode prog_12_method_32_code 91 = .ok (.aload_n 0, 1) := by decide +kernel
theorem d_Model_walkThree_92 : decode prog_12_method_32_code 92 = .ok (.iload_n 3, 1) := by decide +kernel
theorem d_Model_walkThree_93 : decode prog_12_method_32_code 93 = .ok (.iload 4, 2) := by decide +kernel
theorem d_Model_walkThree_95 : decode prog_12_method_32_code 95 = .ok (.iconst 0, 1) := by decide +kernel
theorem d_Model_walkThree_96 : decode prog_12_method_32_code 96 = .ok (.aload_n 0, 1) := by decide +kernel
theorem d_Model_walkThree_97 : decode prog_12_method_32_code 97 = .ok (.getfield 128, 3) := by decide +kernel
theorem d_Model_walkThree_100 : decode prog_12_method_32_code 100 = .ok (.invokevirtual 232, 3) := by decide +kernel
theorem d_Model_walkThree_103 : decode prog_12_method_32_code 103 = .ok (.iload 4, 2) := by decide +kernel
theorem d_Model_walkThree_105 : decode prog_12_method_32_code 105 = .ok (.ifCond .le 8, 3) := by decide +kernel
theorem d_Model_walkThree_108 : decode prog_12_method_32_code 108 = .ok (.iload 4, 2) := by decide +kernel
theorem d_Model_walkThree_110 : decode prog_12_method_32_code 110 = .ok (.goto 6, 3) := by decide +kernel
theorem d_Model_walkThree_113 : decode prog_12_method_32_code 113 = .ok (.iload_n 3, 1) := by decide +kernel
theorem d_Model_walkThree_114 : decode prog_12_method_32_code 114 = .ok (.iconst 1, 1) := by decide +kernel
theorem d_Model_walkThree_115 : decode prog_12_method_32_code 115 = .ok (.iadd, 1) := by decide +kernel
theorem d_Model_walkThree_116 : decode prog_12_method_32_code 116 = .ok (.istore_n 3, 1) := by decide +kernel
theorem d_Model_walkThree_117 : decode prog_12_method_32_code 117 = .ok (.goto (-78), 3) := by decide +kernel
theorem d_Model_walkThree_120 : decode prog_12_method_32_code 120 = .ok (.return_, 1) := by decide +kernel
set_option maxRecDepth 50000 in
theorem cd_Model_walkThree : Cond.code y_Model_walkThree prog_12_method_32_code 5 none ∈ TB := mem_TB 1126 rfl rfl
theorem im_Model_walkThree : Cond.instanceMethod y_Model_walkThree ∈ TB := mem_TB 1125 (by decide +kernel) (by decide +kernel)
theorem sl_Model_walkThree : Cond.selects R_Model y_Model_walkThree y_Model_walkThree ∈ TB := mem_TBs (by decide +kernel) (by decide +kernel)
theorem hd_Model_walkThree : y_Model_walkThree.cls ≠ "java/lang/invoke/MethodHandle" ∧ y_Model_walkThree.cls ≠ "java/lang/invoke/VarHandle" ∧ (parseMethodDescriptor y_Model_walkThree.desc).map (fun d => d.parameters.length) = some 0 := by decide +kernel
def y_Model_plan : MethodName := ⟨R_Model, "plan", "()J"⟩
abbrev ws_Model_plan : List Cond := .code y_Model_plan prog_12_method_33_code 4 (some .long) :: TB
theorem d_Model_plan_0 : decode prog_12_method_33_code 0 = .ok (.aload_n 0, 1) := by decide +kernel
theorem d_Model_plan_1 : decode prog_12_method_33_code 1 = .ok (.iconst 0, 1) := by decide +kernel
theorem d_Model_plan_2 : decode prog_12_method_33_code 2 = .ok (.putfield 219, 3) := by decide +kernel
theorem d_Model_plan_5 : decode prog_12_method_33_code 5 = .ok (.aload_n 0, 1) := by decide +kernel
theorem d_Model_plan_6 : decode prog_12_method_33_code 6 = .ok (.getfield 125, 3) := by decide +kernel
theorem d_Model_plan_9 : decode prog_12_method_33_code 9 = .ok (.ifCond .eq 10, 3) := by decide +kernel
theorem d_Model_plan_12 : decode prog_12_method_33_code 12 = .ok (.aload_n 0, 1) := by decide +kernel
theorem d_Model_plan_13 : decode prog_12_method_33_code 13 = .ok (.getfield 128, 3) := by decide +kernel
theorem d_Model_plan_16 : decode prog_12_method_33_code 16 = .ok (.ifCond .ne 5, 3) := by decide +kernel
theorem d_Model_plan_19 : decode prog_12_method_33_code 19 = .ok (.lconst 0, 1) := by decide +kernel
theorem d_Model_plan_20 : decode prog_12_method_33_code 20 = .ok (.lreturn, 1) := by decide +kernel
theorem d_Model_plan_21 : decode prog_12_method_33_code 21 = .ok (.aload_n 0, 1) := by decide +kernel
theorem d_Model_plan_22 : decode prog_12_method_33_code 22 = .ok (.invokevirtual 235, 3) := by decide +kernel
theorem d_Model_plan_25 : decode prog_12_method_33_code 25 = .ok (.aload_n 0, 1) := by decide +kernel
theorem d_Model_plan_26 : decode prog_12_method_33_code 26 = .ok (.getfield 91, 3) := by decide +kernel
theorem d_Model_plan_29 : decode prog_12_method_33_code 29 = .ok (.iconst 1, 1) := by decide +kernel
theorem d_Model_plan_30 : decode prog_12_method_33_code 30 = .ok (.if_icmp .le 7, 3) := by decide +kernel
theorem d_Model_plan_33 : decode prog_12_method_33_code 33 = .ok (.aload_n 0, 1) := by decide +kernel
theorem d_Model_plan_34 : decode prog_12_method_33_code 34 = .ok (.invokevirtual 238, 3) := by decide +kernel
theorem d_Model_plan_37 : decode prog_12_method_33_code 37 = .ok (.aload_n 0, 1) := by decide +kernel
theorem d_Model_plan_38 : decode prog_12_method_33_code 38 = .ok (.getfield 91, 3) := by decide +kernel
theorem d_Model_plan_41 : decode prog_12_method_33_code 41 = .ok (.iconst 2, 1) := by decide +kernel
theorem d_Model_plan_42 : decode prog_12_method_33_code 42 = .ok (.if_icmp .le 7, 3) := by decide +kernel
theorem d_Model_plan_45 : decode prog_12_method_33_code 45 = .ok (.aload_n 0, 1) := by decide +kernel
theorem d_Model_plan_46 : decode prog_12_method_33_code 46 = .ok (.invokevirtual 241, 3) := by decide +kernel
theorem d_Model_plan_49 : decode prog_12_method_33_code 49 = .ok (.aload_n 0, 1) := by decide +kernel
theorem d_Model_plan_50 : decode prog_12_method_33_code 50 = .ok (.getfield 91, 3) := by decide +kernel
theorem d_Model_plan_53 : decode prog_12_method_33_code 53 = .ok (.iconst 1, 1) := by decide +kernel
theorem d_Model_plan_54 : decode prog_12_method_33_code 54 = .ok (.if_icmp .ne 20, 3) := by decide +kernel
theorem d_Model_plan_57 : decode prog_12_method_33_code 57 = .ok (.aload_n 0, 1) := by decide +kernel
theorem d_Model_plan_58 : decode prog_12_method_33_code 58 = .ok (.iconst 0, 1) := by decide +kernel
theorem d_Model_plan_59 : decode prog_12_method_33_code 59 = .ok (.aload_n 0, 1) := by decide +kernel
theorem d_Model_plan_60 : decode prog_12_method_33_code 60 = .ok (.getfield 125, 3) := by decide +kernel
theorem d_Model_plan_63 : decode prog_12_method_33_code 63 = .ok (.iconst 0, 1) := by decide +kernel
theorem d_Model_plan_64 : decode prog_12_method_33_code 64 = .ok (.aload_n 0, 1) := by decide +kernel
theorem d_Model_plan_65 : decode prog_12_method_33_code 65 = .ok (.getfield 128, 3) := by decide +kernel
theorem d_Model_plan_68 : decode prog_12_method_33_code 68 = .ok (.invokevirtual 229, 3) := by decide +kernel
theorem d_Model_plan_71 : decode prog_12_method_33_code 71 = .ok (.goto 32, 3) := by decide +kernel
theorem d_Model_plan_74 : decode prog_12_method_33_code 74 = .ok (.aload_n 0, 1) := by decide +kernel
theorem d_Model_plan_75 : decode prog_12_method_33_code 75 = .ok (.getfield 91, 3) := by decide +kernel
theorem d_Model_plan_78 : decode prog_12_method_33_code 78 = .ok (.iconst 2, 1) := by decide +kernel
theorem d_Model_plan_79 : decode prog_12_method_33_code 79 = .ok (.if_icmp .ne 20, 3) := by decide +kernel
theorem d_Model_plan_82 : decode prog_12_method_33_code 82 = .ok (.aload_n 0, 1) := by decide +kernel
theorem d_Model_plan_83 : decode prog_12_method_33_code 83 = .ok (.iconst 0, 1) := by decide +kernel
theorem d_Model_plan_84 : decode prog_12_method_33_code 84 = .ok (.aload_n 0, 1) := by decide +kernel
theorem d_Model_plan_85 : decode prog_12_method_33_code 85 = .ok (.getfield 125, 3) := by decide +kernel
theorem d_Model_plan_88 : decode prog_12_method_33_code 88 = .ok (.iconst 0, 1) := by decide +kernel
theorem d_Model_plan_89 : decode prog_12_method_33_code 89 = .ok (.aload_n 0, 1) := by decide +kernel
theorem d_Model_plan_90 : decode prog_12_method_33_code 90 = .ok (.getfield 128, 3) := by decide +kernel
theorem d_Model_plan_93 : decode prog_12_method_33_code 93 = .ok (.invokevirtual 232, 3) := by decide +kernel
theorem d_Model_plan_96 : decode prog_12_method_33_code 96 = .ok (.goto 7, 3) := by decide +kernel
theorem d_Model_plan_99 : decode prog_12_method_33_code 99 = .ok (.aload_n 0, 1) := by decide +kernel
theorem d_Model_plan_100 : decode prog_12_method_33_code 100 = .ok (.invokevirtual 244, 3) := by decide +kernel
theorem d_Model_plan_103 : decode prog_12_method_33_code 103 = .ok (.lconst 0, 1) := by decide +kernel
theorem d_Model_plan_104 : decode prog_12_method_33_code 104 = .ok (.lstore_n 1, 1) := by decide +kernel
theorem d_Model_plan_105 : decode prog_12_method_33_code 105 = .ok (.iconst 0, 1) := by decide +kernel
theorem d_Model_plan_106 : decode prog_12_method_33_code 106 = .ok (.istore_n 3, 1) := by decide +kernel
theorem d_Model_plan_107 : decode prog_12_method_33_code 107 = .ok (.iload_n 3, 1) := by decide +kernel
theorem d_Model_plan_108 : decode prog_12_method_33_code 108 = .ok (.aload_n 0, 1) := by decide +kernel
theorem d_Model_plan_109 : decode prog_12_method_33_code 109 = .ok (.getfield 219, 3) := by decide +kernel
theorem d_Model_plan_112 : decode prog_12_method_33_code 112 = .ok (.if_icmp .ge 43, 3) := by decide +kernel
theorem d_Model_plan_115 : decode prog_12_method_33_code 115 = .ok (.lload_n 1, 1) := by decide +kernel
theorem d_Model_plan_116 : decode prog_12_method_33_code 116 = .ok (.aload_n 0, 1) := by decide +kernel
theorem d_Model_plan_117 : decode prog_12_method_33_code 117 = .ok (.getfield 37, 3) := by decide +kernel
theorem d_Model_plan_120 : decode prog_12_method_33_code 120 = .ok (.aload_n 0, 1) := by decide +kernel
theorem d_Model_plan_121 : decode prog_12_method_33_code 121 = .ok (.getfield 106, 3) := by decide +kernel
theorem d_Model_plan_124 : decode prog_12_method_33_code 124 = .ok (.iload_n 3, 1) := by decide +kernel
theorem d_Model_plan_125 : decode prog_12_method_33_code 125 = .ok (.iaload, 1) := by decide +kernel
theorem d_Model_plan_126 : decode prog_12_method_33_code 126 = .ok (.laload, 1) := by decide +kernel
theorem d_Model_plan_127 : decode prog_12_method_33_code 127 = .ok (.aload_n 0, 1) := by decide +kernel
theorem d_Model_plan_128 : decode prog_12_method_33_code 128 = .ok (.getfield 100, 3) := by decide +kernel
theorem d_Model_plan_131 : decode prog_12_method_33_code 131 = .ok (.iload_n 3, 1) := by decide +kernel
theorem d_Model_plan_132 : decode prog_12_method_33_code 132 = .ok (.iaload, 1) := by decide +kernel
theorem d_Model_plan_133 : decode prog_12_method_33_code 133 = .ok (.i2l, 1) := by decide +kernel
theorem d_Model_plan_134 : decode prog_12_method_33_code 134 = .ok (.lmul, 1) := by decide +kernel
theorem d_Model_plan_135 : decode prog_12_method_33_code 135 = .ok (.aload_n 0, 1) := by decide +kernel
theorem d_Model_plan_136 : decode prog_12_method_33_code 136 = .ok (.getfield 48, 3) := by decide +kernel
theorem d_Model_plan_139 : decode prog_12_method_33_code 139 = .ok (.aload_n 0, 1) := by decide +kernel
theorem d_Model_plan_140 : decode prog_12_method_33_code 140 = .ok (.getfield 106, 3) := by decide +kernel
theorem d_Model_plan_143 : decode prog_12_method_33_code 143 = .ok (.iload_n 3, 1) := by decide +kernel
theorem d_Model_plan_144 : decode prog_12_method_33_code 144 = .ok (.iaload, 1) := by decide +kernel
theorem d_Model_plan_145 : decode prog_12_method_33_code 145 = .ok (.laload, 1) := by decide +kernel
theorem d_Model_plan_146 : decode prog_12_method_33_code 146 = .ok (.lsub, 1) := by decide +kernel
theorem d_Model_plan_147 : decode prog_12_method_33_code 147 = .ok (.ladd, 1) := by decide +kernel
theorem d_Model_plan_148 : decode prog_12_method_33_code 148 = .ok (.lstore_n 1, 1) := by decide +kernel
theorem d_Model_plan_149 : decode prog_12_method_33_code 149 = .ok (.iinc 3 1, 3) := by decide +kernel
theorem d_Model_plan_152 : decode prog_12_method_33_code 152 = .ok (.goto (-45), 3) := by decide +kernel
theorem d_Model_plan_155 : decode prog_12_method_33_code 155 = .ok (.lload_n 1, 1) := by decide +kernel
theorem d_Model_plan_156 : decode prog_12_method_33_code 156 = .ok (.lreturn, 1) := by decide +kernel
set_option maxRecDepth 50000 in
theorem cd_Model_plan : Cond.code y_Model_plan prog_12_method_33_code 4 (some .long) ∈ TB := mem_TB 1055 rfl rfl
theorem im_Model_plan : Cond.instanceMethod y_Model_plan ∈ TB := mem_TB 1054 (by decide +kernel) (by decide +kernel)
theorem sl_Model_plan : Cond.selects R_Model y_Model_plan y_Model_plan ∈ TB := mem_TBs (by decide +kernel) (by decide +kernel)
theorem hd_Model_plan : y_Model_plan.cls ≠ "java/lang/invoke/MethodHandle" ∧ y_Model_plan.cls ≠ "java/lang/invoke/VarHandle" ∧ (parseMethodDescriptor y_Model_plan.desc).map (fun d => d.parameters.length) = some 0 := by decide +kernel
def y_Model_trueWorth : MethodName := ⟨R_Model, "trueWorth", "()J"⟩
abbrev ws_Model_trueWorth : List Cond := .code y_Model_trueWorth prog_12_method_34_code 4 (some .long) :: TB
theorem d_Model_trueWorth_0 : decode prog_12_method_34_code 0 = .ok (.lconst 0, 1) := by decide +kernel
theorem d_Model_trueWorth_1 : decode prog_12_method_34_code 1 = .ok (.lstore_n 1, 1) := by decide +kernel
theorem d_Model_trueWorth_2 : decode prog_12_method_34_code 2 = .ok (.iconst 0, 1) := by decide +kernel
theorem d_Model_trueWorth_3 : decode prog_12_method_34_code 3 = .ok (.istore_n 3, 1) := by decide +kernel
theorem d_Model_trueWorth_4 : decode prog_12_method_34_code 4 = .ok (.iload_n 3, 1) := by decide +kernel
theorem d_Model_trueWorth_5 : decode prog_12_method_34_code 5 = .ok (.aload_n 0, 1) := by decide +kernel
theorem d_Model_trueWorth_6 : decode prog_12_method_34_code 6 = .ok (.getfield 219, 3) := by decide +kernel
theorem d_Model_trueWorth_9 : decode prog_12_method_34_code 9 = .ok (.if_icmp .ge 31, 3) := by decide +kernel
theorem d_Model_trueWorth_12 : decode prog_12_method_34_code 12 = .ok (.lload_n 1, 1) := by decide +kernel
theorem d_Model_trueWorth_13 : decode prog_12_method_34_code 13 = .ok (.aload_n 0, 1) := by decide +kernel
theorem d_Model_trueWorth_14 : decode prog_12_method_34_code 14 = .ok (.getfield 37, 3) := by decide +kernel
theorem d_Model_trueWorth_17 : decode prog_12_method_34_code 17 = .ok (.aload_n 0, 1) := by decide +kernel
theorem d_Model_trueWorth_18 : decode prog_12_method_34_code 18 = .ok (.getfield 106, 3) := by decide +kernel
theorem d_Model_trueWorth_21 : decode prog_12_method_34_code 21 = .ok (.iload_n 3, 1) := by decide +kernel
theorem d_Model_trueWorth_22 : decode prog_12_method_34_code 22 = .ok (.iaload, 1) := by decide +kernel
theorem d_Model_trueWorth_23 : decode prog_12_method_34_code 23 = .ok (.laload, 1) := by decide +kernel
theorem d_Model_trueWorth_24 : decode prog_12_method_34_code 24 = .ok (.aload_n 0, 1) := by decide +kernel
theorem d_Model_trueWorth_25 : decode prog_12_method_34_code 25 = .ok (.getfield 100, 3) := by decide +kernel
theorem d_Model_trueWorth_28 : decode prog_12_method_34_code 28 = .ok (.iload_n 3, 1) := by decide +kernel
theorem d_Model_trueWorth_29 : decode prog_12_method_34_code 29 = .ok (.iaload, 1) := by decide +kernel
theorem d_Model_trueWorth_30 : decode prog_12_method_34_code 30 = .ok (.i2l, 1) := by decide +kernel
theorem d_Model_trueWorth_31 : decode prog_12_method_34_code 31 = .ok (.lmul, 1) := by decide +kernel
theorem d_Model_trueWorth_32 : decode prog_12_method_34_code 32 = .ok (.ladd, 1) := by decide +kernel
theorem d_Model_trueWorth_33 : decode prog_12_method_34_code 33 = .ok (.lstore_n 1, 1) := by decide +kernel
theorem d_Model_trueWorth_34 : decode prog_12_method_34_code 34 = .ok (.iinc 3 1, 3) := by decide +kernel
theorem d_Model_trueWorth_37 : decode prog_12_method_34_code 37 = .ok (.goto (-33), 3) := by decide +kernel
theorem d_Model_trueWorth_40 : decode prog_12_method_34_code 40 = .ok (.lload_n 1, 1) := by decide +kernel
theorem d_Model_trueWorth_41 : decode prog_12_method_34_code 41 = .ok (.lreturn, 1) := by decide +kernel
set_option maxRecDepth 50000 in
theorem cd_Model_trueWorth : Cond.code y_Model_trueWorth prog_12_method_34_code 4 (some .long) ∈ TB := mem_TB 1143 rfl rfl
theorem im_Model_trueWorth : Cond.instanceMethod y_Model_trueWorth ∈ TB := mem_TB 1142 (by decide +kernel) (by decide +kernel)
theorem sl_Model_trueWorth : Cond.selects R_Model y_Model_trueWorth y_Model_trueWorth ∈ TB := mem_TBs (by decide +kernel) (by decide +kernel)
theorem hd_Model_trueWorth : y_Model_trueWorth.cls ≠ "java/lang/invoke/MethodHandle" ∧ y_Model_trueWorth.cls ≠ "java/lang/invoke/VarHandle" ∧ (parseMethodDescriptor y_Model_trueWorth.desc).map (fun d => d.parameters.length) = some 0 := by decide +kernel
def y_Model_countOf : MethodName := ⟨R_Model, "countOf", "(I)I"⟩
abbrev ws_Model_countOf : List Cond := .code y_Model_countOf prog_12_method_35_code 4 (some .int) :: TB
theorem d_Model_countOf_0 : decode prog_12_method_35_code 0 = .ok (.iconst 0, 1) := by decide +kernel
theorem d_Model_countOf_1 : decode prog_12_method_35_code 1 = .ok (.istore_n 2, 1) := by decide +kernel
theorem d_Model_countOf_2 : decode prog_12_method_35_code 2 = .ok (.iconst 0, 1) := by decide +kernel
theorem d_Model_countOf_3 : decode prog_12_method_35_code 3 = .ok (.istore_n 3, 1) := by decide +kernel
theorem d_Model_countOf_4 : decode prog_12_method_35_code 4 = .ok (.iload_n 3, 1) := by decide +kernel
theorem d_Model_countOf_5 : decode prog_12_method_35_code 5 = .ok (.aload_n 0, 1) := by decide +kernel
theorem d_Model_countOf_6 : decode prog_12_method_35_code 6 = .ok (.getfield 219, 3) := by decide +kernel
theorem d_Model_countOf_9 : decode prog_12_method_35_code 9 = .ok (.if_icmp .ge 27, 3) := by decide +kernel
theorem d_Model_countOf_12 : decode prog_12_method_35_code 12 = .ok (.aload_n 0, 1) := by decide +kernel
theorem d_Model_countOf_13 : decode prog_12_method_35_code 13 = .ok (.getfield 106, 3) := by decide +kernel
theorem d_Model_countOf_16 : decode prog_12_method_35_code 16 = .ok (.iload_n 3, 1) := by decide +kernel
theorem d_Model_countOf_17 : decode prog_12_method_35_code 17 = .ok (.iaload, 1) := by decide +kernel
theorem d_Model_countOf_18 : decode prog_12_method_35_code 18 = .ok (.iload_n 1, 1) := by decide +kernel
theorem d_Model_countOf_19 : decode prog_12_method_35_code 19 = .ok (.if_icmp .ne 9, 3) := by decide +kernel
theorem d_Model_countOf_22 : decode prog_12_method_35_code 22 = .ok (.iload_n 2, 1) := by decide +kernel
theorem d_Model_countOf_23 : decode prog_12_method_35_code 23 = .ok (.iconst 1, 1) := by decide +kernel
theorem d_Model_countOf_24 : decode prog_12_method_35_code 24 = .ok (.iadd, 1) := by decide +kernel
theorem d_Model_countOf_25 : decode prog_12_method_35_code 25 = .ok (.goto 4, 3) := by decide +kernel
theorem d_Model_countOf_28 : decode prog_12_method_35_code 28 = .ok (.iload_n 2, 1) := by decide +kernel
theorem d_Model_countOf_29 : decode prog_12_method_35_code 29 = .ok (.istore_n 2, 1) := by decide +kernel
theorem d_Model_countOf_30 : decode prog_12_method_35_code 30 = .ok (.iinc 3 1, 3) := by decide +kernel
theorem d_Model_countOf_33 : decode prog_12_method_35_code 33 = .ok (.goto (-29), 3) := by decide +kernel
theorem d_Model_countOf_36 : decode prog_12_method_35_code 36 = .ok (.iload_n 2, 1) := by decide +kernel
theorem d_Model_countOf_37 : decode prog_12_method_35_code 37 = .ok (.ireturn, 1) := by decide +kernel
set_option maxRecDepth 50000 in
theorem cd_Model_countOf : Cond.code y_Model_countOf prog_12_method_35_code 4 (some .int) ∈ TB := mem_TB 1139 rfl rfl
theorem im_Model_countOf : Cond.instanceMethod y_Model_countOf ∈ TB := mem_TB 1138 (by decide +kernel) (by decide +kernel)
theorem sl_Model_countOf : Cond.selects R_Model y_Model_countOf y_Model_countOf ∈ TB := mem_TBs (by decide +kernel) (by decide +kernel)
theorem hd_Model_countOf : y_Model_countOf.cls ≠ "java/lang/invoke/MethodHandle" ∧ y_Model_countOf.cls ≠ "java/lang/invoke/VarHandle" ∧ (parseMethodDescriptor y_Model_countOf.desc).map (fun d => d.parameters.length) = some 1 := by decide +kernel
def y_Model_run : MethodName := ⟨R_Model, "run", "(II)I"⟩
abbrev ws_Model_run : List Cond := .code y_Model_run prog_12_method_36_code 4 (some .int) :: TB
theorem d_Model_run_0 : decode prog_12_method_36_code 0 = .ok (.aload_n 0, 1) := by decide +kernel
theorem d_Model_run_1 : decode prog_12_method_36_code 1 = .ok (.iload_n 1, 1) := by decide +kernel
theorem d_Model_run_2 : decode prog_12_method_36_code 2 = .ok (.i2l, 1) := by decide +kernel
theorem d_Model_run_3 : decode prog_12_method_36_code 3 = .ok (.lconst 0, 1) := by decide +kernel
theorem d_Model_run_4 : decode prog_12_method_36_code 4 = .ok (.lconst 1, 1) := by decide +kernel
theorem d_Model_run_5 : decode prog_12_method_36_code 5 = .ok (.invokestatic 141, 3) := by decide +kernel
theorem d_Model_run_8 : decode prog_12_method_36_code 8 = .ok (.ifCond .eq 19, 3) := by decide +kernel
theorem d_Model_run_11 : decode prog_12_method_36_code 11 = .ok (.iload_n 2, 1) := by decide +kernel
theorem d_Model_run_12 : decode prog_12_method_36_code 12 = .ok (.i2l, 1) := by decide +kernel
theorem d_Model_run_13 : decode prog_12_method_36_code 13 = .ok (.lconst 1, 1) := by decide +kernel
theorem d_Model_run_14 : decode prog_12_method_36_code 14 = .ok (.ldc2_w 247, 3) := by decide +kernel
theorem d_Model_run_17 : decode prog_12_method_36_code 17 = .ok (.invokestatic 141, 3) := by decide +kernel
theorem d_Model_run_20 : decode prog_12_method_36_code 20 = .ok (.ifCond .eq 7, 3) := by decide +kernel
theorem d_Model_run_23 : decode prog_12_method_36_code 23 = .ok (.iconst 0, 1) := by decide +kernel
theorem d_Model_run_24 : decode prog_12_method_36_code 24 = .ok (.goto 4, 3) := by decide +kernel
theorem d_Model_run_27 : decode prog_12_method_36_code 27 = .ok (.iconst 1, 1) := by decide +kernel
theorem d_Model_run_28 : decode prog_12_method_36_code 28 = .ok (.putfield 132, 3) := by decide +kernel
theorem d_Model_run_31 : decode prog_12_method_36_code 31 = .ok (.aload_n 0, 1) := by decide +kernel
theorem d_Model_run_32 : decode prog_12_method_36_code 32 = .ok (.getfield 132, 3) := by decide +kernel
theorem d_Model_run_35 : decode prog_12_method_36_code 35 = .ok (.ifCond .le 5, 3) := by decide +kernel
theorem d_Model_run_38 : decode prog_12_method_36_code 38 = .ok (.iconst 0, 1) := by decide +kernel
theorem d_Model_run_39 : decode prog_12_method_36_code 39 = .ok (.ireturn, 1) := by decide +kernel
theorem d_Model_run_40 : decode prog_12_method_36_code 40 = .ok (.aload_n 0, 1) := by decide +kernel
theorem d_Model_run_41 : decode prog_12_method_36_code 41 = .ok (.iload_n 1, 1) := by decide +kernel
theorem d_Model_run_42 : decode prog_12_method_36_code 42 = .ok (.putfield 193, 3) := by decide +kernel
theorem d_Model_run_45 : decode prog_12_method_36_code 45 = .ok (.aload_n 0, 1) := by decide +kernel
theorem d_Model_run_46 : decode prog_12_method_36_code 46 = .ok (.iload_n 2, 1) := by decide +kernel
theorem d_Model_run_47 : decode prog_12_method_36_code 47 = .ok (.putfield 91, 3) := by decide +kernel
theorem d_Model_run_50 : decode prog_12_method_36_code 50 = .ok (.iconst 0, 1) := by decide +kernel
theorem d_Model_run_51 : decode prog_12_method_36_code 51 = .ok (.istore_n 3, 1) := by decide +kernel
theorem d_Model_run_52 : decode prog_12_method_36_code 52 = .ok (.iload_n 3, 1) := by decide +kernel
theorem d_Model_run_53 : decode prog_12_method_36_code 53 = .ok (.bipush 8, 2) := by decide +kernel
theorem d_Model_run_55 : decode prog_12_method_36_code 55 = .ok (.if_icmp .ge 23, 3) := by decide +kernel
theorem d_Model_run_58 : decode prog_12_method_36_code 58 = .ok (.aload_n 0, 1) := by decide +kernel
theorem d_Model_run_59 : decode prog_12_method_36_code 59 = .ok (.getfield 48, 3) := by decide +kernel
theorem d_Model_run_62 : decode prog_12_method_36_code 62 = .ok (.iload_n 3, 1) := by decide +kernel
theorem d_Model_run_63 : decode prog_12_method_36_code 63 = .ok (.lconst 0, 1) := by decide +kernel
theorem d_Model_run_64 : decode prog_12_method_36_code 64 = .ok (.lastore, 1) := by decide +kernel
theorem d_Model_run_65 : decode prog_12_method_36_code 65 = .ok (.aload_n 0, 1) := by decide +kernel
theorem d_Model_run_66 : decode prog_12_method_36_code 66 = .ok (.getfield 51, 3) := by decide +kernel
theorem d_Model_run_69 : decode prog_12_method_36_code 69 = .ok (.iload_n 3, 1) := by decide +kernel
theorem d_Model_run_70 : decode prog_12_method_36_code 70 = .ok (.lconst 0, 1) := by decide +kernel
theorem d_Model_run_71 : decode prog_12_method_36_code 71 = .ok (.lastore, 1) := by decide +kernel
theorem d_Model_run_72 : decode prog_12_method_36_code 72 = .ok (.iinc 3 1, 3) := by decide +kernel
theorem d_Model_run_75 : decode prog_12_method_36_code 75 = .ok (.goto (-23), 3) := by decide +kernel
theorem d_Model_run_78 : decode prog_12_method_36_code 78 = .ok (.aload_n 0, 1) := by decide +kernel
theorem d_Model_run_79 : decode prog_12_method_36_code 79 = .ok (.aload_n 0, 1) := by decide +kernel
theorem d_Model_run_80 : decode prog_12_method_36_code 80 = .ok (.invokevirtual 249, 3) := by decide +kernel
theorem d_Model_run_83 : decode prog_12_method_36_code 83 = .ok (.putfield 253, 3) := by decide +kernel
theorem d_Model_run_86 : decode prog_12_method_36_code 86 = .ok (.aload_n 0, 1) := by decide +kernel
theorem d_Model_run_87 : decode prog_12_method_36_code 87 = .ok (.iconst 1, 1) := by decide +kernel
theorem d_Model_run_88 : decode prog_12_method_36_code 88 = .ok (.putfield 135, 3) := by decide +kernel
theorem d_Model_run_91 : decode prog_12_method_36_code 91 = .ok (.aload_n 0, 1) := by decide +kernel
theorem d_Model_run_92 : decode prog_12_method_36_code 92 = .ok (.getfield 219, 3) := by decide +kernel
theorem d_Model_run_95 : decode prog_12_method_36_code 95 = .ok (.ireturn, 1) := by decide +kernel
set_option maxRecDepth 50000 in
theorem cd_Model_run : Cond.code y_Model_run prog_12_method_36_code 4 (some .int) ∈ TB := mem_TB 1050 rfl rfl
theorem im_Model_run : Cond.instanceMethod y_Model_run ∈ TB := mem_TB 1048 (by decide +kernel) (by decide +kernel)
theorem sl_Model_run : Cond.selects R_Model y_Model_run y_Model_run ∈ TB := mem_TB 1049 (by decide +kernel) (by decide +kernel)
theorem hd_Model_run : y_Model_run.cls ≠ "java/lang/invoke/MethodHandle" ∧ y_Model_run.cls ≠ "java/lang/invoke/VarHandle" ∧ (parseMethodDescriptor y_Model_run.desc).map (fun d => d.parameters.length) = some 2 := by decide +kernel
def y_Model_allHold : MethodName := ⟨R_Model, "allHold", "(Z)Z"⟩
abbrev ws_Model_allHold : List Cond := .code y_Model_allHold prog_12_method_37_code 5 (some .boolean) :: TB
theorem d_Model_allHold_0 : decode prog_12_method_37_code 0 = .ok (.iconst 1, 1) := by decide +kernel
theorem d_Model_allHold_1 : decode prog_12_method_37_code 1 = .ok (.istore_n 2, 1) := by decide +kernel
theorem d_Model_allHold_2 : decode prog_12_method_37_code 2 = .ok (.iconst 0, 1) := by decide +kernel
theorem d_Model_allHold_3 : decode prog_12_method_37_code 3 = .ok (.istore_n 3, 1) := by decide +kernel
theorem d_Model_allHold_4 : decode prog_12_method_37_code 4 = .ok (.iload_n 3, 1) := by decide +kernel
theorem d_Model_allHold_5 : decode prog_12_method_37_code 5 = .ok (.aload_n 0, 1) := by decide +kernel
theorem d_Model_allHold_6 : decode prog_12_method_37_code 6 = .ok (.getfield 158, 3) := by decide +kernel
theorem d_Model_allHold_9 : decode prog_12_method_37_code 9 = .ok (.if_icmp .ge 83, 3) := by decide +kernel
theorem d_Model_allHold_12 : decode prog_12_method_37_code 12 = .ok (.iload_n 1, 1) := by decide +kernel
theorem d_Model_allHold_13 : decode prog_12_method_37_code 13 = .ok (.ifCond .eq 28, 3) := by decide +kernel
theorem d_Model_allHold_16 : decode prog_12_method_37_code 16 = .ok (.aload_n 0, 1) := by decide +kernel
theorem d_Model_allHold_17 : decode prog_12_method_37_code 17 = .ok (.getfield 48, 3) := by decide +kernel
theorem d_Model_allHold_20 : decode prog_12_method_37_code 20 = .ok (.iload_n 3, 1) := by decide +kernel
theorem d_Model_allHold_21 : decode prog_12_method_37_code 21 = .ok (.laload, 1) := by decide +kernel
theorem d_Model_allHold_22 : decode prog_12_method_37_code 22 = .ok (.lconst 0, 1) := by decide +kernel
theorem d_Model_allHold_23 : decode prog_12_method_37_code 23 = .ok (.lcmp, 1) := by decide +kernel
theorem d_Model_allHold_24 : decode prog_12_method_37_code 24 = .ok (.ifCond .eq 17, 3) := by decide +kernel
theorem d_Model_allHold_27 : decode prog_12_method_37_code 27 = .ok (.aload_n 0, 1) := by decide +kernel
theorem d_Model_allHold_28 : decode prog_12_method_37_code 28 = .ok (.iload_n 3, 1) := by decide +kernel
theorem d_Model_allHold_29 : decode prog_12_method_37_code 29 = .ok (.invokevirtual 257, 3) := by decide +kernel
theorem d_Model_allHold_32 : decode prog_12_method_37_code 32 = .ok (.aload_n 0, 1) := by decide +kernel
theorem d_Model_allHold_33 : decode prog_12_method_37_code 33 = .ok (.getfield 45, 3) := by decide +kernel
theorem d_Model_allHold_36 : decode prog_12_method_37_code 36 = .ok (.iload_n 3, 1) := by decide +kernel
theorem d_Model_allHold_37 : decode prog_12_method_37_code 37 = .ok (.iaload, 1) := by decide +kernel
theorem d_Model_allHold_38 : decode prog_12_method_37_code 38 = .ok (.if_icmp .ne 7, 3) := by decide +kernel
theorem d_Model_allHold_41 : decode prog_12_method_37_code 41 = .ok (.iconst 1, 1) := by decide +kernel
theorem d_Model_allHold_42 : decode prog_12_method_37_code 42 = .ok (.goto 4, 3) := by decide +kernel
theorem d_Model_allHold_45 : decode prog_12_method_37_code 45 = .ok (.iconst 0, 1) := by decide +kernel
theorem d_Model_allHold_46 : decode prog_12_method_37_code 46 = .ok (.istore 4, 2) := by decide +kernel
theorem d_Model_allHold_48 : decode prog_12_method_37_code 48 = .ok (.iload_n 2, 1) := by decide +kernel
theorem d_Model_allHold_49 : decode prog_12_method_37_code 49 = .ok (.ifCond .eq 35, 3) := by decide +kernel
theorem d_Model_allHold_52 : decode prog_12_method_37_code 52 = .ok (.iload 4, 2) := by decide +kernel
theorem d_Model_allHold_54 : decode prog_12_method_37_code 54 = .ok (.ifCond .eq 30, 3) := by decide +kernel
theorem d_Model_allHold_57 : decode prog_12_method_37_code 57 = .ok (.aload_n 0, 1) := by decide +kernel
theorem d_Model_allHold_58 : decode prog_12_method_37_code 58 = .ok (.getfield 45, 3) := by decide +kernel
theorem d_Model_allHold_61 : decode prog_12_method_37_code 61 = .ok (.iload_n 3, 1) := by decide +kernel
theorem d_Model_allHold_62 : decode prog_12_method_37_code 62 = .ok (.iaload, 1) := by decide +kernel
theorem d_Model_allHold_63 : decode prog_12_method_37_code 63 = .ok (.ifCond .lt 17, 3) := by decide +kernel
theorem d_Model_allHold_66 : decode prog_12_method_37_code 66 = .ok (.aload_n 0, 1) := by decide +kernel
theorem d_Model_allHold_67 : decode prog_12_method_37_code 67 = .ok (.iload_n 3, 1) := by decide +kernel
theorem d_Model_allHold_68 : decode prog_12_method_37_code 68 = .ok (.invokevirtual 257, 3) := by decide +kernel
theorem d_Model_allHold_71 : decode prog_12_method_37_code 71 = .ok (.aload_n 0, 1) := by decide +kernel
theorem d_Model_allHold_72 : decode prog_12_method_37_code 72 = .ok (.getfield 45, 3) := by decide +kernel
theorem d_Model_allHold_75 : decode prog_12_method_37_code 75 = .ok (.iload_n 3, 1) := by decide +kernel
theorem d_Model_allHold_76 : decode prog_12_method_37_code 76 = .ok (.iaload, 1) := by decide +kernel
theorem d_Model_allHold_77 : decode prog_12_method_37_code 77 = .ok (.if_icmp .gt 7, 3) := by decide +kernel
theorem d_Model_allHold_80 : decode prog_12_method_37_code 80 = .ok (.iconst 1, 1) := by decide +kernel
theorem d_Model_allHold_81 : decode prog_12_method_37_code 81 = .ok (.goto 4, 3) := by decide +kernel
theorem d_Model_allHold_84 : decode prog_12_method_37_code 84 = .ok (.iconst 0, 1) := by decide +kernel
theorem d_Model_allHold_85 : decode prog_12_method_37_code 85 = .ok (.istore_n 2, 1) := by decide +kernel
theorem d_Model_allHold_86 : decode prog_12_method_37_code 86 = .ok (.iinc 3 1, 3) := by decide +kernel
theorem d_Model_allHold_89 : decode prog_12_method_37_code 89 = .ok (.goto (-85), 3) := by decide +kernel
theorem d_Model_allHold_92 : decode prog_12_method_37_code 92 = .ok (.iload_n 2, 1) := by decide +kernel
theorem d_Model_allHold_93 : decode prog_12_method_37_code 93 = .ok (.ireturn, 1) := by decide +kernel
set_option maxRecDepth 50000 in
theorem cd_Model_allHold : Cond.code y_Model_allHold prog_12_method_37_code 5 (some .boolean) ∈ TB := mem_TB 1135 rfl rfl
theorem im_Model_allHold : Cond.instanceMethod y_Model_allHold ∈ TB := mem_TB 1134 (by decide +kernel) (by decide +kernel)
theorem sl_Model_allHold : Cond.selects R_Model y_Model_allHold y_Model_allHold ∈ TB := mem_TBs (by decide +kernel) (by decide +kernel)
theorem hd_Model_allHold : y_Model_allHold.cls ≠ "java/lang/invoke/MethodHandle" ∧ y_Model_allHold.cls ≠ "java/lang/invoke/VarHandle" ∧ (parseMethodDescriptor y_Model_allHold.desc).map (fun d => d.parameters.length) = some 1 := by decide +kernel
def y_Model_keep : MethodName := ⟨R_Model, "keep", "()V"⟩
abbrev ws_Model_keep : List Cond := .code y_Model_keep prog_12_method_38_code 2 none :: TB
theorem d_Model_keep_0 : decode prog_12_method_38_code 0 = .ok (.aload_n 0, 1) := by decide +kernel
theorem d_Model_keep_1 : decode prog_12_method_38_code 1 = .ok (.aload_n 0, 1) := by decide +kernel
theorem d_Model_keep_2 : decode prog_12_method_38_code 2 = .ok (.getfield 219, 3) := by decide +kernel
theorem d_Model_keep_5 : decode prog_12_method_38_code 5 = .ok (.putfield 260, 3) := by decide +kernel
theorem d_Model_keep_8 : decode prog_12_method_38_code 8 = .ok (.iconst 0, 1) := by decide +kernel
theorem d_Model_keep_9 : decode prog_12_method_38_code 9 = .ok (.istore_n 1, 1) := by decide +kernel
theorem d_Model_keep_10 : decode prog_12_method_38_code 10 = .ok (.iload_n 1, 1) := by decide +kernel
theorem d_Model_keep_11 : decode prog_12_method_38_code 11 = .ok (.aload_n 0, 1) := by decide +kernel
theorem d_Model_keep_12 : decode prog_12_method_38_code 12 = .ok (.getfield 219, 3) := by decide +kernel
theorem d_Model_keep_15 : decode prog_12_method_38_code 15 = .ok (.if_icmp .ge 87, 3) := by decide +kernel
theorem d_Model_keep_18 : decode prog_12_method_38_code 18 = .ok (.aload_n 0, 1) := by decide +kernel
theorem d_Model_keep_19 : decode prog_12_method_38_code 19 = .ok (.getfield 109, 3) := by decide +kernel
theorem d_Model_keep_22 : decode prog_12_method_38_code 22 = .ok (.iconst 5, 1) := by decide +kernel
theorem d_Model_keep_23 : decode prog_12_method_38_code 23 = .ok (.iload_n 1, 1) := by decide +kernel
theorem d_Model_keep_24 : decode prog_12_method_38_code 24 = .ok (.imul, 1) := by decide +kernel
theorem d_Model_keep_25 : decode prog_12_method_38_code 25 = .ok (.aload_n 0, 1) := by decide +kernel
theorem d_Model_keep_26 : decode prog_12_method_38_code 26 = .ok (.getfield 94, 3) := by decide +kernel
theorem d_Model_keep_29 : decode prog_12_method_38_code 29 = .ok (.iload_n 1, 1) := by decide +kernel
theorem d_Model_keep_30 : decode prog_12_method_38_code 30 = .ok (.iaload, 1) := by decide +kernel
theorem d_Model_keep_31 : decode prog_12_method_38_code 31 = .ok (.iastore, 1) := by decide +kernel
theorem d_Model_keep_32 : decode prog_12_method_38_code 32 = .ok (.aload_n 0, 1) := by decide +kernel
theorem d_Model_keep_33 : decode prog_12_method_38_code 33 = .ok (.getfield 109, 3) := by decide +kernel
theorem d_Model_keep_36 : decode prog_12_method_38_code 36 = .ok (.iconst 5, 1) := by decide +kernel
theorem d_Model_keep_37 : decode prog_12_method_38_code 37 = .ok (.iload_n 1, 1) := by decide +kernel
theorem d_Model_keep_38 : decode prog_12_method_38_code 38 = .ok (.imul, 1) := by decide +kernel
theorem d_Model_keep_39 : decode prog_12_method_38_code 39 = .ok (.iconst 1, 1) := by decide +kernel
theorem d_Model_keep_40 : decode prog_12_method_38_code 40 = .ok (.iadd, 1) := by decide +kernel
theorem d_Model_keep_41 : decode prog_12_method_38_code 41 = .ok (.aload_n 0, 1) := by decide +kernel
theorem d_Model_keep_42 : decode prog_12_method_38_code 42 = .ok (.getfield 97, 3) := by decide +kernel
theorem d_Model_keep_45 : decode prog_12_method_38_code 45 = .ok (.iload_n 1, 1) := by decide +kernel
theorem d_Model_keep_46 : decode prog_12_method_38_code 46 = .ok (.iaload, 1) := by decide +kernel
theorem d_Model_keep_47 : decode prog_12_method_38_code 47 = .ok (.iastore, 1) := by decide +kernel
theorem d_Model_keep_48 : decode prog_12_method_38_code 48 = .ok (.aload_n 0, 1) := by decide +kernel
theorem d_Model_keep_49 : decode prog_12_method_38_code 49 = .ok (.getfield 109, 3) := by decide +kernel
theorem d_Model_keep_52 : decode prog_12_method_38_code 52 = .ok (.iconst 5, 1) := by decide +kernel
theorem d_Model_keep_53 : decode prog_12_method_38_code 53 = .ok (.iload_n 1, 1) := by decide +kernel
theorem d_Model_keep_54 : decode prog_12_method_38_code 54 = .ok (.imul, 1) := by decide +kernel
theorem d_Model_keep_55 : decode prog_12_method_38_code 55 = .ok (.iconst 2, 1) := by decide +kernel
theorem d_Model_keep_56 : decode prog_12_method_38_code 56 = .ok (.iadd, 1) := by decide +kernel
theorem d_Model_keep_57 : decode prog_12_method_38_code 57 = .ok (.aload_n 0, 1) := by decide +kernel
theorem d_Model_keep_58 : decode prog_12_method_38_code 58 = .ok (.getfield 100, 3) := by decide +kernel
theorem d_Model_keep_61 : decode prog_12_method_38_code 61 = .ok (.iload_n 1, 1) := by decide +kernel
theorem d_Model_keep_62 : decode prog_12_method_38_code 62 = .ok (.iaload, 1) := by decide +kernel
theorem d_Model_keep_63 : decode prog_12_method_38_code 63 = .ok (.iastore, 1) := by decide +kernel
theorem d_Model_keep_64 : decode prog_12_method_38_code 64 = .ok (.aload_n 0, 1) := by decide +kernel
theorem d_Model_keep_65 : decode prog_12_method_38_code 65 = .ok (.getfield 109, 3) := by decide +kernel
theorem d_Model_keep_68 : decode prog_12_method_38_code 68 = .ok (.iconst 5, 1) := by decide +kernel
theorem d_Model_keep_69 : decode prog_12_method_38_code 69 = .ok (.iload_n 1, 1) := by decide +kernel
theorem d_Model_keep_70 : decode prog_12_method_38_code 70 = .ok (.imul, 1) := by decide +kernel
theorem d_Model_keep_71 : decode prog_12_method_38_code 71 = .ok (.iconst 3, 1) := by decide +kernel
theorem d_Model_keep_72 : decode prog_12_method_38_code 72 = .ok (.iadd, 1) := by decide +kernel
theorem d_Model_keep_73 : decode prog_12_method_38_code 73 = .ok (.aload_n 0, 1) := by decide +kernel
theorem d_Model_keep_74 : decode prog_12_method_38_code 74 = .ok (.getfield 103, 3) := by decide +kernel
theorem d_Model_keep_77 : decode prog_12_method_38_code 77 = .ok (.iload_n 1, 1) := by decide +kernel
theorem d_Model_keep_78 : decode prog_12_method_38_code 78 = .ok (.iaload, 1) := by decide +kernel
theorem d_Model_keep_79 : decode prog_12_method_38_code 79 = .ok (.iastore, 1) := by decide +kernel
theorem d_Model_keep_80 : decode prog_12_method_38_code 80 = .ok (.aload_n 0, 1) := by decide +kernel
theorem d_Model_keep_81 : decode prog_12_method_38_code 81 = .ok (.getfield 109, 3) := by decide +kernel
theorem d_Model_keep_84 : decode prog_12_method_38_code 84 = .ok (.iconst 5, 1) := by decide +kernel
theorem d_Model_keep_85 : decode prog_12_method_38_code 85 = .ok (.iload_n 1, 1) := by decide +kernel
theorem d_Model_keep_86 : decode prog_12_method_38_code 86 = .ok (.imul, 1) := by decide +kernel
theorem d_Model_keep_87 : decode prog_12_method_38_code 87 = .ok (.iconst 4, 1) := by decide +kernel
theorem d_Model_keep_88 : decode prog_12_method_38_code 88 = .ok (.iadd, 1) := by decide +kernel
theorem d_Model_keep_89 : decode prog_12_method_38_code 89 = .ok (.aload_n 0, 1) := by decide +kernel
theorem d_Model_keep_90 : decode prog_12_method_38_code 90 = .ok (.getfield 106, 3) := by decide +kernel
theorem d_Model_keep_93 : decode prog_12_method_38_code 93 = .ok (.iload_n 1, 1) := by decide +kernel
theorem d_Model_keep_94 : decode prog_12_method_38_code 94 = .ok (.iaload, 1) := by decide +kernel
theorem d_Model_keep_95 : decode prog_12_method_38_code 95 = .ok (.iastore, 1) := by decide +kernel
theorem d_Model_keep_96 : decode prog_12_method_38_code 96 = .ok (.iinc 1 1, 3) := by decide +kernel
theorem d_Model_keep_99 : decode prog_12_method_38_code 99 = .ok (.goto (-89), 3) := by decide +kernel
theorem d_Model_keep_102 : decode prog_12_method_38_code 102 = .ok (.return_, 1) := by decide +kernel
set_option maxRecDepth 50000 in
theorem cd_Model_keep : Cond.code y_Model_keep prog_12_method_38_code 2 none ∈ TB := mem_TB 1147 rfl rfl
theorem im_Model_keep : Cond.instanceMethod y_Model_keep ∈ TB := mem_TB 1146 (by decide +kernel) (by decide +kernel)
theorem sl_Model_keep : Cond.selects R_Model y_Model_keep y_Model_keep ∈ TB := mem_TBs (by decide +kernel) (by decide +kernel)
theorem hd_Model_keep : y_Model_keep.cls ≠ "java/lang/invoke/MethodHandle" ∧ y_Model_keep.cls ≠ "java/lang/invoke/VarHandle" ∧ (parseMethodDescriptor y_Model_keep.desc).map (fun d => d.parameters.length) = some 0 := by decide +kernel
def y_Model_bringBack : MethodName := ⟨R_Model, "bringBack", "()V"⟩
abbrev ws_Model_bringBack : List Cond := .code y_Model_bringBack prog_12_method_39_code 2 none :: TB
theorem d_Model_bringBack_0 : decode prog_12_method_39_code 0 = .ok (.aload_n 0, 1) := by decide +kernel
theorem d_Model_bringBack_1 : decode prog_12_method_39_code 1 = .ok (.aload_n 0, 1) := by decide +kernel
theorem d_Model_bringBack_2 : decode prog_12_method_39_code 2 = .ok (.getfield 260, 3) := by decide +kernel
theorem d_Model_bringBack_5 : decode prog_12_method_39_code 5 = .ok (.putfield 219, 3) := by decide +kernel
theorem d_Model_bringBack_8 : decode prog_12_method_39_code 8 = .ok (.iconst 0, 1) := by decide +kernel
theorem d_Model_bringBack_9 : decode prog_12_method_39_code 9 = .ok (.istore_n 1, 1) := by decide +kernel
theorem d_Model_bringBack_10 : decode prog_12_method_39_code 10 = .ok (.iload_n 1, 1) := by decide +kernel
theorem d_Model_bringBack_11 : decode prog_12_method_39_code 11 = .ok (.aload_n 0, 1) := by decide +kernel
theorem d_Model_bringBack_12 : decode prog_12_method_39_code 12 = .ok (.getfield 219, 3) := by decide +kernel
theorem d_Model_bringBack_15 : decode prog_12_method_39_code 15 = .ok (.if_icmp .ge 87, 3) := by decide +kernel
theorem d_Model_bringBack_18 : decode prog_12_method_39_code 18 = .ok (.aload_n 0, 1) := by decide +kernel
theorem d_Model_bringBack_19 : decode prog_12_method_39_code 19 = .ok (.getfield 94, 3) := by decide +kernel
theorem d_Model_bringBack_22 : decode prog_12_method_39_code 22 = .ok (.iload_n 1, 1) := by decide +kernel
theorem d_Model_bringBack_23 : decode prog_12_method_39_code 23 = .ok (.aload_n 0, 1) := by decide +kernel
theorem d_Model_bringBack_24 : decode prog_12_method_39_code 24 = .ok (.getfield 109, 3) := by decide +kernel
theorem d_Model_bringBack_27 : decode prog_12_method_39_code 27 = .ok (.iconst 5, 1) := by decide +kernel
theorem d_Model_bringBack_28 : decode prog_12_method_39_code 28 = .ok (.iload_n 1, 1) := by decide +kernel
theorem d_Model_bringBack_29 : decode prog_12_method_39_code 29 = .ok (.imul, 1) := by decide +kernel
theorem d_Model_bringBack_30 : decode prog_12_method_39_code 30 = .ok (.iaload, 1) := by decide +kernel
theorem d_Model_bringBack_31 : decode prog_12_method_39_code 31 = .ok (.iastore, 1) := by decide +kernel
theorem d_Model_bringBack_32 : decode prog_12_method_39_code 32 = .ok (.aload_n 0, 1) := by decide +kernel
theorem d_Model_bringBack_33 : decode prog_12_method_39_code 33 = .ok (.getfield 97, 3) := by decide +kernel
theorem d_Model_bringBack_36 : decode prog_12_method_39_code 36 = .ok (.iload_n 1, 1) := by decide +kernel
theorem d_Model_bringBack_37 : decode prog_12_method_39_code 37 = .ok (.aload_n 0, 1) := by decide +kernel
theorem d_Model_bringBack_38 : decode prog_12_method_39_code 38 = .ok (.getfield 109, 3) := by decide +kernel
theorem d_Model_bringBack_41 : decode prog_12_method_39_code 41 = .ok (.iconst 5, 1) := by decide +kernel
theorem d_Model_bringBack_42 : decode prog_12_method_39_code 42 = .ok (.iload_n 1, 1) := by decide +kernel
theorem d_Model_bringBack_43 : decode prog_12_method_39_code 43 = .ok (.imul, 1) := by decide +kernel
theorem d_Model_bringBack_44 : decode prog_12_method_39_code 44 = .ok (.iconst 1, 1) := by decide +kernel
theorem d_Model_bringBack_45 : decode prog_12_method_39_code 45 = .ok (.iadd, 1) := by decide +kernel
theorem d_Model_bringBack_46 : decode prog_12_method_39_code 46 = .ok (.iaload, 1) := by decide +kernel
theorem d_Model_bringBack_47 : decode prog_12_method_39_code 47 = .ok (.iastore, 1) := by decide +kernel
theorem d_Model_bringBack_48 : decode prog_12_method_39_code 48 = .ok (.aload_n 0, 1) := by decide +kernel
theorem d_Model_bringBack_49 : decode prog_12_method_39_code 49 = .ok (.getfield 100, 3) := by decide +kernel
theorem d_Model_bringBack_52 : decode prog_12_method_39_code 52 = .ok (.iload_n 1, 1) := by decide +kernel
theorem d_Model_bringBack_53 : decode prog_12_method_39_code 53 = .ok (.aload_n 0, 1) := by decide +kernel
theorem d_Model_bringBack_54 : decode prog_12_method_39_code 54 = .ok (.getfield 109, 3) := by decide +kernel
theorem d_Model_bringBack_57 : decode prog_12_method_39_code 57 = .ok (.iconst 5, 1) := by decide +kernel
theorem d_Model_bringBack_58 : decode prog_12_method_39_code 58 = .ok (.iload_n 1, 1) := by decide +kernel
theorem d_Model_bringBack_59 : decode prog_12_method_39_code 59 = .ok (.imul, 1) := by decide +kernel
theorem d_Model_bringBack_60 : decode prog_12_method_39_code 60 = .ok (.iconst 2, 1) := by decide +kernel
theorem d_Model_bringBack_61 : decode prog_12_method_39_code 61 = .ok (.iadd, 1) := by decide +kernel
theorem d_Model_bringBack_62 : decode prog_12_method_39_code 62 = .ok (.iaload, 1) := by decide +kernel
theorem d_Model_bringBack_63 : decode prog_12_method_39_code 63 = .ok (.iastore, 1) := by decide +kernel
theorem d_Model_bringBack_64 : decode prog_12_method_39_code 64 = .ok (.aload_n 0, 1) := by decide +kernel
theorem d_Model_bringBack_65 : decode prog_12_method_39_code 65 = .ok (.getfield 103, 3) := by decide +kernel
theorem d_Model_bringBack_68 : decode prog_12_method_39_code 68 = .ok (.iload_n 1, 1) := by decide +kernel
theorem d_Model_bringBack_69 : decode prog_12_method_39_code 69 = .ok (.aload_n 0, 1) := by decide +kernel
theorem d_Model_bringBack_70 : decode prog_12_method_39_code 70 = .ok (.getfield 109, 3) := by decide +kernel
theorem d_Model_bringBack_73 : decode prog_12_method_39_code 73 = .ok (.iconst 5, 1) := by decide +kernel
theorem d_Model_bringBack_74 : decode prog_12_method_39_code 74 = .ok (.iload_n 1, 1) := by decide +kernel
theorem d_Model_bringBack_75 : decode prog_12_method_39_code 75 = .ok (.imul, 1) := by decide +kernel
theorem d_Model_bringBack_76 : decode prog_12_method_39_code 76 = .ok (.iconst 3, 1) := by decide +kernel
theorem d_Model_bringBack_77 : decode prog_12_method_39_code 77 = .ok (.iadd, 1) := by decide +kernel
theorem d_Model_bringBack_78 : decode prog_12_method_39_code 78 = .ok (.iaload, 1) := by decide +kernel
theorem d_Model_bringBack_79 : decode prog_12_method_39_code 79 = .ok (.iastore, 1) := by decide +kernel
theorem d_Model_bringBack_80 : decode prog_12_method_39_code 80 = .ok (.aload_n 0, 1) := by decide +kernel
theorem d_Model_bringBack_81 : decode prog_12_method_39_code 81 = .ok (.getfield 106, 3) := by decide +kernel
theorem d_Model_bringBack_84 : decode prog_12_method_39_code 84 = .ok (.iload_n 1, 1) := by decide +kernel
theorem d_Model_bringBack_85 : decode prog_12_method_39_code 85 = .ok (.aload_n 0, 1) := by decide +kernel
theorem d_Model_bringBack_86 : decode prog_12_method_39_code 86 = .ok (.getfield 109, 3) := by decide +kernel
theorem d_Model_bringBack_89 : decode prog_12_method_39_code 89 = .ok (.iconst 5, 1) := by decide +kernel
theorem d_Model_bringBack_90 : decode prog_12_method_39_code 90 = .ok (.iload_n 1, 1) := by decide +kernel
theorem d_Model_bringBack_91 : decode prog_12_method_39_code 91 = .ok (.imul, 1) := by decide +kernel
theorem d_Model_bringBack_92 : decode prog_12_method_39_code 92 = .ok (.iconst 4, 1) := by decide +kernel
theorem d_Model_bringBack_93 : decode prog_12_method_39_code 93 = .ok (.iadd, 1) := by decide +kernel
theorem d_Model_bringBack_94 : decode prog_12_method_39_code 94 = .ok (.iaload, 1) := by decide +kernel
theorem d_Model_bringBack_95 : decode prog_12_method_39_code 95 = .ok (.iastore, 1) := by decide +kernel
theorem d_Model_bringBack_96 : decode prog_12_method_39_code 96 = .ok (.iinc 1 1, 3) := by decide +kernel
theorem d_Model_bringBack_99 : decode prog_12_method_39_code 99 = .ok (.goto (-89), 3) := by decide +kernel
theorem d_Model_bringBack_102 : decode prog_12_method_39_code 102 = .ok (.return_, 1) := by decide +kernel
set_option maxRecDepth 50000 in
theorem cd_Model_bringBack : Cond.code y_Model_bringBack prog_12_method_39_code 2 none ∈ TB := mem_TB 1155 rfl rfl
theorem im_Model_bringBack : Cond.instanceMethod y_Model_bringBack ∈ TB := mem_TB 1154 (by decide +kernel) (by decide +kernel)
theorem sl_Model_bringBack : Cond.selects R_Model y_Model_bringBack y_Model_bringBack ∈ TB := mem_TBs (by decide +kernel) (by decide +kernel)
theorem hd_Model_bringBack : y_Model_bringBack.cls ≠ "java/lang/invoke/MethodHandle" ∧ y_Model_bringBack.cls ≠ "java/lang/invoke/VarHandle" ∧ (parseMethodDescriptor y_Model_bringBack.desc).map (fun d => d.parameters.length) = some 0 := by decide +kernel
def y_Model_drop : MethodName := ⟨R_Model, "drop", "(I)V"⟩
abbrev ws_Model_drop : List Cond := .code y_Model_drop prog_12_method_40_code 3 none :: TB
theorem d_Model_drop_0 : decode prog_12_method_40_code 0 = .ok (.iload_n 1, 1) := by decide +kernel
theorem d_Model_drop_1 : decode prog_12_method_40_code 1 = .ok (.iconst 1, 1) := by decide +kernel
theorem d_Model_drop_2 : decode prog_12_method_40_code 2 = .ok (.iadd, 1) := by decide +kernel
theorem d_Model_drop_3 : decode prog_12_method_40_code 3 = .ok (.istore_n 2, 1) := by decide +kernel
theorem d_Model_drop_4 : decode prog_12_method_40_code 4 = .ok (.iload_n 2, 1) := by decide +kernel
theorem d_Model_drop_5 : decode prog_12_method_40_code 5 = .ok (.aload_n 0, 1) := by decide +kernel
theorem d_Model_drop_6 : decode prog_12_method_40_code 6 = .ok (.getfield 219, 3) := by decide +kernel
theorem d_Model_drop_9 : decode prog_12_method_40_code 9 = .ok (.if_icmp .ge 79, 3) := by decide +kernel
theorem d_Model_drop_12 : decode prog_12_method_40_code 12 = .ok (.aload_n 0, 1) := by decide +kernel
theorem d_Model_drop_13 : decode prog_12_method_40_code 13 = .ok (.getfield 94, 3) := by decide +kernel
theorem d_Model_drop_16 : decode prog_12_method_40_code 16 = .ok (.iload_n 2, 1) := by decide +kernel
theorem d_Model_drop_17 : decode prog_12_method_40_code 17 = .ok (.iconst 1, 1) := by decide +kernel
theorem d_Model_drop_18 : decode prog_12_method_40_code 18 = .ok (.isub, 1) := by decide +kernel
theorem d_Model_drop_19 : decode prog_12_method_40_code 19 = .ok (.aload_n 0, 1) := by decide +kernel
theorem d_Model_drop_20 : decode prog_12_method_40_code 20 = .ok (.getfield 94, 3) := by decide +kernel
theorem d_Model_drop_23 : decode prog_12_method_40_code 23 = .ok (.iload_n 2, 1) := by decide +kernel
theorem d_Model_drop_24 : decode prog_12_method_40_code 24 = .ok (.iaload, 1) := by decide +kernel
theorem d_Model_drop_25 : decode prog_12_method_40_code 25 = .ok (.iastore, 1) := by decide +kernel
theorem d_Model_drop_26 : decode prog_12_method_40_code 26 = .ok (.aload_n 0, 1) := by decide +kernel
theorem d_Model_drop_27 : decode prog_12_method_40_code 27 = .ok (.getfield 97, 3) := by decide +kernel
theorem d_Model_drop_30 : decode prog_12_method_40_code 30 = .ok (.iload_n 2, 1) := by decide +kernel
theorem d_Model_drop_31 : decode prog_12_method_40_code 31 = .ok (.iconst 1, 1) := by decide +kernel
theorem d_Model_drop_32 : decode prog_12_method_40_code 32 = .ok (.isub, 1) := by decide +kernel
theorem d_Model_drop_33 : decode prog_12_method_40_code 33 = .ok (.aload_n 0, 1) := by decide +kernel
theorem d_Model_drop_34 : decode prog_12_method_40_code 34 = .ok (.getfield 97, 3) := by decide +kernel
theorem d_Model_drop_37 : decode prog_12_method_40_code 37 = .ok (.iload_n 2, 1) := by decide +kernel
theorem d_Model_drop_38 : decode prog_12_method_40_code 38 = .ok (.iaload, 1) := by decide +kernel
theorem d_Model_drop_39 : decode prog_12_method_40_code 39 = .ok (.iastore, 1) := by decide +kernel
theorem d_Model_drop_40 : decode prog_12_method_40_code 40 = .ok (.aload_n 0, 1) := by decide +kernel
theorem d_Model_drop_41 : decode prog_12_method_40_code 41 = .ok (.getfield 100, 3) := by decide +kernel
theorem d_Model_drop_44 : decode prog_12_method_40_code 44 = .ok (.iload_n 2, 1) := by decide +kernel
theorem d_Model_drop_45 : decode prog_12_method_40_code 45 = .ok (.iconst 1, 1) := by decide +kernel
theorem d_Model_drop_46 : decode prog_12_method_40_code 46 = .ok (.isub, 1) := by decide +kernel
theorem d_Model_drop_47 : decode prog_12_method_40_code 47 = .ok (.aload_n 0, 1) := by decide +kernel
theorem d_Model_drop_48 : decode prog_12_method_40_code 48 = .ok (.getfield 100, 3) := by decide +kernel
theorem d_Model_drop_51 : decode prog_12_method_40_code 51 = .ok (.iload_n 2, 1) := by decide +kernel
theorem d_Model_drop_52 : decode prog_12_method_40_code 52 = .ok (.iaload, 1) := by decide +kernel
theorem d_Model_drop_53 : decode prog_12_method_40_code 53 = .ok (.iastore, 1) := by decide +kernel
theorem d_Model_drop_54 : decode prog_12_method_40_code 54 = .ok (.aload_n 0, 1) := by decide +kernel
theorem d_Model_drop_55 : decode prog_12_method_40_code 55 = .ok (.getfield 103, 3) := by decide +kernel
theorem d_Model_drop_58 : decode prog_12_method_40_code 58 = .ok (.iload_n 2, 1) := by decide +kernel
theorem d_Model_drop_59 : decode prog_12_method_40_code 59 = .ok (.iconst 1, 1) := by decide +kernel
theorem d_Model_drop_60 : decode prog_12_method_40_code 60 = .ok (.isub, 1) := by decide +kernel
theorem d_Model_drop_61 : decode prog_12_method_40_code 61 = .ok (.aload_n 0, 1) := by decide +kernel
theorem d_Model_drop_62 : decode prog_12_method_40_code 62 = .ok (.getfield 103, 3) := by decide +kernel
theorem d_Model_drop_65 : decode prog_12_method_40_code 65 = .ok (.iload_n 2, 1) := by decide +kernel
theorem d_Model_drop_66 : decode prog_12_method_40_code 66 = .ok (.iaload, 1) := by decide +kernel
theorem d_Model_drop_67 : decode prog_12_method_40_code 67 = .ok (.iastore, 1) := by decide +kernel
theorem d_Model_drop_68 : decode prog_12_method_40_code 68 = .ok (.aload_n 0, 1) := by decide +kernel
theorem d_Model_drop_69 : decode prog_12_method_40_code 69 = .ok (.getfield 106, 3) := by decide +kernel
theorem d_Model_drop_72 : decode prog_12_method_40_code 72 = .ok (.iload_n 2, 1) := by decide +kernel
theorem d_Model_drop_73 : decode prog_12_method_40_code 73 = .ok (.iconst 1, 1) := by decide +kernel
theorem d_Model_drop_74 : decode prog_12_method_40_code 74 = .ok (.isub, 1) := by decide +kernel
theorem d_Model_drop_75 : decode prog_12_method_40_code 75 = .ok (.aload_n 0, 1) := by decide +kernel
theorem d_Model_drop_76 : decode prog_12_method_40_code 76 = .ok (.getfield 106, 3) := by decide +kernel
theorem d_Model_drop_79 : decode prog_12_method_40_code 79 = .ok (.iload_n 2, 1) := by decide +kernel
theorem d_Model_drop_80 : decode prog_12_method_40_code 80 = .ok (.iaload, 1) := by decide +kernel
theorem d_Model_drop_81 : decode prog_12_method_40_code 81 = .ok (.iastore, 1) := by decide +kernel
theorem d_Model_drop_82 : decode prog_12_method_40_code 82 = .ok (.iinc 2 1, 3) := by decide +kernel
theorem d_Model_drop_85 : decode prog_12_method_40_code 85 = .ok (.goto (-81), 3) := by decide +kernel
theorem d_Model_drop_88 : decode prog_12_method_40_code 88 = .ok (.aload_n 0, 1) := by decide +kernel
theorem d_Model_drop_89 : decode prog_12_method_40_code 89 = .ok (.dup, 1) := by decide +kernel
theorem d_Model_drop_90 : decode prog_12_method_40_code 90 = .ok (.getfield 219, 3) := by decide +kernel
theorem d_Model_drop_93 : decode prog_12_method_40_code 93 = .ok (.iconst 1, 1) := by decide +kernel
theorem d_Model_drop_94 : decode prog_12_method_40_code 94 = .ok (.isub, 1) := by decide +kernel
theorem d_Model_drop_95 : decode prog_12_method_40_code 95 = .ok (.putfield 219, 3) := by decide +kernel
theorem d_Model_drop_98 : decode prog_12_method_40_code 98 = .ok (.return_, 1) := by decide +kernel
set_option maxRecDepth 50000 in
theorem cd_Model_drop : Cond.code y_Model_drop prog_12_method_40_code 3 none ∈ TB := mem_TB 1163 rfl rfl
theorem im_Model_drop : Cond.instanceMethod y_Model_drop ∈ TB := mem_TB 1162 (by decide +kernel) (by decide +kernel)
theorem sl_Model_drop : Cond.selects R_Model y_Model_drop y_Model_drop ∈ TB := mem_TBs (by decide +kernel) (by decide +kernel)
theorem hd_Model_drop : y_Model_drop.cls ≠ "java/lang/invoke/MethodHandle" ∧ y_Model_drop.cls ≠ "java/lang/invoke/VarHandle" ∧ (parseMethodDescriptor y_Model_drop.desc).map (fun d => d.parameters.length) = some 1 := by decide +kernel
def y_Model_dropTooMany : MethodName := ⟨R_Model, "dropTooMany", "()V"⟩
abbrev ws_Model_dropTooMany : List Cond := .code y_Model_dropTooMany prog_12_method_41_code 3 none :: TB
theorem d_Model_dropTooMany_0 : decode prog_12_method_41_code 0 = .ok (.aload_n 0, 1) := by decide +kernel
theorem d_Model_dropTooMany_1 : decode prog_12_method_41_code 1 = .ok (.getfield 219, 3) := by decide +kernel
theorem d_Model_dropTooMany_4 : decode prog_12_method_41_code 4 = .ok (.iconst 1, 1) := by decide +kernel
theorem d_Model_dropTooMany_5 : decode prog_12_method_41_code 5 = .ok (.isub, 1) := by decide +kernel
theorem d_Model_dropTooMany_6 : decode prog_12_method_41_code 6 = .ok (.istore_n 1, 1) := by decide +kernel
theorem d_Model_dropTooMany_7 : decode prog_12_method_41_code 7 = .ok (.iload_n 1, 1) := by decide +kernel
theorem d_Model_dropTooMany_8 : decode prog_12_method_41_code 8 = .ok (.ifCond .lt 44, 3) := by decide +kernel
theorem d_Model_dropTooMany_11 : decode prog_12_method_41_code 11 = .ok (.aload_n 0, 1) := by decide +kernel
theorem d_Model_dropTooMany_12 : decode prog_12_method_41_code 12 = .ok (.getfield 106, 3) := by decide +kernel
theorem d_Model_dropTooMany_15 : decode prog_12_method_41_code 15 = .ok (.iload_n 1, 1) := by decide +kernel
theorem d_Model_dropTooMany_16 : decode prog_12_method_41_code 16 = .ok (.iaload, 1) := by decide +kernel
theorem d_Model_dropTooMany_17 : decode prog_12_method_41_code 17 = .ok (.istore_n 2, 1) := by decide +kernel
theorem d_Model_dropTooMany_18 : decode prog_12_method_41_code 18 = .ok (.aload_n 0, 1) := by decide +kernel
theorem d_Model_dropTooMany_19 : decode prog_12_method_41_code 19 = .ok (.getfield 45, 3) := by decide +kernel
theorem d_Model_dropTooMany_22 : decode prog_12_method_41_code 22 = .ok (.iload_n 2, 1) := by decide +kernel
theorem d_Model_dropTooMany_23 : decode prog_12_method_41_code 23 = .ok (.iaload, 1) := by decide +kernel
theorem d_Model_dropTooMany_24 : decode prog_12_method_41_code 24 = .ok (.ifCond .lt 22, 3) := by decide +kernel
theorem d_Model_dropTooMany_27 : decode prog_12_method_41_code 27 = .ok (.aload_n 0, 1) := by decide +kernel
theorem d_Model_dropTooMany_28 : decode prog_12_method_41_code 28 = .ok (.iload_n 2, 1) := by decide +kernel
theorem d_Model_dropTooMany_29 : decode prog_12_method_41_code 29 = .ok (.invokevirtual 257, 3) := by decide +kernel
theorem d_Model_dropTooMany_32 : decode prog_12_method_41_code 32 = .ok (.aload_n 0, 1) := by decide +kernel
theorem d_Model_dropTooMany_33 : decode prog_12_method_41_code 33 = .ok (.getfield 45, 3) := by decide +kernel
theorem d_Model_dropTooMany_36 : decode prog_12_method_41_code 36 = .ok (.iload_n 2, 1) := by decide +kernel
theorem d_Model_dropTooMany_37 : decode prog_12_method_41_code 37 = .ok (.iaload, 1) := by decide +kernel
theorem d_Model_dropTooMany_38 : decode prog_12_method_41_code 38 = .ok (.if_icmp .le 8, 3) := by decide +kernel
theorem d_Model_dropTooMany_41 : decode prog_12_method_41_code 41 = .ok (.aload_n 0, 1) := by decide +kernel
theorem d_Model_dropTooMany_42 : decode prog_12_method_41_code 42 = .ok (.iload_n 1, 1) := by decide +kernel
theorem d_Model_dropTooMany_43 : decode prog_12_method_41_code 43 = .ok (.invokevirtual 263, 3) := by decide +kernel
theorem d_Model_dropTooMany_46 : decode prog_12_method_41_code 46 = .ok (.iinc 1 (-1), 3) := by decide +kernel
theorem d_Model_dropTooMany_49 : decode prog_12_method_41_code 49 = .ok (.goto (-42), 3) := by decide +kernel
theorem d_Model_dropTooMany_52 : decode prog_12_method_41_code 52 = .ok (.return_, 1) := by decide +kernel
set_option maxRecDepth 50000 in
theorem cd_Model_dropTooMany : Cond.code y_Model_dropTooMany prog_12_method_41_code 3 none ∈ TB := mem_TB 1159 rfl rfl
theorem im_Model_dropTooMany : Cond.instanceMethod y_Model_dropTooMany ∈ TB := mem_TB 1158 (by decide +kernel) (by decide +kernel)
theorem sl_Model_dropTooMany : Cond.selects R_Model y_Model_dropTooMany y_Model_dropTooMany ∈ TB := mem_TBs (by decide +kernel) (by decide +kernel)
theorem hd_Model_dropTooMany : y_Model_dropTooMany.cls ≠ "java/lang/invoke/MethodHandle" ∧ y_Model_dropTooMany.cls ≠ "java/lang/invoke/VarHandle" ∧ (parseMethodDescriptor y_Model_dropTooMany.desc).map (fun d => d.parameters.length) = some 0 := by decide +kernel
def y_Model_setPrices : MethodName := ⟨R_Model, "setPrices", "(I)V"⟩
abbrev ws_Model_setPrices : List Cond := .code y_Model_setPrices prog_12_method_42_code 7 none :: TB
theorem d_Model_setPrices_0 : decode prog_12_method_42_code 0 = .ok (.sipush 256, 3) := by decide +kernel
theorem d_Model_setPrices_3 : decode prog_12_method_42_code 3 = .ok (.iload_n 1, 1) := by decide +kernel
theorem d_Model_setPrices_4 : decode prog_12_method_42_code 4 = .ok (.idiv, 1) := by decide +kernel
theorem d_Model_setPrices_5 : decode prog_12_method_42_code 5 = .ok (.iconst 1, 1) := by decide +kernel
theorem d_Model_setPrices_6 : decode prog_12_method_42_code 6 = .ok (.if_icmp .le 12, 3) := by decide +kernel
theorem d_Model_setPrices_9 : decode prog_12_method_42_code 9 = .ok (.sipush 256, 3) := by decide +kernel
theorem d_Model_setPrices_12 : decode prog_12_method_42_code 12 = .ok (.iload_n 1, 1) := by decide +kernel
theorem d_Model_setPrices_13 : decode prog_12_method_42_code 13 = .ok (.idiv, 1) := by decide +kernel
theorem d_Model_setPrices_14 : decode prog_12_method_42_code 14 = .ok (.i2l, 1) := by decide +kernel
theorem d_Model_setPrices_15 : decode prog_12_method_42_code 15 = .ok (.goto 4, 3) := by decide +kernel
theorem d_Model_setPrices_18 : decode prog_12_method_42_code 18 = .ok (.lconst 1, 1) := by decide +kernel
theorem d_Model_setPrices_19 : decode prog_12_method_42_code 19 = .ok (.lstore_n 2, 1) := by decide +kernel
theorem d_Model_setPrices_20 : decode prog_12_method_42_code 20 = .ok (.iconst 0, 1) := by decide +kernel
theorem d_Model_setPrices_21 : decode prog_12_method_42_code 21 = .ok (.istore 4, 2) := by decide +kernel
theorem d_Model_setPrices_23 : decode prog_12_method_42_code 23 = .ok (.iload 4, 2) := by decide +kernel
theorem d_Model_setPrices_25 : decode prog_12_method_42_code 25 = .ok (.aload_n 0, 1) := by decide +kernel
theorem d_Model_setPrices_26 : decode prog_12_method_42_code 26 = .ok (.getfield 158, 3) := by decide +kernel
theorem d_Model_setPrices_29 : decode prog_12_method_42_code 29 = .ok (.if_icmp .ge 80, 3) := by decide +kernel
theorem d_Model_setPrices_32 : decode prog_12_method_42_code 32 = .ok (.aload_n 0, 1) := by decide +kernel
theorem d_Model_setPrices_33 : decode prog_12_method_42_code 33 = .ok (.getfield 51, 3) := by decide +kernel
theorem d_Model_setPrices_36 : decode prog_12_method_42_code 36 = .ok (.iload 4, 2) := by decide +kernel
theorem d_Model_setPrices_38 : decode prog_12_method_42_code 38 = .ok (.aload_n 0, 1) := by decide +kernel
theorem d_Model_setPrices_39 : decode prog_12_method_42_code 39 = .ok (.getfield 48, 3) := by decide +kernel
theorem d_Model_setPrices_42 : decode prog_12_method_42_code 42 = .ok (.iload 4, 2) := by decide +kernel
theorem d_Model_setPrices_44 : decode prog_12_method_42_code 44 = .ok (.laload, 1) := by decide +kernel
theorem d_Model_setPrices_45 : decode prog_12_method_42_code 45 = .ok (.lastore, 1) := by decide +kernel
theorem d_Model_setPrices_46 : decode prog_12_method_42_code 46 = .ok (.aload_n 0, 1) := by decide +kernel
theorem d_Model_setPrices_47 : decode prog_12_method_42_code 47 = .ok (.getfield 48, 3) := by decide +kernel
theorem d_Model_setPrices_50 : decode prog_12_method_42_code 50 = .ok (.iload 4, 2) := by decide +kernel
theorem d_Model_setPrices_52 : decode prog_12_method_42_code 52 = .ok (.laload, 1) := by decide +kernel
theorem d_Model_setPrices_53 : decode prog_12_method_42_code 53 = .ok (.aload_n 0, 1) := by decide +kernel
theorem d_Model_setPrices_54 : decode prog_12_method_42_code 54 = .ok (.iload 4, 2) := by decide +kernel
theorem d_Model_setPrices_56 : decode prog_12_method_42_code 56 = .ok (.invokevirtual 257, 3) := by decide +kernel
theorem d_Model_setPrices_59 : decode prog_12_method_42_code 59 = .ok (.aload_n 0, 1) := by decide +kernel
theorem d_Model_setPrices_60 : decode prog_12_method_42_code 60 = .ok (.getfield 45, 3) := by decide +kernel
theorem d_Model_setPrices_63 : decode prog_12_method_42_code 63 = .ok (.iload 4, 2) := by decide +kernel
theorem d_Model_setPrices_65 : decode prog_12_method_42_code 65 = .ok (.iaload, 1) := by decide +kernel
theorem d_Model_setPrices_66 : decode prog_12_method_42_code 66 = .ok (.isub, 1) := by decide +kernel
theorem d_Model_setPrices_67 : decode prog_12_method_42_code 67 = .ok (.i2l, 1) := by decide +kernel
theorem d_Model_setPrices_68 : decode prog_12_method_42_code 68 = .ok (.lload_n 2, 1) := by decide +kernel
theorem d_Model_setPrices_69 : decode prog_12_method_42_code 69 = .ok (.lmul, 1) := by decide +kernel
theorem d_Model_setPrices_70 : decode prog_12_method_42_code 70 = .ok (.ladd, 1) := by decide +kernel
theorem d_Model_setPrices_71 : decode prog_12_method_42_code 71 = .ok (.lstore 5, 2) := by decide +kernel
theorem d_Model_setPrices_73 : decode prog_12_method_42_code 73 = .ok (.aload_n 0, 1) := by decide +kernel
theorem d_Model_setPrices_74 : decode prog_12_method_42_code 74 = .ok (.getfield 48, 3) := by decide +kernel
theorem d_Model_setPrices_77 : decode prog_12_method_42_code 77 = .ok (.iload 4, 2) := by decide +kernel
theorem d_Model_setPrices_79 : decode prog_12_method_42_code 79 = .ok (.aload_n 0, 1) := by decide +kernel
theorem d_Model_setPrices_80 : decode prog_12_method_42_code 80 = .ok (.getfield 45, 3) := by decide +kernel
theorem d_Model_setPrices_83 : decode prog_12_method_42_code 83 = .ok (.iload 4, 2) := by decide +kernel
theorem d_Model_setPrices_85 : decode prog_12_method_42_code 85 = .ok (.iaload, 1) := by decide +kernel
theorem d_Model_setPrices_86 : decode prog_12_method_42_code 86 = .ok (.ifCond .lt 10, 3) := by decide +kernel
theorem d_Model_setPrices_89 : decode prog_12_method_42_code 89 = .ok (.lload 5, 2) := by decide +kernel
theorem d_Model_setPrices_91 : decode prog_12_method_42_code 91 = .ok (.lconst 0, 1) := by decide +kernel
theorem d_Model_setPrices_92 : decode prog_12_method_42_code 92 = .ok (.lcmp, 1) := by decide +kernel
theorem d_Model_setPrices_93 : decode prog_12_method_42_code 93 = .ok (.ifCond .ge 7, 3) := by decide +kernel
theorem d_Model_setPrices_96 : decode prog_12_method_42_code 96 = .ok (.lconst 0, 1) := by decide +kernel
theorem d_Model_setPrices_97 : decode prog_12_method_42_code 97 = .ok (.goto 5, 3) := by decide +kernel
theorem d_Model_setPrices_100 : decode prog_12_method_42_code 100 = .ok (.lload 5, 2) := by decide +kernel
theorem d_Model_setPrices_102 : decode prog_12_method_42_code 102 = .ok (.lastore, 1) := by decide +kernel
theorem d_Model_setPrices_103 : decode prog_12_method_42_code 103 = .ok (.iinc 4 1, 3) := by decide +kernel
theorem d_Model_setPrices_106 : decode prog_12_method_42_code 106 = .ok (.goto (-83), 3) := by decide +kernel
theorem d_Model_setPrices_109 : decode prog_12_method_42_code 109 = .ok (.return_, 1) := by decide +kernel
set_option maxRecDepth 50000 in
theorem cd_Model_setPrices : Cond.code y_Model_setPrices prog_12_method_42_code 7 none ∈ TB := mem_TB 1151 rfl rfl
theorem im_Model_setPrices : Cond.instanceMethod y_Model_setPrices ∈ TB := mem_TB 1150 (by decide +kernel) (by decide +kernel)
theorem sl_Model_setPrices : Cond.selects R_Model y_Model_setPrices y_Model_setPrices ∈ TB := mem_TBs (by decide +kernel) (by decide +kernel)
theorem hd_Model_setPrices : y_Model_setPrices.cls ≠ "java/lang/invoke/MethodHandle" ∧ y_Model_setPrices.cls ≠ "java/lang/invoke/VarHandle" ∧ (parseMethodDescriptor y_Model_setPrices.desc).map (fun d => d.parameters.length) = some 1 := by decide +kernel
def y_Model_prices : MethodName := ⟨R_Model, "prices", "(I)I"⟩
abbrev ws_Model_prices : List Cond := .code y_Model_prices prog_12_method_43_code 10 (some .int) :: TB
theorem d_Model_prices_0 : decode prog_12_method_43_code 0 = .ok (.aload_n 0, 1) := by decide +kernel
theorem d_Model_prices_1 : decode prog_12_method_43_code 1 = .ok (.iload_n 1, 1) := by decide +kernel
theorem d_Model_prices_2 : decode prog_12_method_43_code 2 = .ok (.i2l, 1) := by decide +kernel
theorem d_Model_prices_3 : decode prog_12_method_43_code 3 = .ok (.lconst 1, 1) := by decide +kernel
theorem d_Model_prices_4 : decode prog_12_method_43_code 4 = .ok (.ldc2_w 267, 3) := by decide +kernel
theorem d_Model_prices_7 : decode prog_12_method_43_code 7 = .ok (.invokestatic 141, 3) := by decide +kernel
theorem d_Model_prices_10 : decode prog_12_method_43_code 10 = .ok (.ifCond .eq 7, 3) := by decide +kernel
theorem d_Model_prices_13 : decode prog_12_method_43_code 13 = .ok (.iconst 0, 1) := by decide +kernel
theorem d_Model_prices_14 : decode prog_12_method_43_code 14 = .ok (.goto 4, 3) := by decide +kernel
theorem d_Model_prices_17 : decode prog_12_method_43_code 17 = .ok (.iconst 1, 1) := by decide +kernel
theorem d_Model_prices_18 : decode prog_12_method_43_code 18 = .ok (.putfield 132, 3) := by decide +kernel
theorem d_Model_prices_21 : decode prog_12_method_43_code 21 = .ok (.aload_n 0, 1) := by decide +kernel
theorem d_Model_prices_22 : decode prog_12_method_43_code 22 = .ok (.getfield 132, 3) := by decide +kernel
theorem d_Model_prices_25 : decode prog_12_method_43_code 25 = .ok (.ifCond .le 5, 3) := by decide +kernel
theorem d_Model_prices_28 : decode prog_12_method_43_code 28 = .ok (.iconst 0, 1) := by decide +kernel
theorem d_Model_prices_29 : decode prog_12_method_43_code 29 = .ok (.ireturn, 1) := by decide +kernel
theorem d_Model_prices_30 : decode prog_12_method_43_code 30 = .ok (.iconst 0, 1) := by decide +kernel
theorem d_Model_prices_31 : decode prog_12_method_43_code 31 = .ok (.istore_n 2, 1) := by decide +kernel
theorem d_Model_prices_32 : decode prog_12_method_43_code 32 = .ok (.iload_n 2, 1) := by decide +kernel
theorem d_Model_prices_33 : decode prog_12_method_43_code 33 = .ok (.bipush 8, 2) := by decide +kernel
theorem d_Model_prices_35 : decode prog_12_method_43_code 35 = .ok (.if_icmp .ge 16, 3) := by decide +kernel
theorem d_Model_prices_38 : decode prog_12_method_43_code 38 = .ok (.aload_n 0, 1) := by decide +kernel
theorem d_Model_prices_39 : decode prog_12_method_43_code 39 = .ok (.getfield 48, 3) := by decide +kernel
theorem d_Model_prices_42 : decode prog_12_method_43_code 42 = .ok (.iload_n 2, 1) := by decide +kernel
theorem d_Model_prices_43 : decode prog_12_method_43_code 43 = .ok (.lconst 0, 1) := by decide +kernel
theorem d_Model_prices_44 : decode prog_12_method_43_code 44 = .ok (.lastore, 1) := by decide +kernel
theorem d_Model_prices_45 : decode prog_12_method_43_code 45 = .ok (.iinc 2 1, 3) := by decide +kernel
theorem d_Model_prices_48 : decode prog_12_method_43_code 48 = .ok (.goto (-16), 3) := by decide +kernel
theorem d_Model_prices_51 : decode prog_12_method_43_code 51 = .ok (.iconst 0, 1) := by decide +kernel
theorem d_Model_prices_52 : decode prog_12_method_43_code 52 = .ok (.istore_n 2, 1) := by decide +kernel
theorem d_Model_prices_53 : decode prog_12_method_43_code 53 = .ok (.iconst 0, 1) := by decide +kernel
theorem d_Model_prices_54 : decode prog_12_method_43_code 54 = .ok (.istore_n 3, 1) := by decide +kernel
theorem d_Model_prices_55 : decode prog_12_method_43_code 55 = .ok (.lconst 0, 1) := by decide +kernel
theorem d_Model_prices_56 : decode prog_12_method_43_code 56 = .ok (.lstore 4, 2) := by decide +kernel
theorem d_Model_prices_58 : decode prog_12_method_43_code 58 = .ok (.iconst 0, 1) := by decide +kernel
theorem d_Model_prices_59 : decode prog_12_method_43_code 59 = .ok (.istore 6, 2) := by decide +kernel
theorem d_Model_prices_61 : decode prog_12_method_43_code 61 = .ok (.iload 6, 2) := by decide +kernel
theorem d_Model_prices_63 : decode prog_12_method_43_code 63 = .ok (.iload_n 1, 1) := by decide +kernel
theorem d_Model_prices_64 : decode prog_12_method_43_code 64 = .ok (.if_icmp .ge 147, 3) := by decide +kernel
theorem d_Model_prices_67 : decode prog_12_method_43_code 67 = .ok (.iload_n 3, 1) := by decide +kernel
theorem d_Model_prices_68 : decode prog_12_method_43_code 68 = .ok (.ifCond .ne 143, 3) := by decide +kernel
theorem d_Model_prices_71 : decode prog_12_method_43_code 71 = .ok (.iinc 6 1, 3) := by decide +kernel
theorem d_Model_prices_74 : decode prog_12_method_43_code 74 = .ok (.aload_n 0, 1) := by decide +kernel
theorem d_Model_prices_75 : decode prog_12_method_43_code 75 = .ok (.invokevirtual 249, 3) := by decide +kernel
theorem d_Model_prices_78 : decode prog_12_method_43_code 78 = .ok (.lstore 7, 2) := by decide +kernel
theorem d_Model_prices_80 : decode prog_12_method_43_code 80 = .ok (.iconst 0, 1) := by decide +kernel
theorem d_Model_prices_81 : decode prog_12_method_43_code 81 = .ok (.istore 9, 2) := by decide +kernel
theorem d_Model_prices_83 : decode prog_12_method_43_code 83 = .ok (.iload 9, 2) := by decide +kernel
theorem d_Model_prices_85 : decode prog_12_method_43_code 85 = .ok (.aload_n 0, 1) := by decide +kernel
theorem d_Model_prices_86 : decode prog_12_method_43_code 86 = .ok (.getfield 158, 3) := by decide +kernel
theorem d_Model_prices_89 : decode prog_12_method_43_code 89 = .ok (.if_icmp .ge 44, 3) := by decide +kernel
theorem d_Model_prices_92 : decode prog_12_method_43_code 92 = .ok (.lload 7, 2) := by decide +kernel
theorem d_Model_prices_94 : decode prog_12_method_43_code 94 = .ok (.aload_n 0, 1) := by decide +kernel
theorem d_Model_prices_95 : decode prog_12_method_43_code 95 = .ok (.getfield 45, 3) := by decide +kernel
theorem d_Model_prices_98 : decode prog_12_method_43_code 98 = .ok (.iload 9, 2) := by decide +kernel
theorem d_Model_prices_100 : decode prog_12_method_43_code 100 = .ok (.iaload, 1) := by decide +kernel
theorem d_Model_prices_101 : decode prog_12_method_43_code 101 = .ok (.ifCond .ge 7, 3) := by decide +kernel
theorem d_Model_prices_104 : decode prog_12_method_43_code 104 = .ok (.lconst 0, 1) := by decide +kernel
theorem d_Model_prices_105 : decode prog_12_method_43_code 105 = .ok (.goto 19, 3) := by decide +kernel
theorem d_Model_prices_108 : decode prog_12_method_43_code 108 = .ok (.aload_n 0, 1) := by decide +kernel
theorem d_Model_prices_109 : decode prog_12_method_43_code 109 = .ok (.getfield 48, 3) := by decide +kernel
theorem d_Model_prices_112 : decode prog_12_method_43_code 112 = .ok (.iload 9, 2) := by decide +kernel
theorem d_Model_prices_114 : decode prog_12_method_43_code 114 = .ok (.laload, 1) := by decide +kernel
theorem d_Model_prices_115 : decode prog_12_method_43_code 115 = .ok (.aload_n 0, 1) := by decide +kernel
theorem d_Model_prices_116 : decode prog_12_method_43_code 116 = .ok (.getfield 45, 3) := by decide +kernel
theorem d_Model_prices_119 : decode prog_12_method_43_code 119 = .ok (.iload 9, 2) := by decide +kernel
theorem d_Model_prices_121 : decode prog_12_method_43_code 121 = .ok (.iaload, 1) := by decide +kernel
theorem d_Model_prices_122 : decode prog_12_method_43_code 122 = .ok (.i2l, 1) := by decide +kernel
theorem d_Model_prices_123 : decode prog_12_method_43_code 123 = .ok (.lmul, 1) := by decide +kernel
theorem d_Model_prices_124 : decode prog_12_method_43_code 124 = .ok (.ladd, 1) := by decide +kernel
theorem d_Model_prices_125 : decode prog_12_method_43_code 125 = .ok (.lstore 7, 2) := by decide +kernel
theorem d_Model_prices_127 : decode prog_12_method_43_code 127 = .ok (.iinc 9 1, 3) := by decide +kernel
theorem d_Model_prices_130 : decode prog_12_method_43_code 130 = .ok (.goto (-47), 3) := by decide +kernel
theorem d_Model_prices_133 : decode prog_12_method_43_code 133 = .ok (.aload_n 0, 1) := by decide +kernel
theorem d_Model_prices_134 : decode prog_12_method_43_code 134 = .ok (.iload 6, 2) := by decide +kernel
theorem d_Model_prices_136 : decode prog_12_method_43_code 136 = .ok (.iconst 1, 1) := by decide +kernel
theorem d_Model_prices_137 : decode prog_12_method_43_code 137 = .ok (.if_icmp .eq 13, 3) := by decide +kernel
theorem d_Model_prices_140 : decode prog_12_method_43_code 140 = .ok (.lload 7, 2) := by decide +kernel
theorem d_Model_prices_142 : decode prog_12_method_43_code 142 = .ok (.aload_n 0, 1) := by decide +kernel
theorem d_Model_prices_143 : decode prog_12_method_43_code 143 = .ok (.getfield 253, 3) := by decide +kernel
theorem d_Model_prices_146 : decode prog_12_method_43_code 146 = .ok (.lcmp, 1) := by decide +kernel
theorem d_Model_prices_147 : decode prog_12_method_43_code 147 = .ok (.ifCond .ge 8, 3) := by decide +kernel
theorem d_Model_prices_150 : decode prog_12_method_43_code 150 = .ok (.lload 7, 2) := by decide +kernel
theorem d_Model_prices_152 : decode prog_12_method_43_code 152 = .ok (.goto 7, 3) := by decide +kernel
theorem d_Model_prices_155 : decode prog_12_method_43_code 155 = .ok (.aload_n 0, 1) := by decide +kernel
theorem d_Model_prices_156 : decode prog_12_method_43_code 156 = .ok (.getfield 253, 3) := by decide +kernel
theorem d_Model_prices_159 : decode prog_12_method_43_code 159 = .ok (.putfield 253, 3) := by decide +kernel
theorem d_Model_prices_162 : decode prog_12_method_43_code 162 = .ok (.aload_n 0, 1) := by decide +kernel
theorem d_Model_prices_163 : decode prog_12_method_43_code 163 = .ok (.iconst 0, 1) := by decide +kernel
theorem d_Model_prices_164 : decode prog_12_method_43_code 164 = .ok (.invokevirtual 269, 3) := by decide +kernel
theorem d_Model_prices_167 : decode prog_12_method_43_code 167 = .ok (.ifCond .eq 29, 3) := by decide +kernel
theorem d_Model_prices_170 : decode prog_12_method_43_code 170 = .ok (.iload_n 2, 1) := by decide +kernel
theorem d_Model_prices_171 : decode prog_12_method_43_code 171 = .ok (.ifCond .eq 13, 3) := by decide +kernel
theorem d_Model_prices_174 : decode prog_12_method_43_code 174 = .ok (.aload_n 0, 1) := by decide +kernel
theorem d_Model_prices_175 : decode prog_12_method_43_code 175 = .ok (.invokevirtual 272, 3) := by decide +kernel
theorem d_Model_prices_178 : decode prog_12_method_43_code 178 = .ok (.lload 4, 2) := by decide +kernel
theorem d_Model_prices_180 : decode prog_12_method_43_code 180 = .ok (.lcmp, 1) := by decide +kernel
theorem d_Model_prices_181 : decode prog_12_method_43_code 181 = .ok (.ifCond .le 15, 3) := by decide +kernel
theorem d_Model_prices_184 : decode prog_12_method_43_code 184 = .ok (.iconst 1, 1) := by decide +kernel
theorem d_Model_prices_185 : decode prog_12_method_43_code 185 = .ok (.istore_n 2, 1) := by decide +kernel
theorem d_Model_prices_186 : decode prog_12_method_43_code 186 = .ok (.aload_n 0, 1) := by decide +kernel
theorem d_Model_prices_187 : decode prog_12_method_43_code 187 = .ok (.invokevirtual 272, 3) := by decide +kernel
theorem d_Model_prices_190 : decode prog_12_method_43_code 190 = .ok (.lstore 4, 2) := by decide +kernel
theorem d_Model_prices_192 : decode prog_12_method_43_code 192 = .ok (.aload_n 0, 1) := by decide +kernel
theorem d_Model_prices_193 : decode prog_12_method_43_code 193 = .ok (.invokevirtual 275, 3) := by decide +kernel
theorem d_Model_prices_196 : decode prog_12_method_43_code 196 = .ok (.aload_n 0, 1) := by decide +kernel
theorem d_Model_prices_197 : decode prog_12_method_43_code 197 = .ok (.iconst 1, 1) := by decide +kernel
theorem d_Model_prices_198 : decode prog_12_method_43_code 198 = .ok (.invokevirtual 269, 3) := by decide +kernel
theorem d_Model_prices_201 : decode prog_12_method_43_code 201 = .ok (.istore_n 3, 1) := by decide +kernel
theorem d_Model_prices_202 : decode prog_12_method_43_code 202 = .ok (.aload_n 0, 1) := by decide +kernel
theorem d_Model_prices_203 : decode prog_12_method_43_code 203 = .ok (.iload 6, 2) := by decide +kernel
theorem d_Model_prices_205 : decode prog_12_method_43_code 205 = .ok (.invokevirtual 278, 3) := by decide +kernel
theorem d_Model_prices_208 : decode prog_12_method_43_code 208 = .ok (.goto (-147), 3) := by decide +kernel
theorem d_Model_prices_211 : decode prog_12_method_43_code 211 = .ok (.iload_n 2, 1) := by decide +kernel
theorem d_Model_prices_212 : decode prog_12_method_43_code 212 = .ok (.ifCond .eq 10, 3) := by decide +kernel
theorem d_Model_prices_215 : decode prog_12_method_43_code 215 = .ok (.aload_n 0, 1) := by decide +kernel
theorem d_Model_prices_216 : decode prog_12_method_43_code 216 = .ok (.invokevirtual 281, 3) := by decide +kernel
theorem d_Model_prices_219 : decode prog_12_method_43_code 219 = .ok (.goto 7, 3) := by decide +kernel
theorem d_Model_prices_222 : decode prog_12_method_43_code 222 = .ok (.aload_n 0, 1) := by decide +kernel
theorem d_Model_prices_223 : decode prog_12_method_43_code 223 = .ok (.invokevirtual 284, 3) := by decide +kernel
theorem d_Model_prices_226 : decode prog_12_method_43_code 226 = .ok (.aload_n 0, 1) := by decide +kernel
theorem d_Model_prices_227 : decode prog_12_method_43_code 227 = .ok (.iconst 1, 1) := by decide +kernel
theorem d_Model_prices_228 : decode prog_12_method_43_code 228 = .ok (.putfield 135, 3) := by decide +kernel
theorem d_Model_prices_231 : decode prog_12_method_43_code 231 = .ok (.iload 6, 2) := by decide +kernel
theorem d_Model_prices_233 : decode prog_12_method_43_code 233 = .ok (.ireturn, 1) := by decide +kernel
set_option maxRecDepth 50000 in
theorem cd_Model_prices : Cond.code y_Model_prices prog_12_method_43_code 10 (some .int) ∈ TB := mem_TB 1130 rfl rfl
theorem im_Model_prices : Cond.instanceMethod y_Model_prices ∈ TB := mem_TB 1128 (by decide +kernel) (by decide +kernel)
theorem sl_Model_prices : Cond.selects R_Model y_Model_prices y_Model_prices ∈ TB := mem_TB 1129 (by decide +kernel) (by decide +kernel)
theorem hd_Model_prices : y_Model_prices.cls ≠ "java/lang/invoke/MethodHandle" ∧ y_Model_prices.cls ≠ "java/lang/invoke/VarHandle" ∧ (parseMethodDescriptor y_Model_prices.desc).map (fun d => d.parameters.length) = some 1 := by decide +kernel
def y_Model_none : MethodName := ⟨R_Model, "none", "()Z"⟩
abbrev ws_Model_none : List Cond := .code y_Model_none prog_12_method_44_code 1 (some .boolean) :: TB
theorem d_Model_none_0 : decode prog_12_method_44_code 0 = .ok (.aload_n 0, 1) := by decide +kernel
theorem d_Model_none_1 : decode prog_12_method_44_code 1 = .ok (.aload_n 0, 1) := by decide +kernel
theorem d_Model_none_2 : decode prog_12_method_44_code 2 = .ok (.getfield 135, 3) := by decide +kernel
theorem d_Model_none_5 : decode prog_12_method_44_code 5 = .ok (.ifCond .eq 7, 3) := by decide +kernel
theorem d_Model_none_8 : decode prog_12_method_44_code 8 = .ok (.iconst 0, 1) := by decide +kernel
theorem d_Model_none_9 : decode prog_12_method_44_code 9 = .ok (.goto 4, 3) := by decide +kernel
theorem d_Model_none_12 : decode prog_12_method_44_code 12 = .ok (.iconst 1, 1) := by decide +kernel
theorem d_Model_none_13 : decode prog_12_method_44_code 13 = .ok (.putfield 132, 3) := by decide +kernel
theorem d_Model_none_16 : decode prog_12_method_44_code 16 = .ok (.aload_n 0, 1) := by decide +kernel
theorem d_Model_none_17 : decode prog_12_method_44_code 17 = .ok (.getfield 132, 3) := by decide +kernel
theorem d_Model_none_20 : decode prog_12_method_44_code 20 = .ok (.ifCond .le 7, 3) := by decide +kernel
theorem d_Model_none_23 : decode prog_12_method_44_code 23 = .ok (.iconst 1, 1) := by decide +kernel
theorem d_Model_none_24 : decode prog_12_method_44_code 24 = .ok (.goto 4, 3) := by decide +kernel
theorem d_Model_none_27 : decode prog_12_method_44_code 27 = .ok (.iconst 0, 1) := by decide +kernel
theorem d_Model_none_28 : decode prog_12_method_44_code 28 = .ok (.ireturn, 1) := by decide +kernel
set_option maxRecDepth 50000 in
theorem cd_Model_none : Cond.code y_Model_none prog_12_method_44_code 1 (some .boolean) ∈ TB := mem_TB 1171 rfl rfl
theorem im_Model_none : Cond.instanceMethod y_Model_none ∈ TB := mem_TB 1170 (by decide +kernel) (by decide +kernel)
theorem sl_Model_none : Cond.selects R_Model y_Model_none y_Model_none ∈ TB := mem_TBs (by decide +kernel) (by decide +kernel)
theorem hd_Model_none : y_Model_none.cls ≠ "java/lang/invoke/MethodHandle" ∧ y_Model_none.cls ≠ "java/lang/invoke/VarHandle" ∧ (parseMethodDescriptor y_Model_none.desc).map (fun d => d.parameters.length) = some 0 := by decide +kernel
def y_Model_worth : MethodName := ⟨R_Model, "worth", "()J"⟩
abbrev ws_Model_worth : List Cond := .code y_Model_worth prog_12_method_45_code 1 (some .long) :: TB
theorem d_Model_worth_0 : decode prog_12_method_45_code 0 = .ok (.aload_n 0, 1) := by decide +kernel
theorem d_Model_worth_1 : decode prog_12_method_45_code 1 = .ok (.invokevirtual 287, 3) := by decide +kernel
theorem d_Model_worth_4 : decode prog_12_method_45_code 4 = .ok (.ifCond .eq 7, 3) := by decide +kernel
theorem d_Model_worth_7 : decode prog_12_method_45_code 7 = .ok (.lconst 0, 1) := by decide +kernel
theorem d_Model_worth_8 : decode prog_12_method_45_code 8 = .ok (.goto 7, 3) := by decide +kernel
theorem d_Model_worth_11 : decode prog_12_method_45_code 11 = .ok (.aload_n 0, 1) := by decide +kernel
theorem d_Model_worth_12 : decode prog_12_method_45_code 12 = .ok (.invokevirtual 272, 3) := by decide +kernel
theorem d_Model_worth_15 : decode prog_12_method_45_code 15 = .ok (.lreturn, 1) := by decide +kernel
set_option maxRecDepth 50000 in
theorem cd_Model_worth : Cond.code y_Model_worth prog_12_method_45_code 1 (some .long) ∈ TB := mem_TB 1167 rfl rfl
theorem im_Model_worth : Cond.instanceMethod y_Model_worth ∈ TB := mem_TB 1165 (by decide +kernel) (by decide +kernel)
theorem sl_Model_worth : Cond.selects R_Model y_Model_worth y_Model_worth ∈ TB := mem_TB 1166 (by decide +kernel) (by decide +kernel)
theorem hd_Model_worth : y_Model_worth.cls ≠ "java/lang/invoke/MethodHandle" ∧ y_Model_worth.cls ≠ "java/lang/invoke/VarHandle" ∧ (parseMethodDescriptor y_Model_worth.desc).map (fun d => d.parameters.length) = some 0 := by decide +kernel
def y_Model_at : MethodName := ⟨R_Model, "at", "(II)I"⟩
abbrev ws_Model_at : List Cond := .code y_Model_at prog_12_method_46_code 3 (some .int) :: TB
theorem d_Model_at_0 : decode prog_12_method_46_code 0 = .ok (.aload_n 0, 1) := by decide +kernel
theorem d_Model_at_1 : decode prog_12_method_46_code 1 = .ok (.invokevirtual 287, 3) := by decide +kernel
theorem d_Model_at_4 : decode prog_12_method_46_code 4 = .ok (.ifCond .eq 5, 3) := by decide +kernel
theorem d_Model_at_7 : decode prog_12_method_46_code 7 = .ok (.iconst 0, 1) := by decide +kernel
theorem d_Model_at_8 : decode prog_12_method_46_code 8 = .ok (.ireturn, 1) := by decide +kernel
theorem d_Model_at_9 : decode prog_12_method_46_code 9 = .ok (.aload_n 0, 1) := by decide +kernel
theorem d_Model_at_10 : decode prog_12_method_46_code 10 = .ok (.iload_n 1, 1) := by decide +kernel
theorem d_Model_at_11 : decode prog_12_method_46_code 11 = .ok (.iconst (-1), 1) := by decide +kernel
theorem d_Model_at_12 : decode prog_12_method_46_code 12 = .ok (.if_icmp .lt 11, 3) := by decide +kernel
theorem d_Model_at_15 : decode prog_12_method_46_code 15 = .ok (.iload_n 1, 1) := by decide +kernel
theorem d_Model_at_16 : decode prog_12_method_46_code 16 = .ok (.aload_n 0, 1) := by decide +kernel
theorem d_Model_at_17 : decode prog_12_method_46_code 17 = .ok (.getfield 219, 3) := by decide +kernel
theorem d_Model_at_20 : decode prog_12_method_46_code 20 = .ok (.if_icmp .lt 7, 3) := by decide +kernel
theorem d_Model_at_23 : decode prog_12_method_46_code 23 = .ok (.iconst 2, 1) := by decide +kernel
theorem d_Model_at_24 : decode prog_12_method_46_code 24 = .ok (.goto 20, 3) := by decide +kernel
theorem d_Model_at_27 : decode prog_12_method_46_code 27 = .ok (.iload_n 2, 1) := by decide +kernel
theorem d_Model_at_28 : decode prog_12_method_46_code 28 = .ok (.i2l, 1) := by decide +kernel
theorem d_Model_at_29 : decode prog_12_method_46_code 29 = .ok (.lconst 0, 1) := by decide +kernel
theorem d_Model_at_30 : decode prog_12_method_46_code 30 = .ok (.ldc2_w 291, 3) := by decide +kernel
theorem d_Model_at_33 : decode prog_12_method_46_code 33 = .ok (.invokestatic 141, 3) := by decide +kernel
theorem d_Model_at_36 : decode prog_12_method_46_code 36 = .ok (.ifCond .eq 7, 3) := by decide +kernel
theorem d_Model_at_39 : decode prog_12_method_46_code 39 = .ok (.iconst 0, 1) := by decide +kernel
theorem d_Model_at_40 : decode prog_12_method_46_code 40 = .ok (.goto 4, 3) := by decide +kernel
theorem d_Model_at_43 : decode prog_12_method_46_code 43 = .ok (.iconst 3, 1) := by decide +kernel
theorem d_Model_at_44 : decode prog_12_method_46_code 44 = .ok (.putfield 132, 3) := by decide +kernel
theorem d_Model_at_47 : decode prog_12_method_46_code 47 = .ok (.aload_n 0, 1) := by decide +kernel
theorem d_Model_at_48 : decode prog_12_method_46_code 48 = .ok (.getfield 132, 3) := by decide +kernel
theorem d_Model_at_51 : decode prog_12_method_46_code 51 = .ok (.ifCond .gt 8, 3) := by decide +kernel
theorem d_Model_at_54 : decode prog_12_method_46_code 54 = .ok (.iload_n 1, 1) := by decide +kernel
theorem d_Model_at_55 : decode prog_12_method_46_code 55 = .ok (.iconst (-1), 1) := by decide +kernel
theorem d_Model_at_56 : decode prog_12_method_46_code 56 = .ok (.if_icmp .ne 19, 3) := by decide +kernel
theorem d_Model_at_59 : decode prog_12_method_46_code 59 = .ok (.aload_n 0, 1) := by decide +kernel
theorem d_Model_at_60 : decode prog_12_method_46_code 60 = .ok (.getfield 132, 3) := by decide +kernel
theorem d_Model_at_63 : decode prog_12_method_46_code 63 = .ok (.ifCond .le 7, 3) := by decide +kernel
theorem d_Model_at_66 : decode prog_12_method_46_code 66 = .ok (.iconst 0, 1) := by decide +kernel
theorem d_Model_at_67 : decode prog_12_method_46_code 67 = .ok (.goto 7, 3) := by decide +kernel
theorem d_Model_at_70 : decode prog_12_method_46_code 70 = .ok (.aload_n 0, 1) := by decide +kernel
theorem d_Model_at_71 : decode prog_12_method_46_code 71 = .ok (.getfield 219, 3) := by decide +kernel
theorem d_Model_at_74 : decode prog_12_method_46_code 74 = .ok (.ireturn, 1) := by decide +kernel
theorem d_Model_at_75 : decode prog_12_method_46_code 75 = .ok (.iload_n 2, 1) := by decide +kernel
theorem d_Model_at_76 : decode prog_12_method_46_code 76 = .ok (.ifCond .ne 12, 3) := by decide +kernel
theorem d_Model_at_79 : decode prog_12_method_46_code 79 = .ok (.aload_n 0, 1) := by decide +kernel
theorem d_Model_at_80 : decode prog_12_method_46_code 80 = .ok (.getfield 94, 3) := by decide +kernel
theorem d_Model_at_83 : decode prog_12_method_46_code 83 = .ok (.iload_n 1, 1) := by decide +kernel
theorem d_Model_at_84 : decode prog_12_method_46_code 84 = .ok (.iaload, 1) := by decide +kernel
theorem d_Model_at_85 : decode prog_12_method_46_code 85 = .ok (.goto 79, 3) := by decide +kernel
theorem d_Model_at_88 : decode prog_12_method_46_code 88 = .ok (.iload_n 2, 1) := by decide +kernel
theorem d_Model_at_89 : decode prog_12_method_46_code 89 = .ok (.iconst 1, 1) := by decide +kernel
theorem d_Model_at_90 : decode prog_12_method_46_code 90 = .ok (.if_icmp .ne 12, 3) := by decide +kernel
theorem d_Model_at_93 : decode prog_12_method_46_code 93 = .ok (.aload_n 0, 1) := by decide +kernel
theorem d_Model_at_94 : decode prog_12_method_46_code 94 = .ok (.getfield 97, 3) := by decide +kernel
theorem d_Model_at_97 : decode prog_12_method_46_code 97 = .ok (.iload_n 1, 1) := by decide +kernel
theorem d_Model_at_98 : decode prog_12_method_46_code 98 = .ok (.iaload, 1) := by decide +kernel
theorem d_Model_at_99 : decode prog_12_method_46_code 99 = .ok (.goto 65, 3) := by decide +kernel
theorem d_Model_at_102 : decode prog_12_method_46_code 102 = .ok (.iload_n 2, 1) := by decide +kernel
theorem d_Model_at_103 : decode prog_12_method_46_code 103 = .ok (.iconst 2, 1) := by decide +kernel
theorem d_Model_at_104 : decode prog_12_method_46_code 104 = .ok (.if_icmp .ne 12, 3) := by decide +kernel
theorem d_Model_at_107 : decode prog_12_method_46_code 107 = .ok (.aload_n 0, 1) := by decide +kernel
theorem d_Model_at_108 : decode prog_12_method_46_code 108 = .ok (.getfield 100, 3) := by decide +kernel
theorem d_Model_at_111 : decode prog_12_method_46_code 111 = .ok (.iload_n 1, 1) := by decide +kernel
theorem d_Model_at_112 : decode prog_12_method_46_code 112 = .ok (.iaload, 1) := by decide +kernel
theorem d_Model_at_113 : decode prog_12_method_46_code 113 = .ok (.goto 51, 3) := by decide +kernel
theorem d_Model_at_116 : decode prog_12_method_46_code 116 = .ok (.iload_n 2, 1) := by decide +kernel
theorem d_Model_at_117 : decode prog_12_method_46_code 117 = .ok (.iconst 3, 1) := by decide +kernel
theorem d_Model_at_118 : decode prog_12_method_46_code 118 = .ok (.if_icmp .ne 12, 3) := by decide +kernel
theorem d_Model_at_121 : decode prog_12_method_46_code 121 = .ok (.aload_n 0, 1) := by decide +kernel
theorem d_Model_at_122 : decode prog_12_method_46_code 122 = .ok (.getfield 103, 3) := by decide +kernel
theorem d_Model_at_125 : decode prog_12_method_46_code 125 = .ok (.iload_n 1, 1) := by decide +kernel
theorem d_Model_at_126 : decode prog_12_method_46_code 126 = .ok (.iaload, 1) := by decide +kernel
theorem d_Model_at_127 : decode prog_12_method_46_code 127 = .ok (.goto 37, 3) := by decide +kernel
theorem d_Model_at_130 : decode prog_12_method_46_code 130 = .ok (.iload_n 2, 1) := by decide +kernel
theorem d_Model_at_131 : decode prog_12_method_46_code 131 = .ok (.iconst 4, 1) := by decide +kernel
theorem d_Model_at_132 : decode prog_12_method_46_code 132 = .ok (.if_icmp .ne 12, 3) := by decide +kernel
theorem d_Model_at_135 : decode prog_12_method_46_code 135 = .ok (.aload_n 0, 1) := by decide +kernel
theorem d_Model_at_136 : decode prog_12_method_46_code 136 = .ok (.getfield 106, 3) := by decide +kernel
theorem d_Model_at_139 : decode prog_12_method_46_code 139 = .ok (.iload_n 1, 1) := by decide +kernel
theorem d_Model_at_140 : decode prog_12_method_46_code 140 = .ok (.iaload, 1) := by decide +kernel
theorem d_Model_at_141 : decode prog_12_method_46_code 141 = .ok (.goto 23, 3) := by decide +kernel
theorem d_Model_at_144 : decode prog_12_method_46_code 144 = .ok (.aload_n 0, 1) := by decide +kernel
theorem d_Model_at_145 : decode prog_12_method_46_code 145 = .ok (.getfield 37, 3) := by decide +kernel
theorem d_Model_at_148 : decode prog_12_method_46_code 148 = .ok (.aload_n 0, 1) := by decide +kernel
theorem d_Model_at_149 : decode prog_12_method_46_code 149 = .ok (.getfield 106, 3) := by decide +kernel
theorem d_Model_at_152 : decode prog_12_method_46_code 152 = .ok (.iload_n 1, 1) := by decide +kernel
theorem d_Model_at_153 : decode prog_12_method_46_code 153 = .ok (.iaload, 1) := by decide +kernel
theorem d_Model_at_154 : decode prog_12_method_46_code 154 = .ok (.laload, 1) := by decide +kernel
theorem d_Model_at_155 : decode prog_12_method_46_code 155 = .ok (.aload_n 0, 1) := by decide +kernel
theorem d_Model_at_156 : decode prog_12_method_46_code 156 = .ok (.getfield 100, 3) := by decide +kernel
theorem d_Model_at_159 : decode prog_12_method_46_code 159 = .ok (.iload_n 1, 1) := by decide +kernel
theorem d_Model_at_160 : decode prog_12_method_46_code 160 = .ok (.iaload, 1) := by decide +kernel
theorem d_Model_at_161 : decode prog_12_method_46_code 161 = .ok (.i2l, 1) := by decide +kernel
theorem d_Model_at_162 : decode prog_12_method_46_code 162 = .ok (.lmul, 1) := by decide +kernel
theorem d_Model_at_163 : decode prog_12_method_46_code 163 = .ok (.l2i, 1) := by decide +kernel
theorem d_Model_at_164 : decode prog_12_method_46_code 164 = .ok (.ireturn, 1) := by decide +kernel
set_option maxRecDepth 50000 in
theorem cd_Model_at : Cond.code y_Model_at prog_12_method_46_code 3 (some .int) ∈ TB := mem_TB 1175 rfl rfl
theorem im_Model_at : Cond.instanceMethod y_Model_at ∈ TB := mem_TB 1173 (by decide +kernel) (by decide +kernel)
theorem sl_Model_at : Cond.selects R_Model y_Model_at y_Model_at ∈ TB := mem_TB 1174 (by decide +kernel) (by decide +kernel)
theorem hd_Model_at : y_Model_at.cls ≠ "java/lang/invoke/MethodHandle" ∧ y_Model_at.cls ≠ "java/lang/invoke/VarHandle" ∧ (parseMethodDescriptor y_Model_at.desc).map (fun d => d.parameters.length) = some 2 := by decide +kernel
def y_Model_clear2 : MethodName := ⟨R_Model, "clear2", "(I)Z"⟩
abbrev ws_Model_clear2 : List Cond := .code y_Model_clear2 prog_12_method_47_code 4 (some .boolean) :: TB
theorem d_Model_clear2_0 : decode prog_12_method_47_code 0 = .ok (.aload_n 0, 1) := by decide +kernel
theorem d_Model_clear2_1 : decode prog_12_method_47_code 1 = .ok (.invokevirtual 287, 3) := by decide +kernel
theorem d_Model_clear2_4 : decode prog_12_method_47_code 4 = .ok (.ifCond .eq 5, 3) := by decide +kernel
theorem d_Model_clear2_7 : decode prog_12_method_47_code 7 = .ok (.iconst 0, 1) := by decide +kernel
theorem d_Model_clear2_8 : decode prog_12_method_47_code 8 = .ok (.ireturn, 1) := by decide +kernel
theorem d_Model_clear2_9 : decode prog_12_method_47_code 9 = .ok (.aload_n 0, 1) := by decide +kernel
theorem d_Model_clear2_10 : decode prog_12_method_47_code 10 = .ok (.iload_n 1, 1) := by decide +kernel
theorem d_Model_clear2_11 : decode prog_12_method_47_code 11 = .ok (.ifCond .lt 11, 3) := by decide +kernel
theorem d_Model_clear2_14 : decode prog_12_method_47_code 14 = .ok (.iload_n 1, 1) := by decide +kernel
theorem d_Model_clear2_15 : decode prog_12_method_47_code 15 = .ok (.aload_n 0, 1) := by decide +kernel
theorem d_Model_clear2_16 : decode prog_12_method_47_code 16 = .ok (.getfield 219, 3) := by decide +kernel
theorem d_Model_clear2_19 : decode prog_12_method_47_code 19 = .ok (.if_icmp .lt 7, 3) := by decide +kernel
theorem d_Model_clear2_22 : decode prog_12_method_47_code 22 = .ok (.iconst 2, 1) := by decide +kernel
theorem d_Model_clear2_23 : decode prog_12_method_47_code 23 = .ok (.goto 4, 3) := by decide +kernel
theorem d_Model_clear2_26 : decode prog_12_method_47_code 26 = .ok (.iconst 0, 1) := by decide +kernel
theorem d_Model_clear2_27 : decode prog_12_method_47_code 27 = .ok (.putfield 132, 3) := by decide +kernel
theorem d_Model_clear2_30 : decode prog_12_method_47_code 30 = .ok (.aload_n 0, 1) := by decide +kernel
theorem d_Model_clear2_31 : decode prog_12_method_47_code 31 = .ok (.getfield 132, 3) := by decide +kernel
theorem d_Model_clear2_34 : decode prog_12_method_47_code 34 = .ok (.ifCond .ne 7, 3) := by decide +kernel
theorem d_Model_clear2_37 : decode prog_12_method_47_code 37 = .ok (.iconst 1, 1) := by decide +kernel
theorem d_Model_clear2_38 : decode prog_12_method_47_code 38 = .ok (.goto 4, 3) := by decide +kernel
theorem d_Model_clear2_41 : decode prog_12_method_47_code 41 = .ok (.iconst 0, 1) := by decide +kernel
theorem d_Model_clear2_42 : decode prog_12_method_47_code 42 = .ok (.istore_n 2, 1) := by decide +kernel
theorem d_Model_clear2_43 : decode prog_12_method_47_code 43 = .ok (.iconst 0, 1) := by decide +kernel
theorem d_Model_clear2_44 : decode prog_12_method_47_code 44 = .ok (.istore_n 3, 1) := by decide +kernel
theorem d_Model_clear2_45 : decode prog_12_method_47_code 45 = .ok (.iload_n 3, 1) := by decide +kernel
theorem d_Model_clear2_46 : decode prog_12_method_47_code 46 = .ok (.aload_n 0, 1) := by decide +kernel
theorem d_Model_clear2_47 : decode prog_12_method_47_code 47 = .ok (.getfield 149, 3) := by decide +kernel
theorem d_Model_clear2_50 : decode prog_12_method_47_code 50 = .ok (.if_icmp .ge 65, 3) := by decide +kernel
theorem d_Model_clear2_53 : decode prog_12_method_47_code 53 = .ok (.iload_n 2, 1) := by decide +kernel
theorem d_Model_clear2_54 : decode prog_12_method_47_code 54 = .ok (.ifCond .eq 61, 3) := by decide +kernel
theorem d_Model_clear2_57 : decode prog_12_method_47_code 57 = .ok (.aload_n 0, 1) := by decide +kernel
theorem d_Model_clear2_58 : decode prog_12_method_47_code 58 = .ok (.iload_n 3, 1) := by decide +kernel
theorem d_Model_clear2_59 : decode prog_12_method_47_code 59 = .ok (.aload_n 0, 1) := by decide +kernel
theorem d_Model_clear2_60 : decode prog_12_method_47_code 60 = .ok (.getfield 94, 3) := by decide +kernel
theorem d_Model_clear2_63 : decode prog_12_method_47_code 63 = .ok (.iload_n 1, 1) := by decide +kernel
theorem d_Model_clear2_64 : decode prog_12_method_47_code 64 = .ok (.iaload, 1) := by decide +kernel
theorem d_Model_clear2_65 : decode prog_12_method_47_code 65 = .ok (.aload_n 0, 1) := by decide +kernel
theorem d_Model_clear2_66 : decode prog_12_method_47_code 66 = .ok (.getfield 94, 3) := by decide +kernel
theorem d_Model_clear2_69 : decode prog_12_method_47_code 69 = .ok (.iload_n 1, 1) := by decide +kernel
theorem d_Model_clear2_70 : decode prog_12_method_47_code 70 = .ok (.iaload, 1) := by decide +kernel
theorem d_Model_clear2_71 : decode prog_12_method_47_code 71 = .ok (.aload_n 0, 1) := by decide +kernel
theorem d_Model_clear2_72 : decode prog_12_method_47_code 72 = .ok (.getfield 100, 3) := by decide +kernel
theorem d_Model_clear2_75 : decode prog_12_method_47_code 75 = .ok (.iload_n 1, 1) := by decide +kernel
theorem d_Model_clear2_76 : decode prog_12_method_47_code 76 = .ok (.iaload, 1) := by decide +kernel
theorem d_Model_clear2_77 : decode prog_12_method_47_code 77 = .ok (.iadd, 1) := by decide +kernel
theorem d_Model_clear2_78 : decode prog_12_method_47_code 78 = .ok (.aload_n 0, 1) := by decide +kernel
theorem d_Model_clear2_79 : decode prog_12_method_47_code 79 = .ok (.getfield 97, 3) := by decide +kernel
theorem d_Model_clear2_82 : decode prog_12_method_47_code 82 = .ok (.iload_n 1, 1) := by decide +kernel
theorem d_Model_clear2_83 : decode prog_12_method_47_code 83 = .ok (.iaload, 1) := by decide +kernel
theorem d_Model_clear2_84 : decode prog_12_method_47_code 84 = .ok (.aload_n 0, 1) := by decide +kernel
theorem d_Model_clear2_85 : decode prog_12_method_47_code 85 = .ok (.getfield 97, 3) := by decide +kernel
theorem d_Model_clear2_88 : decode prog_12_method_47_code 88 = .ok (.iload_n 1, 1) := by decide +kernel
theorem d_Model_clear2_89 : decode prog_12_method_47_code 89 = .ok (.iaload, 1) := by decide +kernel
theorem d_Model_clear2_90 : decode prog_12_method_47_code 90 = .ok (.aload_n 0, 1) := by decide +kernel
theorem d_Model_clear2_91 : decode prog_12_method_47_code 91 = .ok (.getfield 103, 3) := by decide +kernel
theorem d_Model_clear2_94 : decode prog_12_method_47_code 94 = .ok (.iload_n 1, 1) := by decide +kernel
theorem d_Model_clear2_95 : decode prog_12_method_47_code 95 = .ok (.iaload, 1) := by decide +kernel
theorem d_Model_clear2_96 : decode prog_12_method_47_code 96 = .ok (.iadd, 1) := by decide +kernel
theorem d_Model_clear2_97 : decode prog_12_method_47_code 97 = .ok (.invokevirtual 178, 3) := by decide +kernel
theorem d_Model_clear2_100 : decode prog_12_method_47_code 100 = .ok (.ifCond .ne 7, 3) := by decide +kernel
theorem d_Model_clear2_103 : decode prog_12_method_47_code 103 = .ok (.iconst 1, 1) := by decide +kernel
theorem d_Model_clear2_104 : decode prog_12_method_47_code 104 = .ok (.goto 4, 3) := by decide +kernel
theorem d_Model_clear2_107 : decode prog_12_method_47_code 107 = .ok (.iconst 0, 1) := by decide +kernel
theorem d_Model_clear2_108 : decode prog_12_method_47_code 108 = .ok (.istore_n 2, 1) := by decide +kernel
theorem d_Model_clear2_109 : decode prog_12_method_47_code 109 = .ok (.iinc 3 1, 3) := by decide +kernel
theorem d_Model_clear2_112 : decode prog_12_method_47_code 112 = .ok (.goto (-67), 3) := by decide +kernel
theorem d_Model_clear2_115 : decode prog_12_method_47_code 115 = .ok (.iload_n 2, 1) := by decide +kernel
theorem d_Model_clear2_116 : decode prog_12_method_47_code 116 = .ok (.ireturn, 1) := by decide +kernel
set_option maxRecDepth 50000 in
theorem cd_Model_clear2 : Cond.code y_Model_clear2 prog_12_method_47_code 4 (some .boolean) ∈ TB := mem_TB 1180 rfl rfl
theorem im_Model_clear2 : Cond.instanceMethod y_Model_clear2 ∈ TB := mem_TB 1178 (by decide +kernel) (by decide +kernel)
theorem sl_Model_clear2 : Cond.selects R_Model y_Model_clear2 y_Model_clear2 ∈ TB := mem_TB 1179 (by decide +kernel) (by decide +kernel)
theorem hd_Model_clear2 : y_Model_clear2.cls ≠ "java/lang/invoke/MethodHandle" ∧ y_Model_clear2.cls ≠ "java/lang/invoke/VarHandle" ∧ (parseMethodDescriptor y_Model_clear2.desc).map (fun d => d.parameters.length) = some 1 := by decide +kernel
def y_Model_bound : MethodName := ⟨R_Model, "bound", "()J"⟩
abbrev ws_Model_bound : List Cond := .code y_Model_bound prog_12_method_48_code 1 (some .long) :: TB
theorem d_Model_bound_0 : decode prog_12_method_48_code 0 = .ok (.aload_n 0, 1) := by decide +kernel
theorem d_Model_bound_1 : decode prog_12_method_48_code 1 = .ok (.invokevirtual 287, 3) := by decide +kernel
theorem d_Model_bound_4 : decode prog_12_method_48_code 4 = .ok (.ifCond .eq 7, 3) := by decide +kernel
theorem d_Model_bound_7 : decode prog_12_method_48_code 7 = .ok (.lconst 0, 1) := by decide +kernel
theorem d_Model_bound_8 : decode prog_12_method_48_code 8 = .ok (.goto 7, 3) := by decide +kernel
theorem d_Model_bound_11 : decode prog_12_method_48_code 11 = .ok (.aload_n 0, 1) := by decide +kernel
theorem d_Model_bound_12 : decode prog_12_method_48_code 12 = .ok (.getfield 253, 3) := by decide +kernel
theorem d_Model_bound_15 : decode prog_12_method_48_code 15 = .ok (.lreturn, 1) := by decide +kernel
set_option maxRecDepth 50000 in
theorem cd_Model_bound : Cond.code y_Model_bound prog_12_method_48_code 1 (some .long) ∈ TB := mem_TB 1184 rfl rfl
theorem im_Model_bound : Cond.instanceMethod y_Model_bound ∈ TB := mem_TB 1182 (by decide +kernel) (by decide +kernel)
theorem sl_Model_bound : Cond.selects R_Model y_Model_bound y_Model_bound ∈ TB := mem_TB 1183 (by decide +kernel) (by decide +kernel)
theorem hd_Model_bound : y_Model_bound.cls ≠ "java/lang/invoke/MethodHandle" ∧ y_Model_bound.cls ≠ "java/lang/invoke/VarHandle" ∧ (parseMethodDescriptor y_Model_bound.desc).map (fun d => d.parameters.length) = some 0 := by decide +kernel
def y_Model_price : MethodName := ⟨R_Model, "price", "(II)J"⟩
abbrev ws_Model_price : List Cond := .code y_Model_price prog_12_method_49_code 3 (some .long) :: TB
theorem d_Model_price_0 : decode prog_12_method_49_code 0 = .ok (.aload_n 0, 1) := by decide +kernel
theorem d_Model_price_1 : decode prog_12_method_49_code 1 = .ok (.invokevirtual 287, 3) := by decide +kernel
theorem d_Model_price_4 : decode prog_12_method_49_code 4 = .ok (.ifCond .eq 5, 3) := by decide +kernel
theorem d_Model_price_7 : decode prog_12_method_49_code 7 = .ok (.lconst 0, 1) := by decide +kernel
theorem d_Model_price_8 : decode prog_12_method_49_code 8 = .ok (.lreturn, 1) := by decide +kernel
theorem d_Model_price_9 : decode prog_12_method_49_code 9 = .ok (.aload_n 0, 1) := by decide +kernel
theorem d_Model_price_10 : decode prog_12_method_49_code 10 = .ok (.iload_n 1, 1) := by decide +kernel
theorem d_Model_price_11 : decode prog_12_method_49_code 11 = .ok (.ifCond .lt 20, 3) := by decide +kernel
theorem d_Model_price_14 : decode prog_12_method_49_code 14 = .ok (.iload_n 1, 1) := by decide +kernel
theorem d_Model_price_15 : decode prog_12_method_49_code 15 = .ok (.aload_n 0, 1) := by decide +kernel
theorem d_Model_price_16 : decode prog_12_method_49_code 16 = .ok (.getfield 158, 3) := by decide +kernel
theorem d_Model_price_19 : decode prog_12_method_49_code 19 = .ok (.if_icmp .ge 12, 3) := by decide +kernel
theorem d_Model_price_22 : decode prog_12_method_49_code 22 = .ok (.iload_n 2, 1) := by decide +kernel
theorem d_Model_price_23 : decode prog_12_method_49_code 23 = .ok (.ifCond .lt 8, 3) := by decide +kernel
theorem d_Model_price_26 : decode prog_12_method_49_code 26 = .ok (.iload_n 2, 1) := by decide +kernel
theorem d_Model_price_27 : decode prog_12_method_49_code 27 = .ok (.iconst 2, 1) := by decide +kernel
theorem d_Model_price_28 : decode prog_12_method_49_code 28 = .ok (.if_icmp .le 7, 3) := by decide +kernel
theorem d_Model_price_31 : decode prog_12_method_49_code 31 = .ok (.iconst 2, 1) := by decide +kernel
theorem d_Model_price_32 : decode prog_12_method_49_code 32 = .ok (.goto 4, 3) := by decide +kernel
theorem d_Model_price_35 : decode prog_12_method_49_code 35 = .ok (.iconst 0, 1) := by decide +kernel
theorem d_Model_price_36 : decode prog_12_method_49_code 36 = .ok (.putfield 132, 3) := by decide +kernel
theorem d_Model_price_39 : decode prog_12_method_49_code 39 = .ok (.aload_n 0, 1) := by decide +kernel
theorem d_Model_price_40 : decode prog_12_method_49_code 40 = .ok (.getfield 132, 3) := by decide +kernel
theorem d_Model_price_43 : decode prog_12_method_49_code 43 = .ok (.ifCond .le 7, 3) := by decide +kernel
theorem d_Model_price_46 : decode prog_12_method_49_code 46 = .ok (.lconst 0, 1) := by decide +kernel
theorem d_Model_price_47 : decode prog_12_method_49_code 47 = .ok (.goto 37, 3) := by decide +kernel
theorem d_Model_price_50 : decode prog_12_method_49_code 50 = .ok (.iload_n 2, 1) := by decide +kernel
theorem d_Model_price_51 : decode prog_12_method_49_code 51 = .ok (.ifCond .ne 12, 3) := by decide +kernel
theorem d_Model_price_54 : decode prog_12_method_49_code 54 = .ok (.aload_n 0, 1) := by decide +kernel
theorem d_Model_price_55 : decode prog_12_method_49_code 55 = .ok (.getfield 51, 3) := by decide +kernel
theorem d_Model_price_58 : decode prog_12_method_49_code 58 = .ok (.iload_n 1, 1) := by decide +kernel
theorem d_Model_price_59 : decode prog_12_method_49_code 59 = .ok (.laload, 1) := by decide +kernel
theorem d_Model_price_60 : decode prog_12_method_49_code 60 = .ok (.goto 24, 3) := by decide +kernel
theorem d_Model_price_63 : decode prog_12_method_49_code 63 = .ok (.iload_n 2, 1) := by decide +kernel
theorem d_Model_price_64 : decode prog_12_method_49_code 64 = .ok (.iconst 1, 1) := by decide +kernel
theorem d_Model_price_65 : decode prog_12_method_49_code 65 = .ok (.if_icmp .ne 12, 3) := by decide +kernel
theorem d_Model_price_68 : decode prog_12_method_49_code 68 = .ok (.aload_n 0, 1) := by decide +kernel
theorem d_Model_price_69 : decode prog_12_method_49_code 69 = .ok (.iload_n 1, 1) := by decide +kernel
theorem d_Model_price_70 : decode prog_12_method_49_code 70 = .ok (.invokevirtual 257, 3) := by decide +kernel
theorem d_Model_price_73 : decode prog_12_method_49_code 73 = .ok (.i2l, 1) := by decide +kernel
theorem d_Model_price_74 : decode prog_12_method_49_code 74 = .ok (.goto 10, 3) := by decide +kernel
theorem d_Model_price_77 : decode prog_12_method_49_code 77 = .ok (.aload_n 0, 1) := by decide +kernel
theorem d_Model_price_78 : decode prog_12_method_49_code 78 = .ok (.getfield 45, 3) := by decide +kernel
theorem d_Model_price_81 : decode prog_12_method_49_code 81 = .ok (.iload_n 1, 1) := by decide +kernel
theorem d_Model_price_82 : decode prog_12_method_49_code 82 = .ok (.iaload, 1) := by decide +kernel
theorem d_Model_price_83 : decode prog_12_method_49_code 83 = .ok (.i2l, 1) := by decide +kernel
theorem d_Model_price_84 : decode prog_12_method_49_code 84 = .ok (.lreturn, 1) := by decide +kernel
set_option maxRecDepth 50000 in
theorem cd_Model_price : Cond.code y_Model_price prog_12_method_49_code 3 (some .long) ∈ TB := mem_TB 1188 rfl rfl
theorem im_Model_price : Cond.instanceMethod y_Model_price ∈ TB := mem_TB 1186 (by decide +kernel) (by decide +kernel)
theorem sl_Model_price : Cond.selects R_Model y_Model_price y_Model_price ∈ TB := mem_TB 1187 (by decide +kernel) (by decide +kernel)
theorem hd_Model_price : y_Model_price.cls ≠ "java/lang/invoke/MethodHandle" ∧ y_Model_price.cls ≠ "java/lang/invoke/VarHandle" ∧ (parseMethodDescriptor y_Model_price.desc).map (fun d => d.parameters.length) = some 2 := by decide +kernel
def y_Model_cover : MethodName := ⟨R_Model, "cover", "()V"⟩
abbrev ws_Model_cover : List Cond := .code y_Model_cover prog_12_method_50_code 4 none :: TB
theorem d_Model_cover_0 : decode prog_12_method_50_code 0 = .ok (.iconst 0, 1) := by decide +kernel
theorem d_Model_cover_1 : decode prog_12_method_50_code 1 = .ok (.istore_n 1, 1) := by decide +kernel
theorem d_Model_cover_2 : decode prog_12_method_50_code 2 = .ok (.iload_n 1, 1) := by decide +kernel
theorem d_Model_cover_3 : decode prog_12_method_50_code 3 = .ok (.sipush 240, 3) := by decide +kernel
theorem d_Model_cover_6 : decode prog_12_method_50_code 6 = .ok (.if_icmp .ge 16, 3) := by decide +kernel
theorem d_Model_cover_9 : decode prog_12_method_50_code 9 = .ok (.aload_n 0, 1) := by decide +kernel
theorem d_Model_cover_10 : decode prog_12_method_50_code 10 = .ok (.getfield 112, 3) := by decide +kernel
theorem d_Model_cover_13 : decode prog_12_method_50_code 13 = .ok (.iload_n 1, 1) := by decide +kernel
theorem d_Model_cover_14 : decode prog_12_method_50_code 14 = .ok (.iconst 0, 1) := by decide +kernel
theorem d_Model_cover_15 : decode prog_12_method_50_code 15 = .ok (.bastore, 1) := by decide +kernel
theorem d_Model_cover_16 : decode prog_12_method_50_code 16 = .ok (.iinc 1 1, 3) := by decide +kernel
theorem d_Model_cover_19 : decode prog_12_method_50_code 19 = .ok (.goto (-17), 3) := by decide +kernel
theorem d_Model_cover_22 : decode prog_12_method_50_code 22 = .ok (.iconst 0, 1) := by decide +kernel
theorem d_Model_cover_23 : decode prog_12_method_50_code 23 = .ok (.istore_n 1, 1) := by decide +kernel
theorem d_Model_cover_24 : decode prog_12_method_50_code 24 = .ok (.iload_n 1, 1) := by decide +kernel
theorem d_Model_cover_25 : decode prog_12_method_50_code 25 = .ok (.aload_n 0, 1) := by decide +kernel
theorem d_Model_cover_26 : decode prog_12_method_50_code 26 = .ok (.getfield 219, 3) := by decide +kernel
theorem d_Model_cover_29 : decode prog_12_method_50_code 29 = .ok (.if_icmp .ge 81, 3) := by decide +kernel
theorem d_Model_cover_32 : decode prog_12_method_50_code 32 = .ok (.aload_n 0, 1) := by decide +kernel
theorem d_Model_cover_33 : decode prog_12_method_50_code 33 = .ok (.getfield 94, 3) := by decide +kernel
theorem d_Model_cover_36 : decode prog_12_method_50_code 36 = .ok (.iload_n 1, 1) := by decide +kernel
theorem d_Model_cover_37 : decode prog_12_method_50_code 37 = .ok (.iaload, 1) := by decide +kernel
theorem d_Model_cover_38 : decode prog_12_method_50_code 38 = .ok (.istore_n 2, 1) := by decide +kernel
theorem d_Model_cover_39 : decode prog_12_method_50_code 39 = .ok (.iload_n 2, 1) := by decide +kernel
theorem d_Model_cover_40 : decode prog_12_method_50_code 40 = .ok (.aload_n 0, 1) := by decide +kernel
theorem d_Model_cover_41 : decode prog_12_method_50_code 41 = .ok (.getfield 94, 3) := by decide +kernel
theorem d_Model_cover_44 : decode prog_12_method_50_code 44 = .ok (.iload_n 1, 1) := by decide +kernel
theorem d_Model_cover_45 : decode prog_12_method_50_code 45 = .ok (.iaload, 1) := by decide +kernel
theorem d_Model_cover_46 : decode prog_12_method_50_code 46 = .ok (.aload_n 0, 1) := by decide +kernel
theorem d_Model_cover_47 : decode prog_12_method_50_code 47 = .ok (.getfield 100, 3) := by decide +kernel
theorem d_Model_cover_50 : decode prog_12_method_50_code 50 = .ok (.iload_n 1, 1) := by decide +kernel
theorem d_Model_cover_51 : decode prog_12_method_50_code 51 = .ok (.iaload, 1) := by decide +kernel
theorem d_Model_cover_52 : decode prog_12_method_50_code 52 = .ok (.iadd, 1) := by decide +kernel
theorem d_Model_cover_53 : decode prog_12_method_50_code 53 = .ok (.if_icmp .ge 51, 3) := by decide +kernel
theorem d_Model_cover_56 : decode prog_12_method_50_code 56 = .ok (.aload_n 0, 1) := by decide +kernel
theorem d_Model_cover_57 : decode prog_12_method_50_code 57 = .ok (.getfield 97, 3) := by decide +kernel
theorem d_Model_cover_60 : decode prog_12_method_50_code 60 = .ok (.iload_n 1, 1) := by decide +kernel
theorem d_Model_cover_61 : decode prog_12_method_50_code 61 = .ok (.iaload, 1) := by decide +kernel
theorem d_Model_cover_62 : decode prog_12_method_50_code 62 = .ok (.istore_n 3, 1) := by decide +kernel
theorem d_Model_cover_63 : decode prog_12_method_50_code 63 = .ok (.iload_n 3, 1) := by decide +kernel
theorem d_Model_cover_64 : decode prog_12_method_50_code 64 = .ok (.aload_n 0, 1) := by decide +kernel
theorem d_Model_cover_65 : decode prog_12_method_50_code 65 = .ok (.getfield 97, 3) := by decide +kernel
theorem d_Model_cover_68 : decode prog_12_method_50_code 68 = .ok (.iload_n 1, 1) := by decide +kernel
theorem d_Model_cover_69 : decode prog_12_method_50_code 69 = .ok (.iaload, 1) := by decide +kernel
theorem d_Model_cover_70 : decode prog_12_method_50_code 70 = .ok (.aload_n 0, 1) := by decide +kernel
theorem d_Model_cover_71 : decode prog_12_method_50_code 71 = .ok (.getfield 103, 3) := by decide +kernel
theorem d_Model_cover_74 : decode prog_12_method_50_code 74 = .ok (.iload_n 1, 1) := by decide +kernel
theorem d_Model_cover_75 : decode prog_12_method_50_code 75 = .ok (.iaload, 1) := by decide +kernel
theorem d_Model_cover_76 : decode prog_12_method_50_code 76 = .ok (.iadd, 1) := by decide +kernel
theorem d_Model_cover_77 : decode prog_12_method_50_code 77 = .ok (.if_icmp .ge 21, 3) := by decide +kernel
theorem d_Model_cover_80 : decode prog_12_method_50_code 80 = .ok (.aload_n 0, 1) := by decide +kernel
theorem d_Model_cover_81 : decode prog_12_method_50_code 81 = .ok (.getfield 112, 3) := by decide +kernel
theorem d_Model_cover_84 : decode prog_12_method_50_code 84 = .ok (.bipush 24, 2) := by decide +kernel
theorem d_Model_cover_86 : decode prog_12_method_50_code 86 = .ok (.iload_n 3, 1) := by decide +kernel
theorem d_Model_cover_87 : decode prog_12_method_50_code 87 = .ok (.imul, 1) := by decide +kernel
theorem d_Model_cover_88 : decode prog_12_method_50_code 88 = .ok (.iload_n 2, 1) := by decide +kernel
theorem d_Model_cover_89 : decode prog_12_method_50_code 89 = .ok (.iadd, 1) := by decide +kernel
theorem d_Model_cover_90 : decode prog_12_method_50_code 90 = .ok (.iconst 1, 1) := by decide +kernel
theorem d_Model_cover_91 : decode prog_12_method_50_code 91 = .ok (.bastore, 1) := by decide +kernel
theorem d_Model_cover_92 : decode prog_12_method_50_code 92 = .ok (.iinc 3 1, 3) := by decide +kernel
theorem d_Model_cover_95 : decode prog_12_method_50_code 95 = .ok (.goto (-32), 3) := by decide +kernel
theorem d_Model_cover_98 : decode prog_12_method_50_code 98 = .ok (.iinc 2 1, 3) := by decide +kernel
theorem d_Model_cover_101 : decode prog_12_method_50_code 101 = .ok (.goto (-62), 3) := by decide +kernel
theorem d_Model_cover_104 : decode prog_12_method_50_code 104 = .ok (.iinc 1 1, 3) := by decide +kernel
theorem d_Model_cover_107 : decode prog_12_method_50_code 107 = .ok (.goto (-83), 3) := by decide +kernel
theorem d_Model_cover_110 : decode prog_12_method_50_code 110 = .ok (.return_, 1) := by decide +kernel
set_option maxRecDepth 50000 in
theorem cd_Model_cover : Cond.code y_Model_cover prog_12_method_50_code 4 none ∈ TB := mem_TB 1196 rfl rfl
theorem im_Model_cover : Cond.instanceMethod y_Model_cover ∈ TB := mem_TB 1195 (by decide +kernel) (by decide +kernel)
theorem sl_Model_cover : Cond.selects R_Model y_Model_cover y_Model_cover ∈ TB := mem_TBs (by decide +kernel) (by decide +kernel)
theorem hd_Model_cover : y_Model_cover.cls ≠ "java/lang/invoke/MethodHandle" ∧ y_Model_cover.cls ≠ "java/lang/invoke/VarHandle" ∧ (parseMethodDescriptor y_Model_cover.desc).map (fun d => d.parameters.length) = some 0 := by decide +kernel
def y_Model_begins : MethodName := ⟨R_Model, "begins", "(II)Z"⟩
abbrev ws_Model_begins : List Cond := .code y_Model_begins prog_12_method_51_code 3 (some .boolean) :: TB
theorem d_Model_begins_0 : decode prog_12_method_51_code 0 = .ok (.aload_n 0, 1) := by decide +kernel
theorem d_Model_begins_1 : decode prog_12_method_51_code 1 = .ok (.getfield 112, 3) := by decide +kernel
theorem d_Model_begins_4 : decode prog_12_method_51_code 4 = .ok (.bipush 24, 2) := by decide +kernel
theorem d_Model_begins_6 : decode prog_12_method_51_code 6 = .ok (.iload_n 2, 1) := by decide +kernel
theorem d_Model_begins_7 : decode prog_12_method_51_code 7 = .ok (.imul, 1) := by decide +kernel
theorem d_Model_begins_8 : decode prog_12_method_51_code 8 = .ok (.iload_n 1, 1) := by decide +kernel
theorem d_Model_begins_9 : decode prog_12_method_51_code 9 = .ok (.iadd, 1) := by decide +kernel
theorem d_Model_begins_10 : decode prog_12_method_51_code 10 = .ok (.baload, 1) := by decide +kernel
theorem d_Model_begins_11 : decode prog_12_method_51_code 11 = .ok (.ifCond .ne 27, 3) := by decide +kernel
theorem d_Model_begins_14 : decode prog_12_method_51_code 14 = .ok (.iload_n 1, 1) := by decide +kernel
theorem d_Model_begins_15 : decode prog_12_method_51_code 15 = .ok (.ifCond .eq 19, 3) := by decide +kernel
theorem d_Model_begins_18 : decode prog_12_method_51_code 18 = .ok (.aload_n 0, 1) := by decide +kernel
theorem d_Model_begins_19 : decode prog_12_method_51_code 19 = .ok (.getfield 112, 3) := by decide +kernel
theorem d_Model_begins_22 : decode prog_12_method_51_code 22 = .ok (.bipush 24, 2) := by decide +kernel
theorem d_Model_begins_24 : decode prog_12_method_51_code 24 = .ok (.iload_n 2, 1) := by decide +kernel
theorem d_Model_begins_25 : decode prog_12_method_51_code 25 = .ok (.imul, 1) := by decide +kernel
theorem d_Model_begins_26 : decode prog_12_method_51_code 26 = .ok (.iload_n 1, 1) := by decide +kernel
theorem d_Model_begins_27 : decode prog_12_method_51_code 27 = .ok (.iadd, 1) := by decide +kernel
theorem d_Model_begins_28 : decode prog_12_method_51_code 28 = .ok (.iconst 1, 1) := by decide +kernel
theorem d_Model_begins_29 : decode prog_12_method_51_code 29 = .ok (.isub, 1) := by decide +kernel
theorem d_Model_begins_30 : decode prog_12_method_51_code 30 = .ok (.baload, 1) := by decide +kernel
theorem d_Model_begins_31 : decode prog_12_method_51_code 31 = .ok (.ifCond .eq 7, 3) := by decide +kernel
theorem d_Model_begins_34 : decode prog_12_method_51_code 34 = .ok (.iconst 1, 1) := by decide +kernel
theorem d_Model_begins_35 : decode prog_12_method_51_code 35 = .ok (.goto 4, 3) := by decide +kernel
theorem d_Model_begins_38 : decode prog_12_method_51_code 38 = .ok (.iconst 0, 1) := by decide +kernel
theorem d_Model_begins_39 : decode prog_12_method_51_code 39 = .ok (.ireturn, 1) := by decide +kernel
set_option maxRecDepth 50000 in
theorem cd_Model_begins : Cond.code y_Model_begins prog_12_method_51_code 3 (some .boolean) ∈ TB := mem_TB 1200 rfl rfl
theorem im_Model_begins : Cond.instanceMethod y_Model_begins ∈ TB := mem_TB 1199 (by decide +kernel) (by decide +kernel)
theorem sl_Model_begins : Cond.selects R_Model y_Model_begins y_Model_begins ∈ TB := mem_TBs (by decide +kernel) (by decide +kernel)
theorem hd_Model_begins : y_Model_begins.cls ≠ "java/lang/invoke/MethodHandle" ∧ y_Model_begins.cls ≠ "java/lang/invoke/VarHandle" ∧ (parseMethodDescriptor y_Model_begins.desc).map (fun d => d.parameters.length) = some 2 := by decide +kernel
def y_Model_salvage : MethodName := ⟨R_Model, "salvage", "(II)I"⟩
abbrev ws_Model_salvage : List Cond := .code y_Model_salvage prog_12_method_52_code 8 (some .int) :: TB
theorem d_Model_salvage_0 : decode prog_12_method_52_code 0 = .ok (.aload_n 0, 1) := by decide +kernel
theorem d_Model_salvage_1 : decode prog_12_method_52_code 1 = .ok (.invokevirtual 287, 3) := by decide +kernel
theorem d_Model_salvage_4 : decode prog_12_method_52_code 4 = .ok (.ifCond .eq 5, 3) := by decide +kernel
theorem d_Model_salvage_7 : decode prog_12_method_52_code 7 = .ok (.iconst 0, 1) := by decide +kernel
theorem d_Model_salvage_8 : decode prog_12_method_52_code 8 = .ok (.ireturn, 1) := by decide +kernel
theorem d_Model_salvage_9 : decode prog_12_method_52_code 9 = .ok (.aload_n 0, 1) := by decide +kernel
theorem d_Model_salvage_10 : decode prog_12_method_52_code 10 = .ok (.invokevirtual 293, 3) := by decide +kernel
theorem d_Model_salvage_13 : decode prog_12_method_52_code 13 = .ok (.iconst 0, 1) := by decide +kernel
theorem d_Model_salvage_14 : decode prog_12_method_52_code 14 = .ok (.istore_n 3, 1) := by decide +kernel
theorem d_Model_salvage_15 : decode prog_12_method_52_code 15 = .ok (.iconst 0, 1) := by decide +kernel
theorem d_Model_salvage_16 : decode prog_12_method_52_code 16 = .ok (.istore 4, 2) := by decide +kernel
theorem d_Model_salvage_18 : decode prog_12_method_52_code 18 = .ok (.iconst 0, 1) := by decide +kernel
theorem d_Model_salvage_19 : decode prog_12_method_52_code 19 = .ok (.istore 5, 2) := by decide +kernel
theorem d_Model_salvage_21 : decode prog_12_method_52_code 21 = .ok (.iconst 0, 1) := by decide +kernel
theorem d_Model_salvage_22 : decode prog_12_method_52_code 22 = .ok (.istore 6, 2) := by decide +kernel
theorem d_Model_salvage_24 : decode prog_12_method_52_code 24 = .ok (.iload 6, 2) := by decide +kernel
theorem d_Model_salvage_26 : decode prog_12_method_52_code 26 = .ok (.aload_n 0, 1) := by decide +kernel
theorem d_Model_salvage_27 : decode prog_12_method_52_code 27 = .ok (.getfield 128, 3) := by decide +kernel
theorem d_Model_salvage_30 : decode prog_12_method_52_code 30 = .ok (.if_icmp .ge 69, 3) := by decide +kernel
theorem d_Model_salvage_33 : decode prog_12_method_52_code 33 = .ok (.iconst 0, 1) := by decide +kernel
theorem d_Model_salvage_34 : decode prog_12_method_52_code 34 = .ok (.istore 7, 2) := by decide +kernel
theorem d_Model_salvage_36 : decode prog_12_method_52_code 36 = .ok (.iload 7, 2) := by decide +kernel
theorem d_Model_salvage_38 : decode prog_12_method_52_code 38 = .ok (.aload_n 0, 1) := by decide +kernel
theorem d_Model_salvage_39 : decode prog_12_method_52_code 39 = .ok (.getfield 125, 3) := by decide +kernel
theorem d_Model_salvage_42 : decode prog_12_method_52_code 42 = .ok (.if_icmp .ge 51, 3) := by decide +kernel
theorem d_Model_salvage_45 : decode prog_12_method_52_code 45 = .ok (.aload_n 0, 1) := by decide +kernel
theorem d_Model_salvage_46 : decode prog_12_method_52_code 46 = .ok (.iload 7, 2) := by decide +kernel
theorem d_Model_salvage_48 : decode prog_12_method_52_code 48 = .ok (.iload 6, 2) := by decide +kernel
theorem d_Model_salvage_50 : decode prog_12_method_52_code 50 = .ok (.invokevirtual 296, 3) := by decide +kernel
theorem d_Model_salvage_53 : decode prog_12_method_52_code 53 = .ok (.ifCond .eq 34, 3) := by decide +kernel
theorem d_Model_salvage_56 : decode prog_12_method_52_code 56 = .ok (.iload_n 3, 1) := by decide +kernel
theorem d_Model_salvage_57 : decode prog_12_method_52_code 57 = .ok (.iload_n 1, 1) := by decide +kernel
theorem d_Model_salvage_58 : decode prog_12_method_52_code 58 = .ok (.if_icmp .ne 8, 3) := by decide +kernel
theorem d_Model_salvage_61 : decode prog_12_method_52_code 61 = .ok (.iload 7, 2) := by decide +kernel
theorem d_Model_salvage_63 : decode prog_12_method_52_code 63 = .ok (.goto 5, 3) := by decide +kernel
theorem d_Model_salvage_66 : decode prog_12_method_52_code 66 = .ok (.iload 4, 2) := by decide +kernel
theorem d_Model_salvage_68 : decode prog_12_method_52_code 68 = .ok (.istore 4, 2) := by decide +kernel
theorem d_Model_salvage_70 : decode prog_12_method_52_code 70 = .ok (.iload_n 3, 1) := by decide +kernel
theorem d_Model_salvage_71 : decode prog_12_method_52_code 71 = .ok (.iload_n 1, 1) := by decide +kernel
theorem d_Model_salvage_72 : decode prog_12_method_52_code 72 = .ok (.if_icmp .ne 8, 3) := by decide +kernel
theorem d_Model_salvage_75 : decode prog_12_method_52_code 75 = .ok (.iload 6, 2) := by decide +kernel
theorem d_Model_salvage_77 : decode prog_12_method_52_code 77 = .ok (.goto 5, 3) := by decide +kernel
theorem d_Model_salvage_80 : decode prog_12_method_52_code 80 = .ok (.iload 5, 2) := by decide +kernel
theorem d_Model_salvage_82 : decode prog_12_method_52_code 82 = .ok (.istore 5, 2) := by decide +kernel
theorem d_Model_salvage_84 : decode prog_12_method_52_code 84 = .ok (.iinc 3 1, 3) := by decide +kernel
theorem d_Model_salvage_87 : decode prog_12_method_52_code 87 = .ok (.iinc 7 1, 3) := by decide +kernel
theorem d_Model_salvage_90 : decode prog_12_method_52_code 90 = .ok (.goto (-54), 3) := by decide +kernel
theorem d_Model_salvage_93 : decode prog_12_method_52_code 93 = .ok (.iinc 6 1, 3) := by decide +kernel
theorem d_Model_salvage_96 : decode prog_12_method_52_code 96 = .ok (.goto (-72), 3) := by decide +kernel
theorem d_Model_salvage_99 : decode prog_12_method_52_code 99 = .ok (.aload_n 0, 1) := by decide +kernel
theorem d_Model_salvage_100 : decode prog_12_method_52_code 100 = .ok (.iload_n 1, 1) := by decide +kernel
theorem d_Model_salvage_101 : decode prog_12_method_52_code 101 = .ok (.iconst (-1), 1) := by decide +kernel
theorem d_Model_salvage_102 : decode prog_12_method_52_code 102 = .ok (.if_icmp .lt 8, 3) := by decide +kernel
theorem d_Model_salvage_105 : decode prog_12_method_52_code 105 = .ok (.iload_n 1, 1) := by decide +kernel
theorem d_Model_salvage_106 : decode prog_12_method_52_code 106 = .ok (.iload_n 3, 1) := by decide +kernel
theorem d_Model_salvage_107 : decode prog_12_method_52_code 107 = .ok (.if_icmp .lt 7, 3) := by decide +kernel
theorem d_Model_salvage_110 : decode prog_12_method_52_code 110 = .ok (.iconst 2, 1) := by decide +kernel
theorem d_Model_salvage_111 : decode prog_12_method_52_code 111 = .ok (.goto 20, 3) := by decide +kernel
theorem d_Model_salvage_114 : decode prog_12_method_52_code 114 = .ok (.iload_n 2, 1) := by decide +kernel
theorem d_Model_salvage_115 : decode prog_12_method_52_code 115 = .ok (.i2l, 1) := by decide +kernel
theorem d_Model_salvage_116 : decode prog_12_method_52_code 116 = .ok (.lconst 0, 1) := by decide +kernel
theorem d_Model_salvage_117 : decode prog_12_method_52_code 117 = .ok (.ldc2_w 299, 3) := by decide +kernel
theorem d_Model_salvage_120 : decode prog_12_method_52_code 120 = .ok (.invokestatic 141, 3) := by decide +kernel
theorem d_Model_salvage_123 : decode prog_12_method_52_code 123 = .ok (.ifCond .eq 7, 3) := by decide +kernel
theorem d_Model_salvage_126 : decode prog_12_method_52_code 126 = .ok (.iconst 0, 1) := by decide +kernel
theorem d_Model_salvage_127 : decode prog_12_method_52_code 127 = .ok (.goto 4, 3) := by decide +kernel
theorem d_Model_salvage_130 : decode prog_12_method_52_code 130 = .ok (.iconst 3, 1) := by decide +kernel
theorem d_Model_salvage_131 : decode prog_12_method_52_code 131 = .ok (.putfield 132, 3) := by decide +kernel
theorem d_Model_salvage_134 : decode prog_12_method_52_code 134 = .ok (.aload_n 0, 1) := by decide +kernel
theorem d_Model_salvage_135 : decode prog_12_method_52_code 135 = .ok (.getfield 132, 3) := by decide +kernel
theorem d_Model_salvage_138 : decode prog_12_method_52_code 138 = .ok (.ifCond .gt 8, 3) := by decide +kernel
theorem d_Model_salvage_141 : decode prog_12_method_52_code 141 = .ok (.iload_n 1, 1) := by decide +kernel
theorem d_Model_salvage_142 : decode prog_12_method_52_code 142 = .ok (.iconst (-1), 1) := by decide +kernel
theorem d_Model_salvage_143 : decode prog_12_method_52_code 143 = .ok (.if_icmp .ne 16, 3) := by decide +kernel
theorem d_Model_salvage_146 : decode prog_12_method_52_code 146 = .ok (.aload_n 0, 1) := by decide +kernel
theorem d_Model_salvage_147 : decode prog_12_method_52_code 147 = .ok (.getfield 132, 3) := by decide +kernel
theorem d_Model_salvage_150 : decode prog_12_method_52_code 150 = .ok (.ifCond .le 7, 3) := by decide +kernel
theorem d_Model_salvage_153 : decode prog_12_method_52_code 153 = .ok (.iconst 0, 1) := by decide +kernel
theorem d_Model_salvage_154 : decode prog_12_method_52_code 154 = .ok (.goto 4, 3) := by decide +kernel
theorem d_Model_salvage_157 : decode prog_12_method_52_code 157 = .ok (.iload_n 3, 1) := by decide +kernel
theorem d_Model_salvage_158 : decode prog_12_method_52_code 158 = .ok (.ireturn, 1) := by decide +kernel
theorem d_Model_salvage_159 : decode prog_12_method_52_code 159 = .ok (.iload 4, 2) := by decide +kernel
theorem d_Model_salvage_161 : decode prog_12_method_52_code 161 = .ok (.istore 6, 2) := by decide +kernel
theorem d_Model_salvage_163 : decode prog_12_method_52_code 163 = .ok (.iload 6, 2) := by decide +kernel
theorem d_Model_salvage_165 : decode prog_12_method_52_code 165 = .ok (.aload_n 0, 1) := by decide +kernel
theorem d_Model_salvage_166 : decode prog_12_method_52_code 166 = .ok (.getfield 125, 3) := by decide +kernel
theorem d_Model_salvage_169 : decode prog_12_method_52_code 169 = .ok (.if_icmp .ge 25, 3) := by decide +kernel
theorem d_Model_salvage_172 : decode prog_12_method_52_code 172 = .ok (.aload_n 0, 1) := by decide +kernel
theorem d_Model_salvage_173 : decode prog_12_method_52_code 173 = .ok (.getfield 112, 3) := by decide +kernel
theorem d_Model_salvage_176 : decode prog_12_method_52_code 176 = .ok (.bipush 24, 2) := by decide +kernel
theorem d_Model_salvage_178 : decode prog_12_method_52_code 178 = .ok (.iload 5, 2) := by decide +kernel
theorem d_Model_salvage_180 : decode prog_12_method_52_code 180 = .ok (.imul, 1) := by decide +kernel
theorem d_Model_salvage_181 : decode prog_12_method_52_code 181 = .ok (.iload 6, 2) := by decide +kernel
theorem d_Model_salvage_183 : decode prog_12_method_52_code 183 = .ok (.iadd, 1) := by decide +kernel
theorem d_Model_salvage_184 : decode prog_12_method_52_code 184 = .ok (.baload, 1) := by decide +kernel
theorem d_Model_salvage_185 : decode prog_12_method_52_code 185 = .ok (.ifCond .ne 9, 3) := by decide +kernel
theorem d_Model_salvage_188 : decode prog_12_method_52_code 188 = .ok (.iinc 6 1, 3) := by decide +kernel
theorem d_Model_salvage_191 : decode prog_12_method_52_code 191 = .ok (.goto (-28), 3) := by decide +kernel
theorem d_Model_salvage_194 : decode prog_12_method_52_code 194 = .ok (.iload_n 2, 1) := by decide +kernel
theorem d_Model_salvage_195 : decode prog_12_method_52_code 195 = .ok (.ifCond .ne 8, 3) := by decide +kernel
theorem d_Model_salvage_198 : decode prog_12_method_52_code 198 = .ok (.iload 4, 2) := by decide +kernel
theorem d_Model_salvage_200 : decode prog_12_method_52_code 200 = .ok (.goto 18, 3) := by decide +kernel
theorem d_Model_salvage_203 : decode prog_12_method_52_code 203 = .ok (.iload_n 2, 1) := by decide +kernel
theorem d_Model_salvage_204 : decode prog_12_method_52_code 204 = .ok (.iconst 1, 1) := by decide +kernel
theorem d_Model_salvage_205 : decode prog_12_method_52_code 205 = .ok (.if_icmp .ne 8, 3) := by decide +kernel
theorem d_Model_salvage_208 : decode prog_12_method_52_code 208 = .ok (.iload 5, 2) := by decide +kernel
theorem d_Model_salvage_210 : decode prog_12_method_52_code 210 = .ok (.goto 8, 3) := by decide +kernel
theorem d_Model_salvage_213 : decode prog_12_method_52_code 213 = .ok (.iload 6, 2) := by decide +kernel
theorem d_Model_salvage_215 : decode prog_12_method_52_code 215 = .ok (.iload 4, 2) := by decide +kernel
theorem d_Model_salvage_217 : decode prog_12_method_52_code 217 = .ok (.isub, 1) := by decide +kernel
theorem d_Model_salvage_218 : decode prog_12_method_52_code 218 = .ok (.ireturn, 1) := by decide +kernel
set_option maxRecDepth 50000 in
theorem cd_Model_salvage : Cond.code y_Model_salvage prog_12_method_52_code 8 (some .int) ∈ TB := mem_TB 1192 rfl rfl
theorem im_Model_salvage : Cond.instanceMethod y_Model_salvage ∈ TB := mem_TB 1190 (by decide +kernel) (by decide +kernel)
theorem sl_Model_salvage : Cond.selects R_Model y_Model_salvage y_Model_salvage ∈ TB := mem_TB 1191 (by decide +kernel) (by decide +kernel)
theorem hd_Model_salvage : y_Model_salvage.cls ≠ "java/lang/invoke/MethodHandle" ∧ y_Model_salvage.cls ≠ "java/lang/invoke/VarHandle" ∧ (parseMethodDescriptor y_Model_salvage.desc).map (fun d => d.parameters.length) = some 2 := by decide +kernel
def y_Model_panel : MethodName := ⟨R_Model, "panel", "(II)I"⟩
abbrev ws_Model_panel : List Cond := .code y_Model_panel prog_12_method_53_code 6 (some .int) :: TB
theorem d_Model_panel_0 : decode prog_12_method_53_code 0 = .ok (.aload_n 0, 1) := by decide +kernel
theorem d_Model_panel_1 : decode prog_12_method_53_code 1 = .ok (.invokevirtual 287, 3) := by decide +kernel
theorem d_Model_panel_4 : decode prog_12_method_53_code 4 = .ok (.ifCond .eq 5, 3) := by decide +kernel
theorem d_Model_panel_7 : decode prog_12_method_53_code 7 = .ok (.iconst 0, 1) := by decide +kernel
theorem d_Model_panel_8 : decode prog_12_method_53_code 8 = .ok (.ireturn, 1) := by decide +kernel
theorem d_Model_panel_9 : decode prog_12_method_53_code 9 = .ok (.aload_n 0, 1) := by decide +kernel
theorem d_Model_panel_10 : decode prog_12_method_53_code 10 = .ok (.iload_n 1, 1) := by decide +kernel
theorem d_Model_panel_11 : decode prog_12_method_53_code 11 = .ok (.i2l, 1) := by decide +kernel
theorem d_Model_panel_12 : decode prog_12_method_53_code 12 = .ok (.lconst 1, 1) := by decide +kernel
theorem d_Model_panel_13 : decode prog_12_method_53_code 13 = .ok (.ldc2_w 301, 3) := by decide +kernel
theorem d_Model_panel_16 : decode prog_12_method_53_code 16 = .ok (.invokestatic 141, 3) := by decide +kernel
theorem d_Model_panel_19 : decode prog_12_method_53_code 19 = .ok (.ifCond .eq 11, 3) := by decide +kernel
theorem d_Model_panel_22 : decode prog_12_method_53_code 22 = .ok (.iload_n 2, 1) := by decide +kernel
theorem d_Model_panel_23 : decode prog_12_method_53_code 23 = .ok (.ifCond .lt 7, 3) := by decide +kernel
theorem d_Model_panel_26 : decode prog_12_method_53_code 26 = .ok (.iconst 0, 1) := by decide +kernel
theorem d_Model_panel_27 : decode prog_12_method_53_code 27 = .ok (.goto 4, 3) := by decide +kernel
theorem d_Model_panel_30 : decode prog_12_method_53_code 30 = .ok (.iconst 2, 1) := by decide +kernel
theorem d_Model_panel_31 : decode prog_12_method_53_code 31 = .ok (.putfield 132, 3) := by decide +kernel
theorem d_Model_panel_34 : decode prog_12_method_53_code 34 = .ok (.aload_n 0, 1) := by decide +kernel
theorem d_Model_panel_35 : decode prog_12_method_53_code 35 = .ok (.getfield 132, 3) := by decide +kernel
theorem d_Model_panel_38 : decode prog_12_method_53_code 38 = .ok (.ifCond .le 5, 3) := by decide +kernel
theorem d_Model_panel_41 : decode prog_12_method_53_code 41 = .ok (.iconst 0, 1) := by decide +kernel
theorem d_Model_panel_42 : decode prog_12_method_53_code 42 = .ok (.ireturn, 1) := by decide +kernel
theorem d_Model_panel_43 : decode prog_12_method_53_code 43 = .ok (.aload_n 0, 1) := by decide +kernel
theorem d_Model_panel_44 : decode prog_12_method_53_code 44 = .ok (.getfield 219, 3) := by decide +kernel
theorem d_Model_panel_47 : decode prog_12_method_53_code 47 = .ok (.istore_n 3, 1) := by decide +kernel
theorem d_Model_panel_48 : decode prog_12_method_53_code 48 = .ok (.iload_n 3, 1) := by decide +kernel
theorem d_Model_panel_49 : decode prog_12_method_53_code 49 = .ok (.ifCond .lt 149, 3) := by decide +kernel
theorem d_Model_panel_52 : decode prog_12_method_53_code 52 = .ok (.iconst 0, 1) := by decide +kernel
theorem d_Model_panel_53 : decode prog_12_method_53_code 53 = .ok (.istore 4, 2) := by decide +kernel
theorem d_Model_panel_55 : decode prog_12_method_53_code 55 = .ok (.iload 4, 2) := by decide +kernel
theorem d_Model_panel_57 : decode prog_12_method_53_code 57 = .ok (.iload_n 1, 1) := by decide +kernel
theorem d_Model_panel_58 : decode prog_12_method_53_code 58 = .ok (.if_icmp .gt 134, 3) := by decide +kernel
theorem d_Model_panel_61 : decode prog_12_method_53_code 61 = .ok (.iload 4, 2) := by decide +kernel
theorem d_Model_panel_63 : decode prog_12_method_53_code 63 = .ok (.ifCond .ne 7, 3) := by decide +kernel
theorem d_Model_panel_66 : decode prog_12_method_53_code 66 = .ok (.iconst 0, 1) := by decide +kernel
theorem d_Model_panel_67 : decode prog_12_method_53_code 67 = .ok (.goto 31, 3) := by decide +kernel
theorem d_Model_panel_70 : decode prog_12_method_53_code 70 = .ok (.iload_n 3, 1) := by decide +kernel
theorem d_Model_panel_71 : decode prog_12_method_53_code 71 = .ok (.aload_n 0, 1) := by decide +kernel
theorem d_Model_panel_72 : decode prog_12_method_53_code 72 = .ok (.getfield 219, 3) := by decide +kernel
theorem d_Model_panel_75 : decode prog_12_method_53_code 75 = .ok (.if_icmp .ne 9, 3) := by decide +kernel
theorem d_Model_panel_78 : decode prog_12_method_53_code 78 = .ok (.sipush 1000, 3) := by decide +kernel
theorem d_Model_panel_81 : decode prog_12_method_53_code 81 = .ok (.goto 17, 3) := by decide +kernel
theorem d_Model_panel_84 : decode prog_12_method_53_code 84 = .ok (.aload_n 0, 1) := by decide +kernel
theorem d_Model_panel_85 : decode prog_12_method_53_code 85 = .ok (.getfield 115, 3) := by decide +kernel
theorem d_Model_panel_88 : decode prog_12_method_53_code 88 = .ok (.bipush 101, 2) := by decide +kernel
theorem d_Model_panel_90 : decode prog_12_method_53_code 90 = .ok (.iload_n 3, 1) := by decide +kernel
theorem d_Model_panel_91 : decode prog_12_method_53_code 91 = .ok (.iconst 1, 1) := by decide +kernel
theorem d_Model_panel_92 : decode prog_12_method_53_code 92 = .ok (.iadd, 1) := by decide +kernel
theorem d_Model_panel_93 : decode prog_12_method_53_code 93 = .ok (.imul, 1) := by decide +kernel
theorem d_Model_panel_94 : decode prog_12_method_53_code 94 = .ok (.iload 4, 2) := by decide +kernel
theorem d_Model_panel_96 : decode prog_12_method_53_code 96 = .ok (.iadd, 1) := by decide +kernel
theorem d_Model_panel_97 : decode prog_12_method_53_code 97 = .ok (.iaload, 1) := by decide +kernel
theorem d_Model_panel_98 : decode prog_12_method_53_code 98 = .ok (.istore 5, 2) := by decide +kernel
theorem d_Model_panel_100 : decode prog_12_method_53_code 100 = .ok (.iload_n 3, 1) := by decide +kernel
theorem d_Model_panel_101 : decode prog_12_method_53_code 101 = .ok (.aload_n 0, 1) := by decide +kernel
theorem d_Model_panel_102 : decode prog_12_method_53_code 102 = .ok (.getfield 219, 3) := by decide +kernel
theorem d_Model_panel_105 : decode prog_12_method_53_code 105 = .ok (.if_icmp .ge 67, 3) := by decide +kernel
theorem d_Model_panel_108 : decode prog_12_method_53_code 108 = .ok (.iload 4, 2) := by decide +kernel
theorem d_Model_panel_110 : decode prog_12_method_53_code 110 = .ok (.aload_n 0, 1) := by decide +kernel
theorem d_Model_panel_111 : decode prog_12_method_53_code 111 = .ok (.getfield 103, 3) := by decide +kernel
theorem d_Model_panel_114 : decode prog_12_method_53_code 114 = .ok (.iload_n 3, 1) := by decide +kernel
theorem d_Model_panel_115 : decode prog_12_method_53_code 115 = .ok (.iaload, 1) := by decide +kernel
theorem d_Model_panel_116 : decode prog_12_method_53_code 116 = .ok (.if_icmp .lt 56, 3) := by decide +kernel
theorem d_Model_panel_119 : decode prog_12_method_53_code 119 = .ok (.aload_n 0, 1) := by decide +kernel
theorem d_Model_panel_120 : decode prog_12_method_53_code 120 = .ok (.getfield 115, 3) := by decide +kernel
theorem d_Model_panel_123 : decode prog_12_method_53_code 123 = .ok (.bipush 101, 2) := by decide +kernel
theorem d_Model_panel_125 : decode prog_12_method_53_code 125 = .ok (.iload_n 3, 1) := by decide +kernel
theorem d_Model_panel_126 : decode prog_12_method_53_code 126 = .ok (.iconst 1, 1) := by decide +kernel
theorem d_Model_panel_127 : decode prog_12_method_53_code 127 = .ok (.iadd, 1) := by decide +kernel
theorem d_Model_panel_128 : decode prog_12_method_53_code 128 = .ok (.imul, 1) := by decide +kernel
theorem d_Model_panel_129 : decode prog_12_method_53_code 129 = .ok (.iload 4, 2) := by decide +kernel
theorem d_Model_panel_131 : decode prog_12_method_53_code 131 = .ok (.iadd, 1) := by decide +kernel
theorem d_Model_panel_132 : decode prog_12_method_53_code 132 = .ok (.aload_n 0, 1) := by decide +kernel
theorem d_Model_panel_133 : decode prog_12_method_53_code 133 = .ok (.getfield 103, 3) := by decide +kernel
theorem d_Model_panel_136 : decode prog_12_method_53_code 136 = .ok (.iload_n 3, 1) := by decide +kernel
theorem d_Model_panel_137 : decode prog_12_method_53_code 137 = .ok (.iaload, 1) := by decide +kernel
theorem d_Model_panel_138 : decode prog_12_method_53_code 138 = .ok (.isub, 1) := by decide +kernel
theorem d_Model_panel_139 : decode prog_12_method_53_code 139 = .ok (.iaload, 1) := by decide +kernel
theorem d_Model_panel_140 : decode prog_12_method_53_code 140 = .ok (.iconst 1, 1) := by decide +kernel
theorem d_Model_panel_141 : decode prog_12_method_53_code 141 = .ok (.iadd, 1) := by decide +kernel
theorem d_Model_panel_142 : decode prog_12_method_53_code 142 = .ok (.iload 5, 2) := by decide +kernel
theorem d_Model_panel_144 : decode prog_12_method_53_code 144 = .ok (.if_icmp .ge 28, 3) := by decide +kernel
theorem d_Model_panel_147 : decode prog_12_method_53_code 147 = .ok (.aload_n 0, 1) := by decide +kernel
theorem d_Model_panel_148 : decode prog_12_method_53_code 148 = .ok (.getfield 115, 3) := by decide +kernel
theorem d_Model_panel_151 : decode prog_12_method_53_code 151 = .ok (.bipush 101, 2) := by decide +kernel
theorem d_Model_panel_153 : decode prog_12_method_53_code 153 = .ok (.iload_n 3, 1) := by decide +kernel
theorem d_Model_panel_154 : decode prog_12_method_53_code 154 = .ok (.iconst 1, 1) := by decide +kernel
theorem d_Model_panel_155 : decode prog_12_method_53_code 155 = .ok (.iadd, 1) := by decide +kernel
theorem d_Model_panel_156 : decode prog_12_method_53_code 156 = .ok (.imul, 1) := by decide +kernel
theorem d_Model_panel_157 : decode prog_12_method_53_code 157 = .ok (.iload 4, 2) := by decide +kernel
theorem d_Model_panel_159 : decode prog_12_method_53_code 159 = .ok (.iadd, 1) := by decide +kernel
theorem d_Model_panel_160 : decode prog_12_method_53_code 160 = .ok (.aload_n 0, 1) := by decide +kernel
theorem d_Model_panel_161 : decode prog_12_method_53_code 161 = .ok (.getfield 103, 3) := by decide +kernel
theorem d_Model_panel_164 : decode prog_12_method_53_code 164 = .ok (.iload_n 3, 1) := by decide +kernel
theorem d_Model_panel_165 : decode prog_12_method_53_code 165 = .ok (.iaload, 1) := by decide +kernel
theorem d_Model_panel_166 : decode prog_12_method_53_code 166 = .ok (.isub, 1) := by decide +kernel
theorem d_Model_panel_167 : decode prog_12_method_53_code 167 = .ok (.iaload, 1) := by decide +kernel
theorem d_Model_panel_168 : decode prog_12_method_53_code 168 = .ok (.iconst 1, 1) := by decide +kernel
theorem d_Model_panel_169 : decode prog_12_method_53_code 169 = .ok (.iadd, 1) := by decide +kernel
theorem d_Model_panel_170 : decode prog_12_method_53_code 170 = .ok (.istore 5, 2) := by decide +kernel
theorem d_Model_panel_172 : decode prog_12_method_53_code 172 = .ok (.aload_n 0, 1) := by decide +kernel
theorem d_Model_panel_173 : decode prog_12_method_53_code 173 = .ok (.getfield 115, 3) := by decide +kernel
theorem d_Model_panel_176 : decode prog_12_method_53_code 176 = .ok (.bipush 101, 2) := by decide +kernel
theorem d_Model_panel_178 : decode prog_12_method_53_code 178 = .ok (.iload_n 3, 1) := by decide +kernel
theorem d_Model_panel_179 : decode prog_12_method_53_code 179 = .ok (.imul, 1) := by decide +kernel
theorem d_Model_panel_180 : decode prog_12_method_53_code 180 = .ok (.iload 4, 2) := by decide +kernel
theorem d_Model_panel_182 : decode prog_12_method_53_code 182 = .ok (.iadd, 1) := by decide +kernel
theorem d_Model_panel_183 : decode prog_12_method_53_code 183 = .ok (.iload 5, 2) := by decide +kernel
theorem d_Model_panel_185 : decode prog_12_method_53_code 185 = .ok (.iastore, 1) := by decide +kernel
theorem d_Model_panel_186 : decode prog_12_method_53_code 186 = .ok (.iinc 4 1, 3) := by decide +kernel
theorem d_Model_panel_189 : decode prog_12_method_53_code 189 = .ok (.goto (-134), 3) := by decide +kernel
theorem d_Model_panel_192 : decode prog_12_method_53_code 192 = .ok (.iinc 3 (-1), 3) := by decide +kernel
theorem d_Model_panel_195 : decode prog_12_method_53_code 195 = .ok (.goto (-147), 3) := by decide +kernel
theorem d_Model_panel_198 : decode prog_12_method_53_code 198 = .ok (.aload_n 0, 1) := by decide +kernel
theorem d_Model_panel_199 : decode prog_12_method_53_code 199 = .ok (.getfield 115, 3) := by decide +kernel
theorem d_Model_panel_202 : decode prog_12_method_53_code 202 = .ok (.iload_n 1, 1) := by decide +kernel
theorem d_Model_panel_203 : decode prog_12_method_53_code 203 = .ok (.iaload, 1) := by decide +kernel
theorem d_Model_panel_204 : decode prog_12_method_53_code 204 = .ok (.sipush 1000, 3) := by decide +kernel
theorem d_Model_panel_207 : decode prog_12_method_53_code 207 = .ok (.if_icmp .lt 5, 3) := by decide +kernel
theorem d_Model_panel_210 : decode prog_12_method_53_code 210 = .ok (.iconst (-1), 1) := by decide +kernel
theorem d_Model_panel_211 : decode prog_12_method_53_code 211 = .ok (.ireturn, 1) := by decide +kernel
theorem d_Model_panel_212 : decode prog_12_method_53_code 212 = .ok (.iload_n 1, 1) := by decide +kernel
theorem d_Model_panel_213 : decode prog_12_method_53_code 213 = .ok (.istore_n 3, 1) := by decide +kernel
theorem d_Model_panel_214 : decode prog_12_method_53_code 214 = .ok (.iconst 0, 1) := by decide +kernel
theorem d_Model_panel_215 : decode prog_12_method_53_code 215 = .ok (.istore 4, 2) := by decide +kernel
theorem d_Model_panel_217 : decode prog_12_method_53_code 217 = .ok (.iconst 0, 1) := by decide +kernel
theorem d_Model_panel_218 : decode prog_12_method_53_code 218 = .ok (.istore 5, 2) := by decide +kernel
theorem d_Model_panel_220 : decode prog_12_method_53_code 220 = .ok (.iload 5, 2) := by decide +kernel
theorem d_Model_panel_222 : decode prog_12_method_53_code 222 = .ok (.aload_n 0, 1) := by decide +kernel
theorem d_Model_panel_223 : decode prog_12_method_53_code 223 = .ok (.getfield 219, 3) := by decide +kernel
theorem d_Model_panel_226 : decode prog_12_method_53_code 226 = .ok (.if_icmp .ge 81, 3) := by decide +kernel
theorem d_Model_panel_229 : decode prog_12_method_53_code 229 = .ok (.iload_n 3, 1) := by decide +kernel
theorem d_Model_panel_230 : decode prog_12_method_53_code 230 = .ok (.aload_n 0, 1) := by decide +kernel
theorem d_Model_panel_231 : decode prog_12_method_53_code 231 = .ok (.getfield 103, 3) := by decide +kernel
theorem d_Model_panel_234 : decode prog_12_method_53_code 234 = .ok (.iload 5, 2) := by decide +kernel
theorem d_Model_panel_236 : decode prog_12_method_53_code 236 = .ok (.iaload, 1) := by decide +kernel
theorem d_Model_panel_237 : decode prog_12_method_53_code 237 = .ok (.if_icmp .lt 64, 3) := by decide +kernel
theorem d_Model_panel_240 : decode prog_12_method_53_code 240 = .ok (.aload_n 0, 1) := by decide +kernel
theorem d_Model_panel_241 : decode prog_12_method_53_code 241 = .ok (.getfield 115, 3) := by decide +kernel
theorem d_Model_panel_244 : decode prog_12_method_53_code 244 = .ok (.bipush 101, 2) := by decide +kernel
theorem d_Model_panel_246 : decode prog_12_method_53_code 246 = .ok (.iload 5, 2) := by decide +kernel
theorem d_Model_panel_248 : decode prog_12_method_53_code 248 = .ok (.iconst 1, 1) := by decide +kernel
theorem d_Model_panel_249 : decode prog_12_method_53_code 249 = .ok (.iadd, 1) := by decide +kernel
theorem d_Model_panel_250 : decode prog_12_method_53_code 250 = .ok (.imul, 1) := by decide +kernel
theorem d_Model_panel_251 : decode prog_12_method_53_code 251 = .ok (.iload_n 3, 1) := by decide +kernel
theorem d_Model_panel_252 : decode prog_12_method_53_code 252 = .ok (.iadd, 1) := by decide +kernel
theorem d_Model_panel_253 : decode prog_12_method_53_code 253 = .ok (.aload_n 0, 1) := by decide +kernel
theorem d_Model_panel_254 : decode prog_12_method_53_code 254 = .ok (.getfield 103, 3) := by decide +kernel
theorem d_Model_panel_257 : decode prog_12_method_53_code 257 = .ok (.iload 5, 2) := by decide +kernel
theorem d_Model_panel_259 : decode prog_12_method_53_code 259 = .ok (.iaload, 1) := by decide +kernel
theorem d_Model_panel_260 : decode prog_12_method_53_code 260 = .ok (.isub, 1) := by decide +kernel
theorem d_Model_panel_261 : decode prog_12_method_53_code 261 = .ok (.iaload, 1) := by decide +kernel
theorem d_Model_panel_262 : decode prog_12_method_53_code 262 = .ok (.iconst 1, 1) := by decide +kernel
theorem d_Model_panel_263 : decode prog_12_method_53_code 263 = .ok (.iadd, 1) := by decide +kernel
theorem d_Model_panel_264 : decode prog_12_method_53_code 264 = .ok (.aload_n 0, 1) := by decide +kernel
theorem d_Model_panel_265 : decode prog_12_method_53_code 265 = .ok (.getfield 115, 3) := by decide +kernel
theorem d_Model_panel_268 : decode prog_12_method_53_code 268 = .ok (.bipush 101, 2) := by decide +kernel
theorem d_Model_panel_270 : decode prog_12_method_53_code 270 = .ok (.iload 5, 2) := by decide +kernel
theorem d_Model_panel_272 : decode prog_12_method_53_code 272 = .ok (.imul, 1) := by decide +kernel
theorem d_Model_panel_273 : decode prog_12_method_53_code 273 = .ok (.iload_n 3, 1) := by decide +kernel
theorem d_Model_panel_274 : decode prog_12_method_53_code 274 = .ok (.iadd, 1) := by decide +kernel
theorem d_Model_panel_275 : decode prog_12_method_53_code 275 = .ok (.iaload, 1) := by decide +kernel
theorem d_Model_panel_276 : decode prog_12_method_53_code 276 = .ok (.if_icmp .ne 25, 3) := by decide +kernel
theorem d_Model_panel_279 : decode prog_12_method_53_code 279 = .ok (.iload 4, 2) := by decide +kernel
theorem d_Model_panel_281 : decode prog_12_method_53_code 281 = .ok (.iload_n 2, 1) := by decide +kernel
theorem d_Model_panel_282 : decode prog_12_method_53_code 282 = .ok (.if_icmp .ne 6, 3) := by decide +kernel
theorem d_Model_panel_285 : decode prog_12_method_53_code 285 = .ok (.iload 5, 2) := by decide +kernel
theorem d_Model_panel_287 : decode prog_12_method_53_code 287 = .ok (.ireturn, 1) := by decide +kernel
theorem d_Model_panel_288 : decode prog_12_method_53_code 288 = .ok (.iinc 4 1, 3) := by decide +kernel
theorem d_Model_panel_291 : decode prog_12_method_53_code 291 = .ok (.iload_n 3, 1) := by decide +kernel
theorem d_Model_panel_292 : decode prog_12_method_53_code 292 = .ok (.aload_n 0, 1) := by decide +kernel
theorem d_Model_panel_293 : decode prog_12_method_53_code 293 = .ok (.getfield 103, 3) := by decide +kernel
theorem d_Model_panel_296 : decode prog_12_method_53_code 296 = .ok (.iload 5, 2) := by decide +kernel
theorem d_Model_panel_298 : decode prog_12_method_53_code 298 = .ok (.iaload, 1) := by decide +kernel
theorem d_Model_panel_299 : decode prog_12_method_53_code 299 = .ok (.isub, 1) := by decide +kernel
theorem d_Model_panel_300 : decode prog_12_method_53_code 300 = .ok (.istore_n 3, 1) := by decide +kernel
theorem d_Model_panel_301 : decode prog_12_method_53_code 301 = .ok (.iinc 5 1, 3) := by decide +kernel
theorem d_Model_panel_304 : decode prog_12_method_53_code 304 = .ok (.goto (-84), 3) := by decide +kernel
theorem d_Model_panel_307 : decode prog_12_method_53_code 307 = .ok (.iconst (-1), 1) := by decide +kernel
theorem d_Model_panel_308 : decode prog_12_method_53_code 308 = .ok (.ireturn, 1) := by decide +kernel
set_option maxRecDepth 50000 in
theorem cd_Model_panel : Cond.code y_Model_panel prog_12_method_53_code 6 (some .int) ∈ TB := mem_TB 1205 rfl rfl
theorem im_Model_panel : Cond.instanceMethod y_Model_panel ∈ TB := mem_TB 1203 (by decide +kernel) (by decide +kernel)
theorem sl_Model_panel : Cond.selects R_Model y_Model_panel y_Model_panel ∈ TB := mem_TB 1204 (by decide +kernel) (by decide +kernel)
theorem hd_Model_panel : y_Model_panel.cls ≠ "java/lang/invoke/MethodHandle" ∧ y_Model_panel.cls ≠ "java/lang/invoke/VarHandle" ∧ (parseMethodDescriptor y_Model_panel.desc).map (fun d => d.parameters.length) = some 2 := by decide +kernel
def y_Model_greatest : MethodName := ⟨R_Model, "greatest", "()Z"⟩
abbrev ws_Model_greatest : List Cond := .code y_Model_greatest prog_12_method_54_code 1 (some .boolean) :: TB
theorem d_Model_greatest_0 : decode prog_12_method_54_code 0 = .ok (.aload_n 0, 1) := by decide +kernel
theorem d_Model_greatest_1 : decode prog_12_method_54_code 1 = .ok (.invokevirtual 287, 3) := by decide +kernel
theorem d_Model_greatest_4 : decode prog_12_method_54_code 4 = .ok (.ifCond .ne 19, 3) := by decide +kernel
theorem d_Model_greatest_7 : decode prog_12_method_54_code 7 = .ok (.aload_n 0, 1) := by decide +kernel
theorem d_Model_greatest_8 : decode prog_12_method_54_code 8 = .ok (.invokevirtual 272, 3) := by decide +kernel
theorem d_Model_greatest_11 : decode prog_12_method_54_code 11 = .ok (.aload_n 0, 1) := by decide +kernel
theorem d_Model_greatest_12 : decode prog_12_method_54_code 12 = .ok (.getfield 253, 3) := by decide +kernel
theorem d_Model_greatest_15 : decode prog_12_method_54_code 15 = .ok (.lcmp, 1) := by decide +kernel
theorem d_Model_greatest_16 : decode prog_12_method_54_code 16 = .ok (.ifCond .ne 7, 3) := by decide +kernel
theorem d_Model_greatest_19 : decode prog_12_method_54_code 19 = .ok (.iconst 1, 1) := by decide +kernel
theorem d_Model_greatest_20 : decode prog_12_method_54_code 20 = .ok (.goto 4, 3) := by decide +kernel
theorem d_Model_greatest_23 : decode prog_12_method_54_code 23 = .ok (.iconst 0, 1) := by decide +kernel
theorem d_Model_greatest_24 : decode prog_12_method_54_code 24 = .ok (.ireturn, 1) := by decide +kernel
set_option maxRecDepth 50000 in
theorem cd_Model_greatest : Cond.code y_Model_greatest prog_12_method_54_code 1 (some .boolean) ∈ TB := mem_TB 1210 rfl rfl
theorem im_Model_greatest : Cond.instanceMethod y_Model_greatest ∈ TB := mem_TB 1208 (by decide +kernel) (by decide +kernel)
theorem sl_Model_greatest : Cond.selects R_Model y_Model_greatest y_Model_greatest ∈ TB := mem_TB 1209 (by decide +kernel) (by decide +kernel)
theorem hd_Model_greatest : y_Model_greatest.cls ≠ "java/lang/invoke/MethodHandle" ∧ y_Model_greatest.cls ≠ "java/lang/invoke/VarHandle" ∧ (parseMethodDescriptor y_Model_greatest.desc).map (fun d => d.parameters.length) = some 0 := by decide +kernel
