theorem d_Law_law_257 : decode code 257 = .ok (.laload, 1) := by decide +kernel
theorem d_Law_law_258 : decode code 258 = .ok (.iload 6, 2) := by decide +kernel
theorem d_Law_law_260 : decode code 260 = .ok (.ifCond .eq 7, 3) := by decide +kernel
theorem d_Law_law_263 : decode code 263 = .ok (.lconst 1, 1) := by decide +kernel
theorem d_Law_law_264 : decode code 264 = .ok (.goto 4, 3) := by decide +kernel
theorem d_Law_law_267 : decode code 267 = .ok (.lconst 0, 1) := by decide +kernel
theorem d_Law_law_268 : decode code 268 = .ok (.lcmp, 1) := by decide +kernel
theorem d_Law_law_269 : decode code 269 = .ok (.ifCond .eq 5, 3) := by decide +kernel
theorem d_Law_law_272 : decode code 272 = .ok (.iconst 0, 1) := by decide +kernel
theorem d_Law_law_273 : decode code 273 = .ok (.ireturn, 1) := by decide +kernel
theorem d_Law_law_274 : decode code 274 = .ok (.goto 1073, 3) := by decide +kernel
theorem d_Law_law_277 : decode code 277 = .ok (.aload_n 1, 1) := by decide +kernel
theorem d_Law_law_278 : decode code 278 = .ok (.aload_n 0, 1) := by decide +kernel
theorem d_Law_law_279 : decode code 279 = .ok (.iload 4, 2) := by decide +kernel
theorem d_Law_law_281 : decode code 281 = .ok (.iconst 1, 1) := by decide +kernel
theorem d_Law_law_282 : decode code 282 = .ok (.iadd, 1) := by decide +kernel
theorem d_Law_law_283 : decode code 283 = .ok (.iaload, 1) := by decide +kernel
theorem d_Law_law_284 : decode code 284 = .ok (.aload_n 0, 1) := by decide +kernel
theorem d_Law_law_285 : decode code 285 = .ok (.iload 4, 2) := by decide +kernel
theorem d_Law_law_287 : decode code 287 = .ok (.iconst 2, 1) := by decide +kernel
theorem d_Law_law_288 : decode code 288 = .ok (.iadd, 1) := by decide +kernel
theorem d_Law_law_289 : decode code 289 = .ok (.iaload, 1) := by decide +kernel
theorem d_Law_law_290 : decode code 290 = .ok (.aload_n 0, 1) := by decide +kernel
theorem d_Law_law_291 : decode code 291 = .ok (.iload 4, 2) := by decide +kernel
theorem d_Law_law_293 : decode code 293 = .ok (.iconst 3, 1) := by decide +kernel
theorem d_Law_law_294 : decode code 294 = .ok (.iadd, 1) := by decide +kernel
theorem d_Law_law_295 : decode code 295 = .ok (.iaload, 1) := by decide +kernel
theorem d_Law_law_296 : decode code 296 = .ok (.aload_n 0, 1) := by decide +kernel
theorem d_Law_law_297 : decode code 297 = .ok (.iload 4, 2) := by decide +kernel
theorem d_Law_law_299 : decode code 299 = .ok (.iconst 4, 1) := by decide +kernel
theorem d_Law_law_300 : decode code 300 = .ok (.iadd, 1) := by decide +kernel
theorem d_Law_law_301 : decode code 301 = .ok (.iaload, 1) := by decide +kernel
theorem d_Law_law_302 : decode code 302 = .ok (.i2l, 1) := by decide +kernel
theorem d_Law_law_303 : decode code 303 = .ok (.bipush 32, 2) := by decide +kernel
theorem d_Law_law_305 : decode code 305 = .ok (.lshl, 1) := by decide +kernel
theorem d_Law_law_306 : decode code 306 = .ok (.aload_n 0, 1) := by decide +kernel
theorem d_Law_law_307 : decode code 307 = .ok (.iload 4, 2) := by decide +kernel
theorem d_Law_law_309 : decode code 309 = .ok (.iconst 5, 1) := by decide +kernel
theorem d_Law_law_310 : decode code 310 = .ok (.iadd, 1) := by decide +kernel
theorem d_Law_law_311 : decode code 311 = .ok (.iaload, 1) := by decide +kernel
theorem d_Law_law_312 : decode code 312 = .ok (.i2l, 1) := by decide +kernel
theorem d_Law_law_313 : decode code 313 = .ok (.ldc2_w 96, 3) := by decide +kernel
theorem d_Law_law_316 : decode code 316 = .ok (.land, 1) := by decide +kernel
theorem d_Law_law_317 : decode code 317 = .ok (.lor, 1) := by decide +kernel
theorem d_Law_law_318 : decode code 318 = .ok (.aload_n 3, 1) := by decide +kernel
theorem d_Law_law_319 : decode code 319 = .ok (.invokestatic 98, 3) := by decide +kernel
theorem d_Law_law_322 : decode code 322 = .ok (.istore 5, 2) := by decide +kernel
theorem d_Law_law_324 : decode code 324 = .ok (.aload_n 2, 1) := by decide +kernel
theorem d_Law_law_325 : decode code 325 = .ok (.aload_n 0, 1) := by decide +kernel
theorem d_Law_law_326 : decode code 326 = .ok (.iload 4, 2) := by decide +kernel
theorem d_Law_law_328 : decode code 328 = .ok (.iconst 1, 1) := by decide +kernel
theorem d_Law_law_329 : decode code 329 = .ok (.iadd, 1) := by decide +kernel
theorem d_Law_law_330 : decode code 330 = .ok (.iaload, 1) := by decide +kernel
theorem d_Law_law_331 : decode code 331 = .ok (.aload_n 0, 1) := by decide +kernel
theorem d_Law_law_332 : decode code 332 = .ok (.iload 4, 2) := by decide +kernel
theorem d_Law_law_334 : decode code 334 = .ok (.iconst 2, 1) := by decide +kernel
theorem d_Law_law_335 : decode code 335 = .ok (.iadd, 1) := by decide +kernel
theorem d_Law_law_336 : decode code 336 = .ok (.iaload, 1) := by decide +kernel
theorem d_Law_law_337 : decode code 337 = .ok (.aload_n 0, 1) := by decide +kernel
theorem d_Law_law_338 : decode code 338 = .ok (.iload 4, 2) := by decide +kernel
