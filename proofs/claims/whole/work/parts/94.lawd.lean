def R_law : String := "FaultRipsLaw"
def lw_P (b : Addr) (xs : List Int32) (args : Array Value) (s : State) : Prop := args = #[.ref b] ∧ s.IntsAt b xs ∧ xs.length ≤ 3587 ∧ (Jvm.Cond.and given_1 narrow_1).before args s = true
def lw_Q (_ : Array Value) (s : State) (o : Outcome) (t : State) : Prop := o = .returned (some (.int 1)) ∧ Framed s o t [] 601024 7293000
def lw_Z (below : List Frame) (a : Array Value) (s : State) : State → Prop := fun t => ∃ o, t.status = .running ∧ Ended t below o ∧ lw_Q a s o t
/-- the law's own end, with 1 on the stack, nothing written that was there before, its room as the claim has it -/
theorem lw_ret {p : Program} {l : Launch} {e : Env} {s : State} {m : MethodId} {below : List Frame} {meth : Method} {c : Code} {b : Nat} (hx : p.tables.exec = Jvm.exec) (hb : c.code = code) (hr : meth.sig.returnType = ret) (hlocks : meth.locks = false) {pc : Nat} {H : Heap} {ls : Array Slot} (hdg : decode code pc = .ok (.ireturn, 1)) : W p l e room_1 s m #[Value.ref b] below meth c H [] 601024 7293000 (lw_Z below #[Value.ref b] s) (F0 m pc ls [.int 1]) := by
  intro T hT X
  obtain ⟨fs, hret, hrun, hended, hW, hframe⟩ := X.leave (v := some (.int 1)) (hlocks := hlocks) (fun h => by rw [hr] at h; cases h)
  have hmeth' : T.vm.method? m = some meth := X.method'
  refine ⟨T.setFrames fs, ?_, .returned (some (.int 1)), hrun, hended, rfl, ⟨_, rfl⟩, hW, hframe⟩
  jvm_step X.here [X.here.top, hx, hb, hdg, hmeth', hr, ret, narrow_b1]
  (try refine ⟨rfl, ?_⟩); (try refine ⟨rfl, ?_⟩)
  first | (intro acts; rw [hret _ acts rfl rfl rfl]) | rw [hret _ _ rfl rfl rfl]
  exact Steps.refl _
/-- what holds at the law's entry: the machine, the code, the tables' words (any of lw_tbl by 'hts w (by decide +kernel)'), the script of L ints xs at the cell b, what the Statement gives of the start (any of its parts by flat_of_before) -/
def lw_At (p : Program) (s : State) (m : MethodId) (meth : Method) (c : Code) (b L : Nat) (xs : Nat → Int32) : Prop :=
  p.tables.exec = Jvm.exec ∧ c.code = code ∧ meth.sig.returnType = ret ∧ c.maxLocals = 8 ∧ s.vm.findClass R_law = some m.cls ∧ (∀ w ∈ lw_tbl, w.before #[Value.ref b] s = true) ∧ va_X b L xs s s.heap ∧ b < s.heap.size ∧ meth.locks = false ∧ (Jvm.Cond.and given_1 narrow_1).before #[Value.ref b] s = true

theorem d_Law_law_0 : decode code 0 = .ok (.new 8, 3) := by decide +kernel
theorem d_Law_law_3 : decode code 3 = .ok (.dup, 1) := by decide +kernel
theorem d_Law_law_4 : decode code 4 = .ok (.aload_n 0, 1) := by decide +kernel
theorem d_Law_law_5 : decode code 5 = .ok (.iconst 0, 1) := by decide +kernel
theorem d_Law_law_6 : decode code 6 = .ok (.invokestatic 76, 3) := by decide +kernel
theorem d_Law_law_9 : decode code 9 = .ok (.aload_n 0, 1) := by decide +kernel
theorem d_Law_law_10 : decode code 10 = .ok (.iconst 1, 1) := by decide +kernel
theorem d_Law_law_11 : decode code 11 = .ok (.invokestatic 76, 3) := by decide +kernel
theorem d_Law_law_14 : decode code 14 = .ok (.aload_n 0, 1) := by decide +kernel
theorem d_Law_law_15 : decode code 15 = .ok (.iconst 2, 1) := by decide +kernel
theorem d_Law_law_16 : decode code 16 = .ok (.invokestatic 76, 3) := by decide +kernel
theorem d_Law_law_19 : decode code 19 = .ok (.invokespecial 82, 3) := by decide +kernel
theorem d_Law_law_22 : decode code 22 = .ok (.astore_n 1, 1) := by decide +kernel
theorem d_Law_law_23 : decode code 23 = .ok (.new 85, 3) := by decide +kernel
theorem d_Law_law_26 : decode code 26 = .ok (.dup, 1) := by decide +kernel
theorem d_Law_law_27 : decode code 27 = .ok (.aload_n 0, 1) := by decide +kernel
theorem d_Law_law_28 : decode code 28 = .ok (.iconst 0, 1) := by decide +kernel
theorem d_Law_law_29 : decode code 29 = .ok (.invokestatic 76, 3) := by decide +kernel
theorem d_Law_law_32 : decode code 32 = .ok (.aload_n 0, 1) := by decide +kernel
theorem d_Law_law_33 : decode code 33 = .ok (.iconst 1, 1) := by decide +kernel
theorem d_Law_law_34 : decode code 34 = .ok (.invokestatic 76, 3) := by decide +kernel
theorem d_Law_law_37 : decode code 37 = .ok (.aload_n 0, 1) := by decide +kernel
theorem d_Law_law_38 : decode code 38 = .ok (.iconst 2, 1) := by decide +kernel
theorem d_Law_law_39 : decode code 39 = .ok (.invokestatic 76, 3) := by decide +kernel
theorem d_Law_law_42 : decode code 42 = .ok (.invokespecial 87, 3) := by decide +kernel
theorem d_Law_law_45 : decode code 45 = .ok (.astore_n 2, 1) := by decide +kernel
theorem d_Law_law_46 : decode code 46 = .ok (.iconst 1, 1) := by decide +kernel
theorem d_Law_law_47 : decode code 47 = .ok (.newarray .long, 2) := by decide +kernel
theorem d_Law_law_49 : decode code 49 = .ok (.astore_n 3, 1) := by decide +kernel
theorem d_Law_law_50 : decode code 50 = .ok (.iconst 3, 1) := by decide +kernel
theorem d_Law_law_51 : decode code 51 = .ok (.istore 4, 2) := by decide +kernel
theorem d_Law_law_53 : decode code 53 = .ok (.iload 4, 2) := by decide +kernel
theorem d_Law_law_55 : decode code 55 = .ok (.aload_n 0, 1) := by decide +kernel
theorem d_Law_law_56 : decode code 56 = .ok (.arraylength, 1) := by decide +kernel
theorem d_Law_law_57 : decode code 57 = .ok (.bipush 7, 2) := by decide +kernel
theorem d_Law_law_59 : decode code 59 = .ok (.isub, 1) := by decide +kernel
theorem d_Law_law_60 : decode code 60 = .ok (.if_icmp .gt 1293, 3) := by decide +kernel
theorem d_Law_law_63 : decode code 63 = .ok (.aload_n 0, 1) := by decide +kernel
theorem d_Law_law_64 : decode code 64 = .ok (.iload 4, 2) := by decide +kernel
theorem d_Law_law_66 : decode code 66 = .ok (.iaload, 1) := by decide +kernel
theorem d_Law_law_67 : decode code 67 = .ok (.bipush 31, 2) := by decide +kernel
theorem d_Law_law_69 : decode code 69 = .ok (.iand, 1) := by decide +kernel
theorem d_Law_law_70 : decode code 70 = .ok (.tableswitch 1277 0 16 #[82, 207, 331, 418, 481, 556, 619, 682, 750, 806, 849, 917, 980, 1023, 1090, 1158, 1226], 82) := by decide +kernel
theorem d_Law_law_152 : decode code 152 = .ok (.aload_n 1, 1) := by decide +kernel
theorem d_Law_law_153 : decode code 153 = .ok (.aload_n 0, 1) := by decide +kernel
theorem d_Law_law_154 : decode code 154 = .ok (.iload 4, 2) := by decide +kernel
theorem d_Law_law_156 : decode code 156 = .ok (.iconst 1, 1) := by decide +kernel
theorem d_Law_law_157 : decode code 157 = .ok (.iadd, 1) := by decide +kernel
theorem d_Law_law_158 : decode code 158 = .ok (.iaload, 1) := by decide +kernel
theorem d_Law_law_159 : decode code 159 = .ok (.aload_n 0, 1) := by decide +kernel
theorem d_Law_law_160 : decode code 160 = .ok (.iload 4, 2) := by decide +kernel
theorem d_Law_law_162 : decode code 162 = .ok (.iconst 2, 1) := by decide +kernel
theorem d_Law_law_163 : decode code 163 = .ok (.iadd, 1) := by decide +kernel
theorem d_Law_law_164 : decode code 164 = .ok (.iaload, 1) := by decide +kernel
theorem d_Law_law_165 : decode code 165 = .ok (.aload_n 0, 1) := by decide +kernel
theorem d_Law_law_166 : decode code 166 = .ok (.iload 4, 2) := by decide +kernel
theorem d_Law_law_168 : decode code 168 = .ok (.iconst 3, 1) := by decide +kernel
theorem d_Law_law_169 : decode code 169 = .ok (.iadd, 1) := by decide +kernel
theorem d_Law_law_170 : decode code 170 = .ok (.iaload, 1) := by decide +kernel
theorem d_Law_law_171 : decode code 171 = .ok (.aload_n 0, 1) := by decide +kernel
theorem d_Law_law_172 : decode code 172 = .ok (.iload 4, 2) := by decide +kernel
theorem d_Law_law_174 : decode code 174 = .ok (.iconst 4, 1) := by decide +kernel
theorem d_Law_law_175 : decode code 175 = .ok (.iadd, 1) := by decide +kernel
theorem d_Law_law_176 : decode code 176 = .ok (.iaload, 1) := by decide +kernel
theorem d_Law_law_177 : decode code 177 = .ok (.aload_n 0, 1) := by decide +kernel
theorem d_Law_law_178 : decode code 178 = .ok (.iload 4, 2) := by decide +kernel
theorem d_Law_law_180 : decode code 180 = .ok (.iconst 5, 1) := by decide +kernel
theorem d_Law_law_181 : decode code 181 = .ok (.iadd, 1) := by decide +kernel
theorem d_Law_law_182 : decode code 182 = .ok (.iaload, 1) := by decide +kernel
theorem d_Law_law_183 : decode code 183 = .ok (.aload_n 0, 1) := by decide +kernel
theorem d_Law_law_184 : decode code 184 = .ok (.iload 4, 2) := by decide +kernel
theorem d_Law_law_186 : decode code 186 = .ok (.bipush 6, 2) := by decide +kernel
theorem d_Law_law_188 : decode code 188 = .ok (.iadd, 1) := by decide +kernel
theorem d_Law_law_189 : decode code 189 = .ok (.iaload, 1) := by decide +kernel
theorem d_Law_law_190 : decode code 190 = .ok (.aload_n 3, 1) := by decide +kernel
theorem d_Law_law_191 : decode code 191 = .ok (.invokestatic 88, 3) := by decide +kernel
theorem d_Law_law_194 : decode code 194 = .ok (.istore 5, 2) := by decide +kernel
theorem d_Law_law_196 : decode code 196 = .ok (.aload_n 2, 1) := by decide +kernel
theorem d_Law_law_197 : decode code 197 = .ok (.aload_n 0, 1) := by decide +kernel
theorem d_Law_law_198 : decode code 198 = .ok (.iload 4, 2) := by decide +kernel
theorem d_Law_law_200 : decode code 200 = .ok (.iconst 1, 1) := by decide +kernel
theorem d_Law_law_201 : decode code 201 = .ok (.iadd, 1) := by decide +kernel
theorem d_Law_law_202 : decode code 202 = .ok (.iaload, 1) := by decide +kernel
theorem d_Law_law_203 : decode code 203 = .ok (.aload_n 0, 1) := by decide +kernel
theorem d_Law_law_204 : decode code 204 = .ok (.iload 4, 2) := by decide +kernel
theorem d_Law_law_206 : decode code 206 = .ok (.iconst 2, 1) := by decide +kernel
theorem d_Law_law_207 : decode code 207 = .ok (.iadd, 1) := by decide +kernel
theorem d_Law_law_208 : decode code 208 = .ok (.iaload, 1) := by decide +kernel
theorem d_Law_law_209 : decode code 209 = .ok (.aload_n 0, 1) := by decide +kernel
theorem d_Law_law_210 : decode code 210 = .ok (.iload 4, 2) := by decide +kernel
theorem d_Law_law_212 : decode code 212 = .ok (.iconst 3, 1) := by decide +kernel
theorem d_Law_law_213 : decode code 213 = .ok (.iadd, 1) := by decide +kernel
theorem d_Law_law_214 : decode code 214 = .ok (.iaload, 1) := by decide +kernel
theorem d_Law_law_215 : decode code 215 = .ok (.aload_n 0, 1) := by decide +kernel
theorem d_Law_law_216 : decode code 216 = .ok (.iload 4, 2) := by decide +kernel
theorem d_Law_law_218 : decode code 218 = .ok (.iconst 4, 1) := by decide +kernel
theorem d_Law_law_219 : decode code 219 = .ok (.iadd, 1) := by decide +kernel
theorem d_Law_law_220 : decode code 220 = .ok (.iaload, 1) := by decide +kernel
theorem d_Law_law_221 : decode code 221 = .ok (.aload_n 0, 1) := by decide +kernel
theorem d_Law_law_222 : decode code 222 = .ok (.iload 4, 2) := by decide +kernel
theorem d_Law_law_224 : decode code 224 = .ok (.iconst 5, 1) := by decide +kernel
theorem d_Law_law_225 : decode code 225 = .ok (.iadd, 1) := by decide +kernel
theorem d_Law_law_226 : decode code 226 = .ok (.iaload, 1) := by decide +kernel
theorem d_Law_law_227 : decode code 227 = .ok (.aload_n 0, 1) := by decide +kernel
theorem d_Law_law_228 : decode code 228 = .ok (.iload 4, 2) := by decide +kernel
theorem d_Law_law_230 : decode code 230 = .ok (.bipush 6, 2) := by decide +kernel
theorem d_Law_law_232 : decode code 232 = .ok (.iadd, 1) := by decide +kernel
theorem d_Law_law_233 : decode code 233 = .ok (.iaload, 1) := by decide +kernel
theorem d_Law_law_234 : decode code 234 = .ok (.invokevirtual 91, 3) := by decide +kernel
theorem d_Law_law_237 : decode code 237 = .ok (.istore 6, 2) := by decide +kernel
theorem d_Law_law_239 : decode code 239 = .ok (.aload_n 2, 1) := by decide +kernel
theorem d_Law_law_240 : decode code 240 = .ok (.invokevirtual 92, 3) := by decide +kernel
theorem d_Law_law_243 : decode code 243 = .ok (.iload 5, 2) := by decide +kernel
theorem d_Law_law_245 : decode code 245 = .ok (.if_icmp .eq 5, 3) := by decide +kernel
theorem d_Law_law_248 : decode code 248 = .ok (.iconst 0, 1) := by decide +kernel
theorem d_Law_law_249 : decode code 249 = .ok (.ireturn, 1) := by decide +kernel
theorem d_Law_law_250 : decode code 250 = .ok (.iload 5, 2) := by decide +kernel
theorem d_Law_law_252 : decode code 252 = .ok (.ifCond .ne 22, 3) := by decide +kernel
theorem d_Law_law_255 : decode code 255 = .ok (.aload_n 3, 1) := by decide +kernel
theorem d_Law_law_256 : decode code 256 = .ok (.iconst 0, 1) := by decide +kernel
theorem d_Law_law_257 : decode code 257 = .ok (.laload, 1) := by decide +kernel
theorem d_Law_law_258 : decode code 258 = .ok (.iload 6, 2) := by decide +kernel
theorem d_Law_law_260 : decode code 260 = .ok (.ifCond .eq 7, 3) := by decide +kernel
theorem d_Law_law_263 : decode code 263 = .ok (.lconst 1, 1) := by decide +kernel
theorem d_Law_law_264 : decode code 264 = .ok (.goto 4, 3) := by decide +kernel
theorem d_Law_law_267 : decode code 267 = .ok (.lconst 0, 1) := by decide +kernel
theorem d_Law_law_268 : decode code 268 = .ok (.lcmp, 1) := by decide +kernel
theorem d_Law_law_269 : decode code 269 = .ok (.ifCond .eq 5, 3) := by decide +kernel
theorem d_Law_law_272 : decode code 272 = .ok (.iconst 0, 1) := by decide +kernel
theorem d_Law_law_273 : decode code 273 = .ok (.ireturn, 1) := by decide +kernel
theorem d_Law_law_274 : decode code 274 = .ok (.goto 1073, 3) := by decide +kernel
theorem d_Law_law_277 : decode code 277 = .ok (.aload_n 1, 1) := by decide +kernel
theorem d_Law_law_278 : decode code 278 = .ok (.aload_n 0, 1) := by decide +kernel
theorem d_Law_law_279 : decode code 279 = .ok (.iload 4, 2) := by decide +kernel
theorem d_Law_law_281 : decode code 281 = .ok (.iconst 1, 1) := by decide +kernel
theorem d_Law_law_282 : decode code 282 = .ok (.iadd, 1) := by decide +kernel
theorem d_Law_law_283 : decode code 283 = .ok (.iaload, 1) := by decide +kernel
theorem d_Law_law_284 : decode code 284 = .ok (.aload_n 0, 1) := by decide +kernel
theorem d_Law_law_285 : decode code 285 = .ok (.iload 4, 2) := by decide +kernel
theorem d_Law_law_287 : decode code 287 = .ok (.iconst 2, 1) := by decide +kernel
theorem d_Law_law_288 : decode code 288 = .ok (.iadd, 1) := by decide +kernel
theorem d_Law_law_289 : decode code 289 = .ok (.iaload, 1) := by decide +kernel
theorem d_Law_law_290 : decode code 290 = .ok (.aload_n 0, 1) := by decide +kernel
theorem d_Law_law_291 : decode code 291 = .ok (.iload 4, 2) := by decide +kernel
theorem d_Law_law_293 : decode code 293 = .ok (.iconst 3, 1) := by decide +kernel
theorem d_Law_law_294 : decode code 294 = .ok (.iadd, 1) := by decide +kernel
theorem d_Law_law_295 : decode code 295 = .ok (.iaload, 1) := by decide +kernel
theorem d_Law_law_296 : decode code 296 = .ok (.aload_n 0, 1) := by decide +kernel
theorem d_Law_law_297 : decode code 297 = .ok (.iload 4, 2) := by decide +kernel
theorem d_Law_law_299 : decode code 299 = .ok (.iconst 4, 1) := by decide +kernel
theorem d_Law_law_300 : decode code 300 = .ok (.iadd, 1) := by decide +kernel
theorem d_Law_law_301 : decode code 301 = .ok (.iaload, 1) := by decide +kernel
theorem d_Law_law_302 : decode code 302 = .ok (.i2l, 1) := by decide +kernel
theorem d_Law_law_303 : decode code 303 = .ok (.bipush 32, 2) := by decide +kernel
theorem d_Law_law_305 : decode code 305 = .ok (.lshl, 1) := by decide +kernel
theorem d_Law_law_306 : decode code 306 = .ok (.aload_n 0, 1) := by decide +kernel
theorem d_Law_law_307 : decode code 307 = .ok (.iload 4, 2) := by decide +kernel
theorem d_Law_law_309 : decode code 309 = .ok (.iconst 5, 1) := by decide +kernel
theorem d_Law_law_310 : decode code 310 = .ok (.iadd, 1) := by decide +kernel
theorem d_Law_law_311 : decode code 311 = .ok (.iaload, 1) := by decide +kernel
theorem d_Law_law_312 : decode code 312 = .ok (.i2l, 1) := by decide +kernel
theorem d_Law_law_313 : decode code 313 = .ok (.ldc2_w 96, 3) := by decide +kernel
theorem d_Law_law_316 : decode code 316 = .ok (.land, 1) := by decide +kernel
theorem d_Law_law_317 : decode code 317 = .ok (.lor, 1) := by decide +kernel
theorem d_Law_law_318 : decode code 318 = .ok (.aload_n 3, 1) := by decide +kernel
theorem d_Law_law_319 : decode code 319 = .ok (.invokestatic 98, 3) := by decide +kernel
theorem d_Law_law_322 : decode code 322 = .ok (.istore 5, 2) := by decide +kernel
theorem d_Law_law_324 : decode code 324 = .ok (.aload_n 2, 1) := by decide +kernel
theorem d_Law_law_325 : decode code 325 = .ok (.aload_n 0, 1) := by decide +kernel
theorem d_Law_law_326 : decode code 326 = .ok (.iload 4, 2) := by decide +kernel
theorem d_Law_law_328 : decode code 328 = .ok (.iconst 1, 1) := by decide +kernel
theorem d_Law_law_329 : decode code 329 = .ok (.iadd, 1) := by decide +kernel
theorem d_Law_law_330 : decode code 330 = .ok (.iaload, 1) := by decide +kernel
theorem d_Law_law_331 : decode code 331 = .ok (.aload_n 0, 1) := by decide +kernel
theorem d_Law_law_332 : decode code 332 = .ok (.iload 4, 2) := by decide +kernel
theorem d_Law_law_334 : decode code 334 = .ok (.iconst 2, 1) := by decide +kernel
theorem d_Law_law_335 : decode code 335 = .ok (.iadd, 1) := by decide +kernel
theorem d_Law_law_336 : decode code 336 = .ok (.iaload, 1) := by decide +kernel
theorem d_Law_law_337 : decode code 337 = .ok (.aload_n 0, 1) := by decide +kernel
theorem d_Law_law_338 : decode code 338 = .ok (.iload 4, 2) := by decide +kernel
theorem d_Law_law_340 : decode code 340 = .ok (.iconst 3, 1) := by decide +kernel
theorem d_Law_law_341 : decode code 341 = .ok (.iadd, 1) := by decide +kernel
theorem d_Law_law_342 : decode code 342 = .ok (.iaload, 1) := by decide +kernel
theorem d_Law_law_343 : decode code 343 = .ok (.aload_n 0, 1) := by decide +kernel
theorem d_Law_law_344 : decode code 344 = .ok (.iload 4, 2) := by decide +kernel
theorem d_Law_law_346 : decode code 346 = .ok (.iconst 4, 1) := by decide +kernel
theorem d_Law_law_347 : decode code 347 = .ok (.iadd, 1) := by decide +kernel
theorem d_Law_law_348 : decode code 348 = .ok (.iaload, 1) := by decide +kernel
theorem d_Law_law_349 : decode code 349 = .ok (.i2l, 1) := by decide +kernel
theorem d_Law_law_350 : decode code 350 = .ok (.bipush 32, 2) := by decide +kernel
theorem d_Law_law_352 : decode code 352 = .ok (.lshl, 1) := by decide +kernel
theorem d_Law_law_353 : decode code 353 = .ok (.aload_n 0, 1) := by decide +kernel
theorem d_Law_law_354 : decode code 354 = .ok (.iload 4, 2) := by decide +kernel
theorem d_Law_law_356 : decode code 356 = .ok (.iconst 5, 1) := by decide +kernel
theorem d_Law_law_357 : decode code 357 = .ok (.iadd, 1) := by decide +kernel
theorem d_Law_law_358 : decode code 358 = .ok (.iaload, 1) := by decide +kernel
theorem d_Law_law_359 : decode code 359 = .ok (.i2l, 1) := by decide +kernel
theorem d_Law_law_360 : decode code 360 = .ok (.ldc2_w 96, 3) := by decide +kernel
theorem d_Law_law_363 : decode code 363 = .ok (.land, 1) := by decide +kernel
theorem d_Law_law_364 : decode code 364 = .ok (.lor, 1) := by decide +kernel
theorem d_Law_law_365 : decode code 365 = .ok (.invokevirtual 101, 3) := by decide +kernel
theorem d_Law_law_368 : decode code 368 = .ok (.istore 6, 2) := by decide +kernel
theorem d_Law_law_370 : decode code 370 = .ok (.aload_n 2, 1) := by decide +kernel
theorem d_Law_law_371 : decode code 371 = .ok (.invokevirtual 92, 3) := by decide +kernel
theorem d_Law_law_374 : decode code 374 = .ok (.iload 5, 2) := by decide +kernel
theorem d_Law_law_376 : decode code 376 = .ok (.if_icmp .eq 5, 3) := by decide +kernel
theorem d_Law_law_379 : decode code 379 = .ok (.iconst 0, 1) := by decide +kernel
theorem d_Law_law_380 : decode code 380 = .ok (.ireturn, 1) := by decide +kernel
theorem d_Law_law_381 : decode code 381 = .ok (.iload 5, 2) := by decide +kernel
theorem d_Law_law_383 : decode code 383 = .ok (.ifCond .ne 15, 3) := by decide +kernel
theorem d_Law_law_386 : decode code 386 = .ok (.aload_n 3, 1) := by decide +kernel
theorem d_Law_law_387 : decode code 387 = .ok (.iconst 0, 1) := by decide +kernel
theorem d_Law_law_388 : decode code 388 = .ok (.laload, 1) := by decide +kernel
theorem d_Law_law_389 : decode code 389 = .ok (.iload 6, 2) := by decide +kernel
theorem d_Law_law_391 : decode code 391 = .ok (.i2l, 1) := by decide +kernel
theorem d_Law_law_392 : decode code 392 = .ok (.lcmp, 1) := by decide +kernel
theorem d_Law_law_393 : decode code 393 = .ok (.ifCond .eq 5, 3) := by decide +kernel
theorem d_Law_law_396 : decode code 396 = .ok (.iconst 0, 1) := by decide +kernel
theorem d_Law_law_397 : decode code 397 = .ok (.ireturn, 1) := by decide +kernel
theorem d_Law_law_398 : decode code 398 = .ok (.goto 949, 3) := by decide +kernel
theorem d_Law_law_401 : decode code 401 = .ok (.aload_n 1, 1) := by decide +kernel
theorem d_Law_law_402 : decode code 402 = .ok (.aload_n 0, 1) := by decide +kernel
theorem d_Law_law_403 : decode code 403 = .ok (.iload 4, 2) := by decide +kernel
theorem d_Law_law_405 : decode code 405 = .ok (.iconst 1, 1) := by decide +kernel
theorem d_Law_law_406 : decode code 406 = .ok (.iadd, 1) := by decide +kernel
theorem d_Law_law_407 : decode code 407 = .ok (.iaload, 1) := by decide +kernel
theorem d_Law_law_408 : decode code 408 = .ok (.aload_n 0, 1) := by decide +kernel
theorem d_Law_law_409 : decode code 409 = .ok (.iload 4, 2) := by decide +kernel
theorem d_Law_law_411 : decode code 411 = .ok (.iconst 2, 1) := by decide +kernel
theorem d_Law_law_412 : decode code 412 = .ok (.iadd, 1) := by decide +kernel
theorem d_Law_law_413 : decode code 413 = .ok (.iaload, 1) := by decide +kernel
theorem d_Law_law_414 : decode code 414 = .ok (.aload_n 0, 1) := by decide +kernel
theorem d_Law_law_415 : decode code 415 = .ok (.iload 4, 2) := by decide +kernel
theorem d_Law_law_417 : decode code 417 = .ok (.iconst 3, 1) := by decide +kernel
theorem d_Law_law_418 : decode code 418 = .ok (.iadd, 1) := by decide +kernel
theorem d_Law_law_419 : decode code 419 = .ok (.iaload, 1) := by decide +kernel
theorem d_Law_law_420 : decode code 420 = .ok (.aload_n 3, 1) := by decide +kernel
theorem d_Law_law_421 : decode code 421 = .ok (.invokestatic 102, 3) := by decide +kernel
theorem d_Law_law_424 : decode code 424 = .ok (.istore 5, 2) := by decide +kernel
theorem d_Law_law_426 : decode code 426 = .ok (.aload_n 2, 1) := by decide +kernel
theorem d_Law_law_427 : decode code 427 = .ok (.aload_n 0, 1) := by decide +kernel
theorem d_Law_law_428 : decode code 428 = .ok (.iload 4, 2) := by decide +kernel
theorem d_Law_law_430 : decode code 430 = .ok (.iconst 1, 1) := by decide +kernel
theorem d_Law_law_431 : decode code 431 = .ok (.iadd, 1) := by decide +kernel
theorem d_Law_law_432 : decode code 432 = .ok (.iaload, 1) := by decide +kernel
theorem d_Law_law_433 : decode code 433 = .ok (.aload_n 0, 1) := by decide +kernel
theorem d_Law_law_434 : decode code 434 = .ok (.iload 4, 2) := by decide +kernel
theorem d_Law_law_436 : decode code 436 = .ok (.iconst 2, 1) := by decide +kernel
theorem d_Law_law_437 : decode code 437 = .ok (.iadd, 1) := by decide +kernel
theorem d_Law_law_438 : decode code 438 = .ok (.iaload, 1) := by decide +kernel
theorem d_Law_law_439 : decode code 439 = .ok (.aload_n 0, 1) := by decide +kernel
theorem d_Law_law_440 : decode code 440 = .ok (.iload 4, 2) := by decide +kernel
theorem d_Law_law_442 : decode code 442 = .ok (.iconst 3, 1) := by decide +kernel
theorem d_Law_law_443 : decode code 443 = .ok (.iadd, 1) := by decide +kernel
theorem d_Law_law_444 : decode code 444 = .ok (.iaload, 1) := by decide +kernel
theorem d_Law_law_445 : decode code 445 = .ok (.invokevirtual 105, 3) := by decide +kernel
theorem d_Law_law_448 : decode code 448 = .ok (.istore 6, 2) := by decide +kernel
theorem d_Law_law_450 : decode code 450 = .ok (.aload_n 2, 1) := by decide +kernel
theorem d_Law_law_451 : decode code 451 = .ok (.invokevirtual 92, 3) := by decide +kernel
theorem d_Law_law_454 : decode code 454 = .ok (.iload 5, 2) := by decide +kernel
theorem d_Law_law_456 : decode code 456 = .ok (.if_icmp .eq 5, 3) := by decide +kernel
theorem d_Law_law_459 : decode code 459 = .ok (.iconst 0, 1) := by decide +kernel
theorem d_Law_law_460 : decode code 460 = .ok (.ireturn, 1) := by decide +kernel
theorem d_Law_law_461 : decode code 461 = .ok (.iload 5, 2) := by decide +kernel
theorem d_Law_law_463 : decode code 463 = .ok (.ifCond .ne 22, 3) := by decide +kernel
theorem d_Law_law_466 : decode code 466 = .ok (.aload_n 3, 1) := by decide +kernel
theorem d_Law_law_467 : decode code 467 = .ok (.iconst 0, 1) := by decide +kernel
theorem d_Law_law_468 : decode code 468 = .ok (.laload, 1) := by decide +kernel
theorem d_Law_law_469 : decode code 469 = .ok (.iload 6, 2) := by decide +kernel
theorem d_Law_law_471 : decode code 471 = .ok (.ifCond .eq 7, 3) := by decide +kernel
theorem d_Law_law_474 : decode code 474 = .ok (.lconst 1, 1) := by decide +kernel
theorem d_Law_law_475 : decode code 475 = .ok (.goto 4, 3) := by decide +kernel
theorem d_Law_law_478 : decode code 478 = .ok (.lconst 0, 1) := by decide +kernel
theorem d_Law_law_479 : decode code 479 = .ok (.lcmp, 1) := by decide +kernel
theorem d_Law_law_480 : decode code 480 = .ok (.ifCond .eq 5, 3) := by decide +kernel
theorem d_Law_law_483 : decode code 483 = .ok (.iconst 0, 1) := by decide +kernel
theorem d_Law_law_484 : decode code 484 = .ok (.ireturn, 1) := by decide +kernel
theorem d_Law_law_485 : decode code 485 = .ok (.goto 862, 3) := by decide +kernel
theorem d_Law_law_488 : decode code 488 = .ok (.aload_n 1, 1) := by decide +kernel
theorem d_Law_law_489 : decode code 489 = .ok (.aload_n 0, 1) := by decide +kernel
theorem d_Law_law_490 : decode code 490 = .ok (.iload 4, 2) := by decide +kernel
theorem d_Law_law_492 : decode code 492 = .ok (.iconst 1, 1) := by decide +kernel
theorem d_Law_law_493 : decode code 493 = .ok (.iadd, 1) := by decide +kernel
theorem d_Law_law_494 : decode code 494 = .ok (.iaload, 1) := by decide +kernel
theorem d_Law_law_495 : decode code 495 = .ok (.aload_n 3, 1) := by decide +kernel
theorem d_Law_law_496 : decode code 496 = .ok (.invokestatic 106, 3) := by decide +kernel
theorem d_Law_law_499 : decode code 499 = .ok (.istore 5, 2) := by decide +kernel
theorem d_Law_law_501 : decode code 501 = .ok (.aload_n 2, 1) := by decide +kernel
theorem d_Law_law_502 : decode code 502 = .ok (.aload_n 0, 1) := by decide +kernel
theorem d_Law_law_503 : decode code 503 = .ok (.iload 4, 2) := by decide +kernel
theorem d_Law_law_505 : decode code 505 = .ok (.iconst 1, 1) := by decide +kernel
theorem d_Law_law_506 : decode code 506 = .ok (.iadd, 1) := by decide +kernel
theorem d_Law_law_507 : decode code 507 = .ok (.iaload, 1) := by decide +kernel
theorem d_Law_law_508 : decode code 508 = .ok (.invokevirtual 109, 3) := by decide +kernel
theorem d_Law_law_511 : decode code 511 = .ok (.istore 6, 2) := by decide +kernel
theorem d_Law_law_513 : decode code 513 = .ok (.aload_n 2, 1) := by decide +kernel
theorem d_Law_law_514 : decode code 514 = .ok (.invokevirtual 92, 3) := by decide +kernel
theorem d_Law_law_517 : decode code 517 = .ok (.iload 5, 2) := by decide +kernel
theorem d_Law_law_519 : decode code 519 = .ok (.if_icmp .eq 5, 3) := by decide +kernel
theorem d_Law_law_522 : decode code 522 = .ok (.iconst 0, 1) := by decide +kernel
theorem d_Law_law_523 : decode code 523 = .ok (.ireturn, 1) := by decide +kernel
theorem d_Law_law_524 : decode code 524 = .ok (.iload 5, 2) := by decide +kernel
theorem d_Law_law_526 : decode code 526 = .ok (.ifCond .ne 22, 3) := by decide +kernel
theorem d_Law_law_529 : decode code 529 = .ok (.aload_n 3, 1) := by decide +kernel
theorem d_Law_law_530 : decode code 530 = .ok (.iconst 0, 1) := by decide +kernel
theorem d_Law_law_531 : decode code 531 = .ok (.laload, 1) := by decide +kernel
theorem d_Law_law_532 : decode code 532 = .ok (.iload 6, 2) := by decide +kernel
theorem d_Law_law_534 : decode code 534 = .ok (.ifCond .eq 7, 3) := by decide +kernel
theorem d_Law_law_537 : decode code 537 = .ok (.lconst 1, 1) := by decide +kernel
theorem d_Law_law_538 : decode code 538 = .ok (.goto 4, 3) := by decide +kernel
theorem d_Law_law_541 : decode code 541 = .ok (.lconst 0, 1) := by decide +kernel
theorem d_Law_law_542 : decode code 542 = .ok (.lcmp, 1) := by decide +kernel
theorem d_Law_law_543 : decode code 543 = .ok (.ifCond .eq 5, 3) := by decide +kernel
theorem d_Law_law_546 : decode code 546 = .ok (.iconst 0, 1) := by decide +kernel
theorem d_Law_law_547 : decode code 547 = .ok (.ireturn, 1) := by decide +kernel
theorem d_Law_law_548 : decode code 548 = .ok (.goto 799, 3) := by decide +kernel
theorem d_Law_law_551 : decode code 551 = .ok (.aload_n 1, 1) := by decide +kernel
theorem d_Law_law_552 : decode code 552 = .ok (.aload_n 0, 1) := by decide +kernel
theorem d_Law_law_553 : decode code 553 = .ok (.iload 4, 2) := by decide +kernel
theorem d_Law_law_555 : decode code 555 = .ok (.iconst 1, 1) := by decide +kernel
theorem d_Law_law_556 : decode code 556 = .ok (.iadd, 1) := by decide +kernel
theorem d_Law_law_557 : decode code 557 = .ok (.iaload, 1) := by decide +kernel
theorem d_Law_law_558 : decode code 558 = .ok (.aload_n 0, 1) := by decide +kernel
theorem d_Law_law_559 : decode code 559 = .ok (.iload 4, 2) := by decide +kernel
theorem d_Law_law_561 : decode code 561 = .ok (.iconst 2, 1) := by decide +kernel
theorem d_Law_law_562 : decode code 562 = .ok (.iadd, 1) := by decide +kernel
theorem d_Law_law_563 : decode code 563 = .ok (.iaload, 1) := by decide +kernel
theorem d_Law_law_564 : decode code 564 = .ok (.aload_n 3, 1) := by decide +kernel
theorem d_Law_law_565 : decode code 565 = .ok (.invokestatic 110, 3) := by decide +kernel
theorem d_Law_law_568 : decode code 568 = .ok (.istore 5, 2) := by decide +kernel
theorem d_Law_law_570 : decode code 570 = .ok (.aload_n 2, 1) := by decide +kernel
theorem d_Law_law_571 : decode code 571 = .ok (.aload_n 0, 1) := by decide +kernel
theorem d_Law_law_572 : decode code 572 = .ok (.iload 4, 2) := by decide +kernel
theorem d_Law_law_574 : decode code 574 = .ok (.iconst 1, 1) := by decide +kernel
theorem d_Law_law_575 : decode code 575 = .ok (.iadd, 1) := by decide +kernel
theorem d_Law_law_576 : decode code 576 = .ok (.iaload, 1) := by decide +kernel
theorem d_Law_law_577 : decode code 577 = .ok (.aload_n 0, 1) := by decide +kernel
theorem d_Law_law_578 : decode code 578 = .ok (.iload 4, 2) := by decide +kernel
theorem d_Law_law_580 : decode code 580 = .ok (.iconst 2, 1) := by decide +kernel
theorem d_Law_law_581 : decode code 581 = .ok (.iadd, 1) := by decide +kernel
theorem d_Law_law_582 : decode code 582 = .ok (.iaload, 1) := by decide +kernel
theorem d_Law_law_583 : decode code 583 = .ok (.invokevirtual 113, 3) := by decide +kernel
theorem d_Law_law_586 : decode code 586 = .ok (.istore 6, 2) := by decide +kernel
theorem d_Law_law_588 : decode code 588 = .ok (.aload_n 2, 1) := by decide +kernel
theorem d_Law_law_589 : decode code 589 = .ok (.invokevirtual 92, 3) := by decide +kernel
theorem d_Law_law_592 : decode code 592 = .ok (.iload 5, 2) := by decide +kernel
theorem d_Law_law_594 : decode code 594 = .ok (.if_icmp .eq 5, 3) := by decide +kernel
theorem d_Law_law_597 : decode code 597 = .ok (.iconst 0, 1) := by decide +kernel
theorem d_Law_law_598 : decode code 598 = .ok (.ireturn, 1) := by decide +kernel
theorem d_Law_law_599 : decode code 599 = .ok (.iload 5, 2) := by decide +kernel
theorem d_Law_law_601 : decode code 601 = .ok (.ifCond .ne 22, 3) := by decide +kernel
theorem d_Law_law_604 : decode code 604 = .ok (.aload_n 3, 1) := by decide +kernel
theorem d_Law_law_605 : decode code 605 = .ok (.iconst 0, 1) := by decide +kernel
theorem d_Law_law_606 : decode code 606 = .ok (.laload, 1) := by decide +kernel
theorem d_Law_law_607 : decode code 607 = .ok (.iload 6, 2) := by decide +kernel
theorem d_Law_law_609 : decode code 609 = .ok (.ifCond .eq 7, 3) := by decide +kernel
theorem d_Law_law_612 : decode code 612 = .ok (.lconst 1, 1) := by decide +kernel
theorem d_Law_law_613 : decode code 613 = .ok (.goto 4, 3) := by decide +kernel
theorem d_Law_law_616 : decode code 616 = .ok (.lconst 0, 1) := by decide +kernel
theorem d_Law_law_617 : decode code 617 = .ok (.lcmp, 1) := by decide +kernel
theorem d_Law_law_618 : decode code 618 = .ok (.ifCond .eq 5, 3) := by decide +kernel
theorem d_Law_law_621 : decode code 621 = .ok (.iconst 0, 1) := by decide +kernel
theorem d_Law_law_622 : decode code 622 = .ok (.ireturn, 1) := by decide +kernel
theorem d_Law_law_623 : decode code 623 = .ok (.goto 724, 3) := by decide +kernel
theorem d_Law_law_626 : decode code 626 = .ok (.aload_n 1, 1) := by decide +kernel
theorem d_Law_law_627 : decode code 627 = .ok (.aload_n 0, 1) := by decide +kernel
theorem d_Law_law_628 : decode code 628 = .ok (.iload 4, 2) := by decide +kernel
theorem d_Law_law_630 : decode code 630 = .ok (.iconst 1, 1) := by decide +kernel
theorem d_Law_law_631 : decode code 631 = .ok (.iadd, 1) := by decide +kernel
theorem d_Law_law_632 : decode code 632 = .ok (.iaload, 1) := by decide +kernel
theorem d_Law_law_633 : decode code 633 = .ok (.aload_n 3, 1) := by decide +kernel
theorem d_Law_law_634 : decode code 634 = .ok (.invokestatic 114, 3) := by decide +kernel
theorem d_Law_law_637 : decode code 637 = .ok (.istore 5, 2) := by decide +kernel
theorem d_Law_law_639 : decode code 639 = .ok (.aload_n 2, 1) := by decide +kernel
theorem d_Law_law_640 : decode code 640 = .ok (.aload_n 0, 1) := by decide +kernel
theorem d_Law_law_641 : decode code 641 = .ok (.iload 4, 2) := by decide +kernel
theorem d_Law_law_643 : decode code 643 = .ok (.iconst 1, 1) := by decide +kernel
theorem d_Law_law_644 : decode code 644 = .ok (.iadd, 1) := by decide +kernel
theorem d_Law_law_645 : decode code 645 = .ok (.iaload, 1) := by decide +kernel
theorem d_Law_law_646 : decode code 646 = .ok (.invokevirtual 116, 3) := by decide +kernel
theorem d_Law_law_649 : decode code 649 = .ok (.istore 6, 2) := by decide +kernel
theorem d_Law_law_651 : decode code 651 = .ok (.aload_n 2, 1) := by decide +kernel
theorem d_Law_law_652 : decode code 652 = .ok (.invokevirtual 92, 3) := by decide +kernel
theorem d_Law_law_655 : decode code 655 = .ok (.iload 5, 2) := by decide +kernel
theorem d_Law_law_657 : decode code 657 = .ok (.if_icmp .eq 5, 3) := by decide +kernel
theorem d_Law_law_660 : decode code 660 = .ok (.iconst 0, 1) := by decide +kernel
theorem d_Law_law_661 : decode code 661 = .ok (.ireturn, 1) := by decide +kernel
theorem d_Law_law_662 : decode code 662 = .ok (.iload 5, 2) := by decide +kernel
theorem d_Law_law_664 : decode code 664 = .ok (.ifCond .ne 22, 3) := by decide +kernel
theorem d_Law_law_667 : decode code 667 = .ok (.aload_n 3, 1) := by decide +kernel
theorem d_Law_law_668 : decode code 668 = .ok (.iconst 0, 1) := by decide +kernel
theorem d_Law_law_669 : decode code 669 = .ok (.laload, 1) := by decide +kernel
theorem d_Law_law_670 : decode code 670 = .ok (.iload 6, 2) := by decide +kernel
theorem d_Law_law_672 : decode code 672 = .ok (.ifCond .eq 7, 3) := by decide +kernel
theorem d_Law_law_675 : decode code 675 = .ok (.lconst 1, 1) := by decide +kernel
theorem d_Law_law_676 : decode code 676 = .ok (.goto 4, 3) := by decide +kernel
theorem d_Law_law_679 : decode code 679 = .ok (.lconst 0, 1) := by decide +kernel
theorem d_Law_law_680 : decode code 680 = .ok (.lcmp, 1) := by decide +kernel
theorem d_Law_law_681 : decode code 681 = .ok (.ifCond .eq 5, 3) := by decide +kernel
theorem d_Law_law_684 : decode code 684 = .ok (.iconst 0, 1) := by decide +kernel
theorem d_Law_law_685 : decode code 685 = .ok (.ireturn, 1) := by decide +kernel
theorem d_Law_law_686 : decode code 686 = .ok (.goto 661, 3) := by decide +kernel
theorem d_Law_law_689 : decode code 689 = .ok (.aload_n 1, 1) := by decide +kernel
theorem d_Law_law_690 : decode code 690 = .ok (.aload_n 0, 1) := by decide +kernel
theorem d_Law_law_691 : decode code 691 = .ok (.iload 4, 2) := by decide +kernel
theorem d_Law_law_693 : decode code 693 = .ok (.iconst 1, 1) := by decide +kernel
theorem d_Law_law_694 : decode code 694 = .ok (.iadd, 1) := by decide +kernel
theorem d_Law_law_695 : decode code 695 = .ok (.iaload, 1) := by decide +kernel
theorem d_Law_law_696 : decode code 696 = .ok (.aload_n 3, 1) := by decide +kernel
theorem d_Law_law_697 : decode code 697 = .ok (.invokestatic 117, 3) := by decide +kernel
theorem d_Law_law_700 : decode code 700 = .ok (.istore 5, 2) := by decide +kernel
theorem d_Law_law_702 : decode code 702 = .ok (.aload_n 2, 1) := by decide +kernel
theorem d_Law_law_703 : decode code 703 = .ok (.aload_n 0, 1) := by decide +kernel
theorem d_Law_law_704 : decode code 704 = .ok (.iload 4, 2) := by decide +kernel
theorem d_Law_law_706 : decode code 706 = .ok (.iconst 1, 1) := by decide +kernel
theorem d_Law_law_707 : decode code 707 = .ok (.iadd, 1) := by decide +kernel
theorem d_Law_law_708 : decode code 708 = .ok (.iaload, 1) := by decide +kernel
theorem d_Law_law_709 : decode code 709 = .ok (.invokevirtual 119, 3) := by decide +kernel
theorem d_Law_law_712 : decode code 712 = .ok (.istore 6, 2) := by decide +kernel
theorem d_Law_law_714 : decode code 714 = .ok (.aload_n 2, 1) := by decide +kernel
theorem d_Law_law_715 : decode code 715 = .ok (.invokevirtual 92, 3) := by decide +kernel
theorem d_Law_law_718 : decode code 718 = .ok (.iload 5, 2) := by decide +kernel
theorem d_Law_law_720 : decode code 720 = .ok (.if_icmp .eq 5, 3) := by decide +kernel
theorem d_Law_law_723 : decode code 723 = .ok (.iconst 0, 1) := by decide +kernel
theorem d_Law_law_724 : decode code 724 = .ok (.ireturn, 1) := by decide +kernel
theorem d_Law_law_725 : decode code 725 = .ok (.iload 5, 2) := by decide +kernel
theorem d_Law_law_727 : decode code 727 = .ok (.ifCond .ne 22, 3) := by decide +kernel
theorem d_Law_law_730 : decode code 730 = .ok (.aload_n 3, 1) := by decide +kernel
theorem d_Law_law_731 : decode code 731 = .ok (.iconst 0, 1) := by decide +kernel
theorem d_Law_law_732 : decode code 732 = .ok (.laload, 1) := by decide +kernel
theorem d_Law_law_733 : decode code 733 = .ok (.iload 6, 2) := by decide +kernel
theorem d_Law_law_735 : decode code 735 = .ok (.ifCond .eq 7, 3) := by decide +kernel
theorem d_Law_law_738 : decode code 738 = .ok (.lconst 1, 1) := by decide +kernel
theorem d_Law_law_739 : decode code 739 = .ok (.goto 4, 3) := by decide +kernel
theorem d_Law_law_742 : decode code 742 = .ok (.lconst 0, 1) := by decide +kernel
theorem d_Law_law_743 : decode code 743 = .ok (.lcmp, 1) := by decide +kernel
theorem d_Law_law_744 : decode code 744 = .ok (.ifCond .eq 5, 3) := by decide +kernel
theorem d_Law_law_747 : decode code 747 = .ok (.iconst 0, 1) := by decide +kernel
theorem d_Law_law_748 : decode code 748 = .ok (.ireturn, 1) := by decide +kernel
theorem d_Law_law_749 : decode code 749 = .ok (.goto 598, 3) := by decide +kernel
theorem d_Law_law_752 : decode code 752 = .ok (.aload_n 1, 1) := by decide +kernel
theorem d_Law_law_753 : decode code 753 = .ok (.aload_n 0, 1) := by decide +kernel
theorem d_Law_law_754 : decode code 754 = .ok (.iload 4, 2) := by decide +kernel
theorem d_Law_law_756 : decode code 756 = .ok (.iconst 1, 1) := by decide +kernel
theorem d_Law_law_757 : decode code 757 = .ok (.iadd, 1) := by decide +kernel
theorem d_Law_law_758 : decode code 758 = .ok (.iaload, 1) := by decide +kernel
theorem d_Law_law_759 : decode code 759 = .ok (.aload_n 0, 1) := by decide +kernel
theorem d_Law_law_760 : decode code 760 = .ok (.iload 4, 2) := by decide +kernel
theorem d_Law_law_762 : decode code 762 = .ok (.iconst 2, 1) := by decide +kernel
theorem d_Law_law_763 : decode code 763 = .ok (.iadd, 1) := by decide +kernel
theorem d_Law_law_764 : decode code 764 = .ok (.iaload, 1) := by decide +kernel
theorem d_Law_law_765 : decode code 765 = .ok (.aload_n 3, 1) := by decide +kernel
theorem d_Law_law_766 : decode code 766 = .ok (.invokestatic 120, 3) := by decide +kernel
theorem d_Law_law_769 : decode code 769 = .ok (.istore 5, 2) := by decide +kernel
theorem d_Law_law_771 : decode code 771 = .ok (.aload_n 2, 1) := by decide +kernel
theorem d_Law_law_772 : decode code 772 = .ok (.aload_n 0, 1) := by decide +kernel
theorem d_Law_law_773 : decode code 773 = .ok (.iload 4, 2) := by decide +kernel
theorem d_Law_law_775 : decode code 775 = .ok (.iconst 1, 1) := by decide +kernel
theorem d_Law_law_776 : decode code 776 = .ok (.iadd, 1) := by decide +kernel
theorem d_Law_law_777 : decode code 777 = .ok (.iaload, 1) := by decide +kernel
theorem d_Law_law_778 : decode code 778 = .ok (.aload_n 0, 1) := by decide +kernel
theorem d_Law_law_779 : decode code 779 = .ok (.iload 4, 2) := by decide +kernel
theorem d_Law_law_781 : decode code 781 = .ok (.iconst 2, 1) := by decide +kernel
theorem d_Law_law_782 : decode code 782 = .ok (.iadd, 1) := by decide +kernel
theorem d_Law_law_783 : decode code 783 = .ok (.iaload, 1) := by decide +kernel
theorem d_Law_law_784 : decode code 784 = .ok (.invokevirtual 122, 3) := by decide +kernel
theorem d_Law_law_787 : decode code 787 = .ok (.istore 6, 2) := by decide +kernel
theorem d_Law_law_789 : decode code 789 = .ok (.aload_n 2, 1) := by decide +kernel
theorem d_Law_law_790 : decode code 790 = .ok (.invokevirtual 92, 3) := by decide +kernel
theorem d_Law_law_793 : decode code 793 = .ok (.iload 5, 2) := by decide +kernel
theorem d_Law_law_795 : decode code 795 = .ok (.if_icmp .eq 5, 3) := by decide +kernel
theorem d_Law_law_798 : decode code 798 = .ok (.iconst 0, 1) := by decide +kernel
theorem d_Law_law_799 : decode code 799 = .ok (.ireturn, 1) := by decide +kernel
theorem d_Law_law_800 : decode code 800 = .ok (.iload 5, 2) := by decide +kernel
theorem d_Law_law_802 : decode code 802 = .ok (.ifCond .ne 15, 3) := by decide +kernel
theorem d_Law_law_805 : decode code 805 = .ok (.aload_n 3, 1) := by decide +kernel
theorem d_Law_law_806 : decode code 806 = .ok (.iconst 0, 1) := by decide +kernel
theorem d_Law_law_807 : decode code 807 = .ok (.laload, 1) := by decide +kernel
theorem d_Law_law_808 : decode code 808 = .ok (.iload 6, 2) := by decide +kernel
theorem d_Law_law_810 : decode code 810 = .ok (.i2l, 1) := by decide +kernel
theorem d_Law_law_811 : decode code 811 = .ok (.lcmp, 1) := by decide +kernel
theorem d_Law_law_812 : decode code 812 = .ok (.ifCond .eq 5, 3) := by decide +kernel
theorem d_Law_law_815 : decode code 815 = .ok (.iconst 0, 1) := by decide +kernel
theorem d_Law_law_816 : decode code 816 = .ok (.ireturn, 1) := by decide +kernel
theorem d_Law_law_817 : decode code 817 = .ok (.goto 530, 3) := by decide +kernel
theorem d_Law_law_820 : decode code 820 = .ok (.aload_n 1, 1) := by decide +kernel
theorem d_Law_law_821 : decode code 821 = .ok (.aload_n 0, 1) := by decide +kernel
theorem d_Law_law_822 : decode code 822 = .ok (.iload 4, 2) := by decide +kernel
theorem d_Law_law_824 : decode code 824 = .ok (.iconst 1, 1) := by decide +kernel
theorem d_Law_law_825 : decode code 825 = .ok (.iadd, 1) := by decide +kernel
theorem d_Law_law_826 : decode code 826 = .ok (.iaload, 1) := by decide +kernel
theorem d_Law_law_827 : decode code 827 = .ok (.aload_n 3, 1) := by decide +kernel
theorem d_Law_law_828 : decode code 828 = .ok (.invokestatic 123, 3) := by decide +kernel
theorem d_Law_law_831 : decode code 831 = .ok (.istore 5, 2) := by decide +kernel
theorem d_Law_law_833 : decode code 833 = .ok (.aload_n 2, 1) := by decide +kernel
theorem d_Law_law_834 : decode code 834 = .ok (.aload_n 0, 1) := by decide +kernel
theorem d_Law_law_835 : decode code 835 = .ok (.iload 4, 2) := by decide +kernel
theorem d_Law_law_837 : decode code 837 = .ok (.iconst 1, 1) := by decide +kernel
theorem d_Law_law_838 : decode code 838 = .ok (.iadd, 1) := by decide +kernel
theorem d_Law_law_839 : decode code 839 = .ok (.iaload, 1) := by decide +kernel
theorem d_Law_law_840 : decode code 840 = .ok (.invokevirtual 125, 3) := by decide +kernel
theorem d_Law_law_843 : decode code 843 = .ok (.istore 6, 2) := by decide +kernel
theorem d_Law_law_845 : decode code 845 = .ok (.aload_n 2, 1) := by decide +kernel
theorem d_Law_law_846 : decode code 846 = .ok (.invokevirtual 92, 3) := by decide +kernel
theorem d_Law_law_849 : decode code 849 = .ok (.iload 5, 2) := by decide +kernel
theorem d_Law_law_851 : decode code 851 = .ok (.if_icmp .eq 5, 3) := by decide +kernel
theorem d_Law_law_854 : decode code 854 = .ok (.iconst 0, 1) := by decide +kernel
theorem d_Law_law_855 : decode code 855 = .ok (.ireturn, 1) := by decide +kernel
theorem d_Law_law_856 : decode code 856 = .ok (.iload 5, 2) := by decide +kernel
theorem d_Law_law_858 : decode code 858 = .ok (.ifCond .ne 15, 3) := by decide +kernel
theorem d_Law_law_861 : decode code 861 = .ok (.aload_n 3, 1) := by decide +kernel
theorem d_Law_law_862 : decode code 862 = .ok (.iconst 0, 1) := by decide +kernel
theorem d_Law_law_863 : decode code 863 = .ok (.laload, 1) := by decide +kernel
theorem d_Law_law_864 : decode code 864 = .ok (.iload 6, 2) := by decide +kernel
theorem d_Law_law_866 : decode code 866 = .ok (.i2l, 1) := by decide +kernel
theorem d_Law_law_867 : decode code 867 = .ok (.lcmp, 1) := by decide +kernel
theorem d_Law_law_868 : decode code 868 = .ok (.ifCond .eq 5, 3) := by decide +kernel
theorem d_Law_law_871 : decode code 871 = .ok (.iconst 0, 1) := by decide +kernel
theorem d_Law_law_872 : decode code 872 = .ok (.ireturn, 1) := by decide +kernel
theorem d_Law_law_873 : decode code 873 = .ok (.goto 474, 3) := by decide +kernel
theorem d_Law_law_876 : decode code 876 = .ok (.aload_n 1, 1) := by decide +kernel
theorem d_Law_law_877 : decode code 877 = .ok (.aload_n 3, 1) := by decide +kernel
theorem d_Law_law_878 : decode code 878 = .ok (.invokestatic 126, 3) := by decide +kernel
theorem d_Law_law_881 : decode code 881 = .ok (.istore 5, 2) := by decide +kernel
theorem d_Law_law_883 : decode code 883 = .ok (.aload_n 2, 1) := by decide +kernel
theorem d_Law_law_884 : decode code 884 = .ok (.invokevirtual 129, 3) := by decide +kernel
theorem d_Law_law_887 : decode code 887 = .ok (.lstore 6, 2) := by decide +kernel
theorem d_Law_law_889 : decode code 889 = .ok (.aload_n 2, 1) := by decide +kernel
theorem d_Law_law_890 : decode code 890 = .ok (.invokevirtual 92, 3) := by decide +kernel
theorem d_Law_law_893 : decode code 893 = .ok (.iload 5, 2) := by decide +kernel
theorem d_Law_law_895 : decode code 895 = .ok (.if_icmp .eq 5, 3) := by decide +kernel
theorem d_Law_law_898 : decode code 898 = .ok (.iconst 0, 1) := by decide +kernel
theorem d_Law_law_899 : decode code 899 = .ok (.ireturn, 1) := by decide +kernel
theorem d_Law_law_900 : decode code 900 = .ok (.iload 5, 2) := by decide +kernel
theorem d_Law_law_902 : decode code 902 = .ok (.ifCond .ne 14, 3) := by decide +kernel
theorem d_Law_law_905 : decode code 905 = .ok (.aload_n 3, 1) := by decide +kernel
theorem d_Law_law_906 : decode code 906 = .ok (.iconst 0, 1) := by decide +kernel
theorem d_Law_law_907 : decode code 907 = .ok (.laload, 1) := by decide +kernel
theorem d_Law_law_908 : decode code 908 = .ok (.lload 6, 2) := by decide +kernel
theorem d_Law_law_910 : decode code 910 = .ok (.lcmp, 1) := by decide +kernel
theorem d_Law_law_911 : decode code 911 = .ok (.ifCond .eq 5, 3) := by decide +kernel
theorem d_Law_law_914 : decode code 914 = .ok (.iconst 0, 1) := by decide +kernel
theorem d_Law_law_915 : decode code 915 = .ok (.ireturn, 1) := by decide +kernel
theorem d_Law_law_916 : decode code 916 = .ok (.goto 431, 3) := by decide +kernel
theorem d_Law_law_919 : decode code 919 = .ok (.aload_n 1, 1) := by decide +kernel
theorem d_Law_law_920 : decode code 920 = .ok (.aload_n 0, 1) := by decide +kernel
theorem d_Law_law_921 : decode code 921 = .ok (.iload 4, 2) := by decide +kernel
theorem d_Law_law_923 : decode code 923 = .ok (.iconst 1, 1) := by decide +kernel
theorem d_Law_law_924 : decode code 924 = .ok (.iadd, 1) := by decide +kernel
theorem d_Law_law_925 : decode code 925 = .ok (.iaload, 1) := by decide +kernel
theorem d_Law_law_926 : decode code 926 = .ok (.aload_n 0, 1) := by decide +kernel
theorem d_Law_law_927 : decode code 927 = .ok (.iload 4, 2) := by decide +kernel
theorem d_Law_law_929 : decode code 929 = .ok (.iconst 2, 1) := by decide +kernel
theorem d_Law_law_930 : decode code 930 = .ok (.iadd, 1) := by decide +kernel
theorem d_Law_law_931 : decode code 931 = .ok (.iaload, 1) := by decide +kernel
theorem d_Law_law_932 : decode code 932 = .ok (.aload_n 3, 1) := by decide +kernel
theorem d_Law_law_933 : decode code 933 = .ok (.invokestatic 130, 3) := by decide +kernel
theorem d_Law_law_936 : decode code 936 = .ok (.istore 5, 2) := by decide +kernel
theorem d_Law_law_938 : decode code 938 = .ok (.aload_n 2, 1) := by decide +kernel
theorem d_Law_law_939 : decode code 939 = .ok (.aload_n 0, 1) := by decide +kernel
theorem d_Law_law_940 : decode code 940 = .ok (.iload 4, 2) := by decide +kernel
theorem d_Law_law_942 : decode code 942 = .ok (.iconst 1, 1) := by decide +kernel
theorem d_Law_law_943 : decode code 943 = .ok (.iadd, 1) := by decide +kernel
theorem d_Law_law_944 : decode code 944 = .ok (.iaload, 1) := by decide +kernel
theorem d_Law_law_945 : decode code 945 = .ok (.aload_n 0, 1) := by decide +kernel
theorem d_Law_law_946 : decode code 946 = .ok (.iload 4, 2) := by decide +kernel
theorem d_Law_law_948 : decode code 948 = .ok (.iconst 2, 1) := by decide +kernel
theorem d_Law_law_949 : decode code 949 = .ok (.iadd, 1) := by decide +kernel
theorem d_Law_law_950 : decode code 950 = .ok (.iaload, 1) := by decide +kernel
theorem d_Law_law_951 : decode code 951 = .ok (.invokevirtual 132, 3) := by decide +kernel
theorem d_Law_law_954 : decode code 954 = .ok (.istore 6, 2) := by decide +kernel
theorem d_Law_law_956 : decode code 956 = .ok (.aload_n 2, 1) := by decide +kernel
theorem d_Law_law_957 : decode code 957 = .ok (.invokevirtual 92, 3) := by decide +kernel
theorem d_Law_law_960 : decode code 960 = .ok (.iload 5, 2) := by decide +kernel
theorem d_Law_law_962 : decode code 962 = .ok (.if_icmp .eq 5, 3) := by decide +kernel
theorem d_Law_law_965 : decode code 965 = .ok (.iconst 0, 1) := by decide +kernel
theorem d_Law_law_966 : decode code 966 = .ok (.ireturn, 1) := by decide +kernel
theorem d_Law_law_967 : decode code 967 = .ok (.iload 5, 2) := by decide +kernel
theorem d_Law_law_969 : decode code 969 = .ok (.ifCond .ne 15, 3) := by decide +kernel
theorem d_Law_law_972 : decode code 972 = .ok (.aload_n 3, 1) := by decide +kernel
theorem d_Law_law_973 : decode code 973 = .ok (.iconst 0, 1) := by decide +kernel
theorem d_Law_law_974 : decode code 974 = .ok (.laload, 1) := by decide +kernel
theorem d_Law_law_975 : decode code 975 = .ok (.iload 6, 2) := by decide +kernel
theorem d_Law_law_977 : decode code 977 = .ok (.i2l, 1) := by decide +kernel
theorem d_Law_law_978 : decode code 978 = .ok (.lcmp, 1) := by decide +kernel
theorem d_Law_law_979 : decode code 979 = .ok (.ifCond .eq 5, 3) := by decide +kernel
theorem d_Law_law_982 : decode code 982 = .ok (.iconst 0, 1) := by decide +kernel
theorem d_Law_law_983 : decode code 983 = .ok (.ireturn, 1) := by decide +kernel
theorem d_Law_law_984 : decode code 984 = .ok (.goto 363, 3) := by decide +kernel
theorem d_Law_law_987 : decode code 987 = .ok (.aload_n 1, 1) := by decide +kernel
theorem d_Law_law_988 : decode code 988 = .ok (.aload_n 0, 1) := by decide +kernel
theorem d_Law_law_989 : decode code 989 = .ok (.iload 4, 2) := by decide +kernel
theorem d_Law_law_991 : decode code 991 = .ok (.iconst 1, 1) := by decide +kernel
theorem d_Law_law_992 : decode code 992 = .ok (.iadd, 1) := by decide +kernel
theorem d_Law_law_993 : decode code 993 = .ok (.iaload, 1) := by decide +kernel
theorem d_Law_law_994 : decode code 994 = .ok (.aload_n 3, 1) := by decide +kernel
theorem d_Law_law_995 : decode code 995 = .ok (.invokestatic 133, 3) := by decide +kernel
theorem d_Law_law_998 : decode code 998 = .ok (.istore 5, 2) := by decide +kernel
theorem d_Law_law_1000 : decode code 1000 = .ok (.aload_n 2, 1) := by decide +kernel
theorem d_Law_law_1001 : decode code 1001 = .ok (.aload_n 0, 1) := by decide +kernel
theorem d_Law_law_1002 : decode code 1002 = .ok (.iload 4, 2) := by decide +kernel
theorem d_Law_law_1004 : decode code 1004 = .ok (.iconst 1, 1) := by decide +kernel
theorem d_Law_law_1005 : decode code 1005 = .ok (.iadd, 1) := by decide +kernel
theorem d_Law_law_1006 : decode code 1006 = .ok (.iaload, 1) := by decide +kernel
theorem d_Law_law_1007 : decode code 1007 = .ok (.invokevirtual 135, 3) := by decide +kernel
theorem d_Law_law_1010 : decode code 1010 = .ok (.istore 6, 2) := by decide +kernel
theorem d_Law_law_1012 : decode code 1012 = .ok (.aload_n 2, 1) := by decide +kernel
theorem d_Law_law_1013 : decode code 1013 = .ok (.invokevirtual 92, 3) := by decide +kernel
theorem d_Law_law_1016 : decode code 1016 = .ok (.iload 5, 2) := by decide +kernel
theorem d_Law_law_1018 : decode code 1018 = .ok (.if_icmp .eq 5, 3) := by decide +kernel
theorem d_Law_law_1021 : decode code 1021 = .ok (.iconst 0, 1) := by decide +kernel
theorem d_Law_law_1022 : decode code 1022 = .ok (.ireturn, 1) := by decide +kernel
theorem d_Law_law_1023 : decode code 1023 = .ok (.iload 5, 2) := by decide +kernel
theorem d_Law_law_1025 : decode code 1025 = .ok (.ifCond .ne 22, 3) := by decide +kernel
theorem d_Law_law_1028 : decode code 1028 = .ok (.aload_n 3, 1) := by decide +kernel
theorem d_Law_law_1029 : decode code 1029 = .ok (.iconst 0, 1) := by decide +kernel
theorem d_Law_law_1030 : decode code 1030 = .ok (.laload, 1) := by decide +kernel
theorem d_Law_law_1031 : decode code 1031 = .ok (.iload 6, 2) := by decide +kernel
theorem d_Law_law_1033 : decode code 1033 = .ok (.ifCond .eq 7, 3) := by decide +kernel
theorem d_Law_law_1036 : decode code 1036 = .ok (.lconst 1, 1) := by decide +kernel
theorem d_Law_law_1037 : decode code 1037 = .ok (.goto 4, 3) := by decide +kernel
theorem d_Law_law_1040 : decode code 1040 = .ok (.lconst 0, 1) := by decide +kernel
theorem d_Law_law_1041 : decode code 1041 = .ok (.lcmp, 1) := by decide +kernel
theorem d_Law_law_1042 : decode code 1042 = .ok (.ifCond .eq 5, 3) := by decide +kernel
theorem d_Law_law_1045 : decode code 1045 = .ok (.iconst 0, 1) := by decide +kernel
theorem d_Law_law_1046 : decode code 1046 = .ok (.ireturn, 1) := by decide +kernel
theorem d_Law_law_1047 : decode code 1047 = .ok (.goto 300, 3) := by decide +kernel
theorem d_Law_law_1050 : decode code 1050 = .ok (.aload_n 1, 1) := by decide +kernel
theorem d_Law_law_1051 : decode code 1051 = .ok (.aload_n 3, 1) := by decide +kernel
theorem d_Law_law_1052 : decode code 1052 = .ok (.invokestatic 136, 3) := by decide +kernel
theorem d_Law_law_1055 : decode code 1055 = .ok (.istore 5, 2) := by decide +kernel
theorem d_Law_law_1057 : decode code 1057 = .ok (.aload_n 2, 1) := by decide +kernel
theorem d_Law_law_1058 : decode code 1058 = .ok (.invokevirtual 138, 3) := by decide +kernel
theorem d_Law_law_1061 : decode code 1061 = .ok (.lstore 6, 2) := by decide +kernel
theorem d_Law_law_1063 : decode code 1063 = .ok (.aload_n 2, 1) := by decide +kernel
theorem d_Law_law_1064 : decode code 1064 = .ok (.invokevirtual 92, 3) := by decide +kernel
theorem d_Law_law_1067 : decode code 1067 = .ok (.iload 5, 2) := by decide +kernel
theorem d_Law_law_1069 : decode code 1069 = .ok (.if_icmp .eq 5, 3) := by decide +kernel
theorem d_Law_law_1072 : decode code 1072 = .ok (.iconst 0, 1) := by decide +kernel
theorem d_Law_law_1073 : decode code 1073 = .ok (.ireturn, 1) := by decide +kernel
theorem d_Law_law_1074 : decode code 1074 = .ok (.iload 5, 2) := by decide +kernel
theorem d_Law_law_1076 : decode code 1076 = .ok (.ifCond .ne 14, 3) := by decide +kernel
theorem d_Law_law_1079 : decode code 1079 = .ok (.aload_n 3, 1) := by decide +kernel
theorem d_Law_law_1080 : decode code 1080 = .ok (.iconst 0, 1) := by decide +kernel
theorem d_Law_law_1081 : decode code 1081 = .ok (.laload, 1) := by decide +kernel
theorem d_Law_law_1082 : decode code 1082 = .ok (.lload 6, 2) := by decide +kernel
theorem d_Law_law_1084 : decode code 1084 = .ok (.lcmp, 1) := by decide +kernel
theorem d_Law_law_1085 : decode code 1085 = .ok (.ifCond .eq 5, 3) := by decide +kernel
theorem d_Law_law_1088 : decode code 1088 = .ok (.iconst 0, 1) := by decide +kernel
theorem d_Law_law_1089 : decode code 1089 = .ok (.ireturn, 1) := by decide +kernel
theorem d_Law_law_1090 : decode code 1090 = .ok (.goto 257, 3) := by decide +kernel
theorem d_Law_law_1093 : decode code 1093 = .ok (.aload_n 1, 1) := by decide +kernel
theorem d_Law_law_1094 : decode code 1094 = .ok (.aload_n 0, 1) := by decide +kernel
theorem d_Law_law_1095 : decode code 1095 = .ok (.iload 4, 2) := by decide +kernel
theorem d_Law_law_1097 : decode code 1097 = .ok (.iconst 1, 1) := by decide +kernel
theorem d_Law_law_1098 : decode code 1098 = .ok (.iadd, 1) := by decide +kernel
theorem d_Law_law_1099 : decode code 1099 = .ok (.iaload, 1) := by decide +kernel
theorem d_Law_law_1100 : decode code 1100 = .ok (.aload_n 0, 1) := by decide +kernel
theorem d_Law_law_1101 : decode code 1101 = .ok (.iload 4, 2) := by decide +kernel
theorem d_Law_law_1103 : decode code 1103 = .ok (.iconst 2, 1) := by decide +kernel
theorem d_Law_law_1104 : decode code 1104 = .ok (.iadd, 1) := by decide +kernel
theorem d_Law_law_1105 : decode code 1105 = .ok (.iaload, 1) := by decide +kernel
theorem d_Law_law_1106 : decode code 1106 = .ok (.aload_n 3, 1) := by decide +kernel
theorem d_Law_law_1107 : decode code 1107 = .ok (.invokestatic 139, 3) := by decide +kernel
theorem d_Law_law_1110 : decode code 1110 = .ok (.istore 5, 2) := by decide +kernel
theorem d_Law_law_1112 : decode code 1112 = .ok (.aload_n 2, 1) := by decide +kernel
theorem d_Law_law_1113 : decode code 1113 = .ok (.aload_n 0, 1) := by decide +kernel
theorem d_Law_law_1114 : decode code 1114 = .ok (.iload 4, 2) := by decide +kernel
theorem d_Law_law_1116 : decode code 1116 = .ok (.iconst 1, 1) := by decide +kernel
theorem d_Law_law_1117 : decode code 1117 = .ok (.iadd, 1) := by decide +kernel
theorem d_Law_law_1118 : decode code 1118 = .ok (.iaload, 1) := by decide +kernel
theorem d_Law_law_1119 : decode code 1119 = .ok (.aload_n 0, 1) := by decide +kernel
theorem d_Law_law_1120 : decode code 1120 = .ok (.iload 4, 2) := by decide +kernel
theorem d_Law_law_1122 : decode code 1122 = .ok (.iconst 2, 1) := by decide +kernel
theorem d_Law_law_1123 : decode code 1123 = .ok (.iadd, 1) := by decide +kernel
theorem d_Law_law_1124 : decode code 1124 = .ok (.iaload, 1) := by decide +kernel
theorem d_Law_law_1125 : decode code 1125 = .ok (.invokevirtual 141, 3) := by decide +kernel
theorem d_Law_law_1128 : decode code 1128 = .ok (.lstore 6, 2) := by decide +kernel
theorem d_Law_law_1130 : decode code 1130 = .ok (.aload_n 2, 1) := by decide +kernel
theorem d_Law_law_1131 : decode code 1131 = .ok (.invokevirtual 92, 3) := by decide +kernel
theorem d_Law_law_1134 : decode code 1134 = .ok (.iload 5, 2) := by decide +kernel
theorem d_Law_law_1136 : decode code 1136 = .ok (.if_icmp .eq 5, 3) := by decide +kernel
theorem d_Law_law_1139 : decode code 1139 = .ok (.iconst 0, 1) := by decide +kernel
theorem d_Law_law_1140 : decode code 1140 = .ok (.ireturn, 1) := by decide +kernel
theorem d_Law_law_1141 : decode code 1141 = .ok (.iload 5, 2) := by decide +kernel
theorem d_Law_law_1143 : decode code 1143 = .ok (.ifCond .ne 14, 3) := by decide +kernel
theorem d_Law_law_1146 : decode code 1146 = .ok (.aload_n 3, 1) := by decide +kernel
theorem d_Law_law_1147 : decode code 1147 = .ok (.iconst 0, 1) := by decide +kernel
theorem d_Law_law_1148 : decode code 1148 = .ok (.laload, 1) := by decide +kernel
theorem d_Law_law_1149 : decode code 1149 = .ok (.lload 6, 2) := by decide +kernel
theorem d_Law_law_1151 : decode code 1151 = .ok (.lcmp, 1) := by decide +kernel
theorem d_Law_law_1152 : decode code 1152 = .ok (.ifCond .eq 5, 3) := by decide +kernel
theorem d_Law_law_1155 : decode code 1155 = .ok (.iconst 0, 1) := by decide +kernel
theorem d_Law_law_1156 : decode code 1156 = .ok (.ireturn, 1) := by decide +kernel
theorem d_Law_law_1157 : decode code 1157 = .ok (.goto 190, 3) := by decide +kernel
theorem d_Law_law_1160 : decode code 1160 = .ok (.aload_n 1, 1) := by decide +kernel
theorem d_Law_law_1161 : decode code 1161 = .ok (.aload_n 0, 1) := by decide +kernel
theorem d_Law_law_1162 : decode code 1162 = .ok (.iload 4, 2) := by decide +kernel
theorem d_Law_law_1164 : decode code 1164 = .ok (.iconst 1, 1) := by decide +kernel
theorem d_Law_law_1165 : decode code 1165 = .ok (.iadd, 1) := by decide +kernel
theorem d_Law_law_1166 : decode code 1166 = .ok (.iaload, 1) := by decide +kernel
theorem d_Law_law_1167 : decode code 1167 = .ok (.aload_n 0, 1) := by decide +kernel
theorem d_Law_law_1168 : decode code 1168 = .ok (.iload 4, 2) := by decide +kernel
theorem d_Law_law_1170 : decode code 1170 = .ok (.iconst 2, 1) := by decide +kernel
theorem d_Law_law_1171 : decode code 1171 = .ok (.iadd, 1) := by decide +kernel
theorem d_Law_law_1172 : decode code 1172 = .ok (.iaload, 1) := by decide +kernel
theorem d_Law_law_1173 : decode code 1173 = .ok (.aload_n 3, 1) := by decide +kernel
theorem d_Law_law_1174 : decode code 1174 = .ok (.invokestatic 142, 3) := by decide +kernel
theorem d_Law_law_1177 : decode code 1177 = .ok (.istore 5, 2) := by decide +kernel
theorem d_Law_law_1179 : decode code 1179 = .ok (.aload_n 2, 1) := by decide +kernel
theorem d_Law_law_1180 : decode code 1180 = .ok (.aload_n 0, 1) := by decide +kernel
theorem d_Law_law_1181 : decode code 1181 = .ok (.iload 4, 2) := by decide +kernel
theorem d_Law_law_1183 : decode code 1183 = .ok (.iconst 1, 1) := by decide +kernel
theorem d_Law_law_1184 : decode code 1184 = .ok (.iadd, 1) := by decide +kernel
theorem d_Law_law_1185 : decode code 1185 = .ok (.iaload, 1) := by decide +kernel
theorem d_Law_law_1186 : decode code 1186 = .ok (.aload_n 0, 1) := by decide +kernel
theorem d_Law_law_1187 : decode code 1187 = .ok (.iload 4, 2) := by decide +kernel
theorem d_Law_law_1189 : decode code 1189 = .ok (.iconst 2, 1) := by decide +kernel
theorem d_Law_law_1190 : decode code 1190 = .ok (.iadd, 1) := by decide +kernel
theorem d_Law_law_1191 : decode code 1191 = .ok (.iaload, 1) := by decide +kernel
theorem d_Law_law_1192 : decode code 1192 = .ok (.invokevirtual 144, 3) := by decide +kernel
theorem d_Law_law_1195 : decode code 1195 = .ok (.istore 6, 2) := by decide +kernel
theorem d_Law_law_1197 : decode code 1197 = .ok (.aload_n 2, 1) := by decide +kernel
theorem d_Law_law_1198 : decode code 1198 = .ok (.invokevirtual 92, 3) := by decide +kernel
theorem d_Law_law_1201 : decode code 1201 = .ok (.iload 5, 2) := by decide +kernel
theorem d_Law_law_1203 : decode code 1203 = .ok (.if_icmp .eq 5, 3) := by decide +kernel
theorem d_Law_law_1206 : decode code 1206 = .ok (.iconst 0, 1) := by decide +kernel
theorem d_Law_law_1207 : decode code 1207 = .ok (.ireturn, 1) := by decide +kernel
theorem d_Law_law_1208 : decode code 1208 = .ok (.iload 5, 2) := by decide +kernel
theorem d_Law_law_1210 : decode code 1210 = .ok (.ifCond .ne 15, 3) := by decide +kernel
theorem d_Law_law_1213 : decode code 1213 = .ok (.aload_n 3, 1) := by decide +kernel
theorem d_Law_law_1214 : decode code 1214 = .ok (.iconst 0, 1) := by decide +kernel
theorem d_Law_law_1215 : decode code 1215 = .ok (.laload, 1) := by decide +kernel
theorem d_Law_law_1216 : decode code 1216 = .ok (.iload 6, 2) := by decide +kernel
theorem d_Law_law_1218 : decode code 1218 = .ok (.i2l, 1) := by decide +kernel
theorem d_Law_law_1219 : decode code 1219 = .ok (.lcmp, 1) := by decide +kernel
theorem d_Law_law_1220 : decode code 1220 = .ok (.ifCond .eq 5, 3) := by decide +kernel
theorem d_Law_law_1223 : decode code 1223 = .ok (.iconst 0, 1) := by decide +kernel
theorem d_Law_law_1224 : decode code 1224 = .ok (.ireturn, 1) := by decide +kernel
theorem d_Law_law_1225 : decode code 1225 = .ok (.goto 122, 3) := by decide +kernel
theorem d_Law_law_1228 : decode code 1228 = .ok (.aload_n 1, 1) := by decide +kernel
theorem d_Law_law_1229 : decode code 1229 = .ok (.aload_n 0, 1) := by decide +kernel
theorem d_Law_law_1230 : decode code 1230 = .ok (.iload 4, 2) := by decide +kernel
theorem d_Law_law_1232 : decode code 1232 = .ok (.iconst 1, 1) := by decide +kernel
theorem d_Law_law_1233 : decode code 1233 = .ok (.iadd, 1) := by decide +kernel
theorem d_Law_law_1234 : decode code 1234 = .ok (.iaload, 1) := by decide +kernel
theorem d_Law_law_1235 : decode code 1235 = .ok (.aload_n 0, 1) := by decide +kernel
theorem d_Law_law_1236 : decode code 1236 = .ok (.iload 4, 2) := by decide +kernel
theorem d_Law_law_1238 : decode code 1238 = .ok (.iconst 2, 1) := by decide +kernel
theorem d_Law_law_1239 : decode code 1239 = .ok (.iadd, 1) := by decide +kernel
theorem d_Law_law_1240 : decode code 1240 = .ok (.iaload, 1) := by decide +kernel
theorem d_Law_law_1241 : decode code 1241 = .ok (.aload_n 3, 1) := by decide +kernel
theorem d_Law_law_1242 : decode code 1242 = .ok (.invokestatic 145, 3) := by decide +kernel
theorem d_Law_law_1245 : decode code 1245 = .ok (.istore 5, 2) := by decide +kernel
theorem d_Law_law_1247 : decode code 1247 = .ok (.aload_n 2, 1) := by decide +kernel
theorem d_Law_law_1248 : decode code 1248 = .ok (.aload_n 0, 1) := by decide +kernel
theorem d_Law_law_1249 : decode code 1249 = .ok (.iload 4, 2) := by decide +kernel
theorem d_Law_law_1251 : decode code 1251 = .ok (.iconst 1, 1) := by decide +kernel
theorem d_Law_law_1252 : decode code 1252 = .ok (.iadd, 1) := by decide +kernel
theorem d_Law_law_1253 : decode code 1253 = .ok (.iaload, 1) := by decide +kernel
theorem d_Law_law_1254 : decode code 1254 = .ok (.aload_n 0, 1) := by decide +kernel
theorem d_Law_law_1255 : decode code 1255 = .ok (.iload 4, 2) := by decide +kernel
theorem d_Law_law_1257 : decode code 1257 = .ok (.iconst 2, 1) := by decide +kernel
theorem d_Law_law_1258 : decode code 1258 = .ok (.iadd, 1) := by decide +kernel
theorem d_Law_law_1259 : decode code 1259 = .ok (.iaload, 1) := by decide +kernel
theorem d_Law_law_1260 : decode code 1260 = .ok (.invokevirtual 147, 3) := by decide +kernel
theorem d_Law_law_1263 : decode code 1263 = .ok (.istore 6, 2) := by decide +kernel
theorem d_Law_law_1265 : decode code 1265 = .ok (.aload_n 2, 1) := by decide +kernel
theorem d_Law_law_1266 : decode code 1266 = .ok (.invokevirtual 92, 3) := by decide +kernel
theorem d_Law_law_1269 : decode code 1269 = .ok (.iload 5, 2) := by decide +kernel
theorem d_Law_law_1271 : decode code 1271 = .ok (.if_icmp .eq 5, 3) := by decide +kernel
theorem d_Law_law_1274 : decode code 1274 = .ok (.iconst 0, 1) := by decide +kernel
theorem d_Law_law_1275 : decode code 1275 = .ok (.ireturn, 1) := by decide +kernel
theorem d_Law_law_1276 : decode code 1276 = .ok (.iload 5, 2) := by decide +kernel
theorem d_Law_law_1278 : decode code 1278 = .ok (.ifCond .ne 15, 3) := by decide +kernel
theorem d_Law_law_1281 : decode code 1281 = .ok (.aload_n 3, 1) := by decide +kernel
theorem d_Law_law_1282 : decode code 1282 = .ok (.iconst 0, 1) := by decide +kernel
theorem d_Law_law_1283 : decode code 1283 = .ok (.laload, 1) := by decide +kernel
theorem d_Law_law_1284 : decode code 1284 = .ok (.iload 6, 2) := by decide +kernel
theorem d_Law_law_1286 : decode code 1286 = .ok (.i2l, 1) := by decide +kernel
theorem d_Law_law_1287 : decode code 1287 = .ok (.lcmp, 1) := by decide +kernel
theorem d_Law_law_1288 : decode code 1288 = .ok (.ifCond .eq 5, 3) := by decide +kernel
theorem d_Law_law_1291 : decode code 1291 = .ok (.iconst 0, 1) := by decide +kernel
theorem d_Law_law_1292 : decode code 1292 = .ok (.ireturn, 1) := by decide +kernel
theorem d_Law_law_1293 : decode code 1293 = .ok (.goto 54, 3) := by decide +kernel
theorem d_Law_law_1296 : decode code 1296 = .ok (.aload_n 1, 1) := by decide +kernel
theorem d_Law_law_1297 : decode code 1297 = .ok (.aload_n 3, 1) := by decide +kernel
theorem d_Law_law_1298 : decode code 1298 = .ok (.invokestatic 148, 3) := by decide +kernel
theorem d_Law_law_1301 : decode code 1301 = .ok (.istore 5, 2) := by decide +kernel
theorem d_Law_law_1303 : decode code 1303 = .ok (.aload_n 2, 1) := by decide +kernel
theorem d_Law_law_1304 : decode code 1304 = .ok (.invokevirtual 150, 3) := by decide +kernel
theorem d_Law_law_1307 : decode code 1307 = .ok (.istore 6, 2) := by decide +kernel
theorem d_Law_law_1309 : decode code 1309 = .ok (.aload_n 2, 1) := by decide +kernel
theorem d_Law_law_1310 : decode code 1310 = .ok (.invokevirtual 92, 3) := by decide +kernel
theorem d_Law_law_1313 : decode code 1313 = .ok (.iload 5, 2) := by decide +kernel
theorem d_Law_law_1315 : decode code 1315 = .ok (.if_icmp .eq 5, 3) := by decide +kernel
theorem d_Law_law_1318 : decode code 1318 = .ok (.iconst 0, 1) := by decide +kernel
theorem d_Law_law_1319 : decode code 1319 = .ok (.ireturn, 1) := by decide +kernel
theorem d_Law_law_1320 : decode code 1320 = .ok (.iload 5, 2) := by decide +kernel
theorem d_Law_law_1322 : decode code 1322 = .ok (.ifCond .ne 22, 3) := by decide +kernel
theorem d_Law_law_1325 : decode code 1325 = .ok (.aload_n 3, 1) := by decide +kernel
theorem d_Law_law_1326 : decode code 1326 = .ok (.iconst 0, 1) := by decide +kernel
theorem d_Law_law_1327 : decode code 1327 = .ok (.laload, 1) := by decide +kernel
theorem d_Law_law_1328 : decode code 1328 = .ok (.iload 6, 2) := by decide +kernel
theorem d_Law_law_1330 : decode code 1330 = .ok (.ifCond .eq 7, 3) := by decide +kernel
theorem d_Law_law_1333 : decode code 1333 = .ok (.lconst 1, 1) := by decide +kernel
theorem d_Law_law_1334 : decode code 1334 = .ok (.goto 4, 3) := by decide +kernel
theorem d_Law_law_1337 : decode code 1337 = .ok (.lconst 0, 1) := by decide +kernel
theorem d_Law_law_1338 : decode code 1338 = .ok (.lcmp, 1) := by decide +kernel
theorem d_Law_law_1339 : decode code 1339 = .ok (.ifCond .eq 5, 3) := by decide +kernel
theorem d_Law_law_1342 : decode code 1342 = .ok (.iconst 0, 1) := by decide +kernel
theorem d_Law_law_1343 : decode code 1343 = .ok (.ireturn, 1) := by decide +kernel
theorem d_Law_law_1344 : decode code 1344 = .ok (.goto 3, 3) := by decide +kernel
theorem d_Law_law_1347 : decode code 1347 = .ok (.iinc 4 7, 3) := by decide +kernel
theorem d_Law_law_1350 : decode code 1350 = .ok (.goto (-1297), 3) := by decide +kernel
theorem d_Law_law_1353 : decode code 1353 = .ok (.iconst 1, 1) := by decide +kernel
theorem d_Law_law_1354 : decode code 1354 = .ok (.ireturn, 1) := by decide +kernel
