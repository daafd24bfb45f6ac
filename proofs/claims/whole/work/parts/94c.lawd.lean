theorem d_Law_law_340 : decode code 340 = .ok (.iconst 3, 1) := by decide +kernel
theorem d_Law_law_341 : decode code 341 = .ok (.iadd, 1) := by decide +kernel
theorem d_Law_law_342 : decode code 342 = .ok (.iaload, 1) := by decide +kernel
theorem d_Law_law_343 : decode code 343 = .ok (.aload_n 0, 1) := by decide +kernel
theorem d_Law_law_344 : decode code 344 = .ok (.iload 4, 2) := by decide +kernel
theorem d_Law_law_346 : decode code 346 = .ok (.iconst 4, 1) := by decide +kernel
theorem d_Law_law_347 : decode code 347 = .ok (.iadd, 1) := by decide +kernel
theorem d_Law_law_348 : decode code 348 = .ok (.iaload, 1) := by decide +kernel
theorem d_Law_law_349 : decode code 349 = .ok (.i2l, 1) := by decide +kernel
theorem d_Law_law_350 : decode code 350 = .ok (.bipush 32, 2) := by decide +kernel
theorem d_Law_law_352 : decode code 352 = .ok (.lshl, 1) := by decide +kernel
theorem d_Law_law_353 : decode code 353 = .ok (.aload_n 0, 1) := by decide +kernel
theorem d_Law_law_354 : decode code 354 = .ok (.iload 4, 2) := by decide +kernel
theorem d_Law_law_356 : decode code 356 = .ok (.iconst 5, 1) := by decide +kernel
theorem d_Law_law_357 : decode code 357 = .ok (.iadd, 1) := by decide +kernel
theorem d_Law_law_358 : decode code 358 = .ok (.iaload, 1) := by decide +kernel
theorem d_Law_law_359 : decode code 359 = .ok (.i2l, 1) := by decide +kernel
theorem d_Law_law_360 : decode code 360 = .ok (.ldc2_w 96, 3) := by decide +kernel
theorem d_Law_law_363 : decode code 363 = .ok (.land, 1) := by decide +kernel
theorem d_Law_law_364 : decode code 364 = .ok (.lor, 1) := by decide +kernel
theorem d_Law_law_365 : decode code 365 = .ok (.invokevirtual 101, 3) := by decide +kernel
theorem d_Law_law_368 : decode code 368 = .ok (.istore 6, 2) := by decide +kernel
theorem d_Law_law_370 : decode code 370 = .ok (.aload_n 2, 1) := by decide +kernel
theorem d_Law_law_371 : decode code 371 = .ok (.invokevirtual 92, 3) := by decide +kernel
theorem d_Law_law_374 : decode code 374 = .ok (.iload 5, 2) := by decide +kernel
theorem d_Law_law_376 : decode code 376 = .ok (.if_icmp .eq 5, 3) := by decide +kernel
theorem d_Law_law_379 : decode code 379 = .ok (.iconst 0, 1) := by decide +kernel
theorem d_Law_law_380 : decode code 380 = .ok (.ireturn, 1) := by decide +kernel
theorem d_Law_law_381 : decode code 381 = .ok (.iload 5, 2) := by decide +kernel
theorem d_Law_law_383 : decode code 383 = .ok (.ifCond .ne 15, 3) := by decide +kernel
theorem d_Law_law_386 : decode code 386 = .ok (.aload_n 3, 1) := by decide +kernel
theorem d_Law_law_387 : decode code 387 = .ok (.iconst 0, 1) := by decide +kernel
theorem d_Law_law_388 : decode code 388 = .ok (.laload, 1) := by decide +kernel
theorem d_Law_law_389 : decode code 389 = .ok (.iload 6, 2) := by decide +kernel
theorem d_Law_law_391 : decode code 391 = .ok (.i2l, 1) := by decide +kernel
theorem d_Law_law_392 : decode code 392 = .ok (.lcmp, 1) := by decide +kernel
theorem d_Law_law_393 : decode code 393 = .ok (.ifCond .eq 5, 3) := by decide +kernel
theorem d_Law_law_396 : decode code 396 = .ok (.iconst 0, 1) := by decide +kernel
theorem d_Law_law_397 : decode code 397 = .ok (.ireturn, 1) := by decide +kernel
theorem d_Law_law_398 : decode code 398 = .ok (.goto 949, 3) := by decide +kernel
theorem d_Law_law_401 : decode code 401 = .ok (.aload_n 1, 1) := by decide +kernel
theorem d_Law_law_402 : decode code 402 = .ok (.aload_n 0, 1) := by decide +kernel
theorem d_Law_law_403 : decode code 403 = .ok (.iload 4, 2) := by decide +kernel
theorem d_Law_law_405 : decode code 405 = .ok (.iconst 1, 1) := by decide +kernel
theorem d_Law_law_406 : decode code 406 = .ok (.iadd, 1) := by decide +kernel
theorem d_Law_law_407 : decode code 407 = .ok (.iaload, 1) := by decide +kernel
theorem d_Law_law_408 : decode code 408 = .ok (.aload_n 0, 1) := by decide +kernel
theorem d_Law_law_409 : decode code 409 = .ok (.iload 4, 2) := by decide +kernel
theorem d_Law_law_411 : decode code 411 = .ok (.iconst 2, 1) := by decide +kernel
theorem d_Law_law_412 : decode code 412 = .ok (.iadd, 1) := by decide +kernel
theorem d_Law_law_413 : decode code 413 = .ok (.iaload, 1) := by decide +kernel
theorem d_Law_law_414 : decode code 414 = .ok (.aload_n 0, 1) := by decide +kernel
theorem d_Law_law_415 : decode code 415 = .ok (.iload 4, 2) := by decide +kernel
theorem d_Law_law_417 : decode code 417 = .ok (.iconst 3, 1) := by decide +kernel
theorem d_Law_law_418 : decode code 418 = .ok (.iadd, 1) := by decide +kernel
theorem d_Law_law_419 : decode code 419 = .ok (.iaload, 1) := by decide +kernel
theorem d_Law_law_420 : decode code 420 = .ok (.aload_n 3, 1) := by decide +kernel
theorem d_Law_law_421 : decode code 421 = .ok (.invokestatic 102, 3) := by decide +kernel
theorem d_Law_law_424 : decode code 424 = .ok (.istore 5, 2) := by decide +kernel
theorem d_Law_law_426 : decode code 426 = .ok (.aload_n 2, 1) := by decide +kernel
