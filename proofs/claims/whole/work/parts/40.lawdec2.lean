/-! DECODED INSTRUCTIONS OF THE LAW -/
theorem d_W_law_318 : decode code 318 = .ok (.iadd, 1) := by decide +kernel
theorem d_W_law_319 : decode code 319 = .ok (.iaload, 1) := by decide +kernel
theorem d_W_law_320 : decode code 320 = .ok (.ifCond .eq 7, 3) := by decide +kernel
theorem d_W_law_323 : decode code 323 = .ok (.iconst 1, 1) := by decide +kernel
theorem d_W_law_324 : decode code 324 = .ok (.goto 4, 3) := by decide +kernel
theorem d_W_law_327 : decode code 327 = .ok (.iconst 0, 1) := by decide +kernel
theorem d_W_law_328 : decode code 328 = .ok (.invokevirtual 92, 3) := by decide +kernel
theorem d_W_law_331 : decode code 331 = .ok (.istore 7, 2) := by decide +kernel
theorem d_W_law_333 : decode code 333 = .ok (.aload_n 2, 1) := by decide +kernel
theorem d_W_law_334 : decode code 334 = .ok (.invokevirtual 78, 3) := by decide +kernel
theorem d_W_law_337 : decode code 337 = .ok (.iload 6, 2) := by decide +kernel
theorem d_W_law_339 : decode code 339 = .ok (.if_icmp .eq 5, 3) := by decide +kernel
theorem d_W_law_342 : decode code 342 = .ok (.iconst 0, 1) := by decide +kernel
theorem d_W_law_343 : decode code 343 = .ok (.ireturn, 1) := by decide +kernel
theorem d_W_law_344 : decode code 344 = .ok (.iload 6, 2) := by decide +kernel
theorem d_W_law_346 : decode code 346 = .ok (.ifCond .ne 15, 3) := by decide +kernel
theorem d_W_law_349 : decode code 349 = .ok (.aload_n 3, 1) := by decide +kernel
theorem d_W_law_350 : decode code 350 = .ok (.iconst 0, 1) := by decide +kernel
theorem d_W_law_351 : decode code 351 = .ok (.laload, 1) := by decide +kernel
theorem d_W_law_352 : decode code 352 = .ok (.iload 7, 2) := by decide +kernel
theorem d_W_law_354 : decode code 354 = .ok (.i2l, 1) := by decide +kernel
theorem d_W_law_355 : decode code 355 = .ok (.lcmp, 1) := by decide +kernel
theorem d_W_law_356 : decode code 356 = .ok (.ifCond .eq 5, 3) := by decide +kernel
theorem d_W_law_359 : decode code 359 = .ok (.iconst 0, 1) := by decide +kernel
theorem d_W_law_360 : decode code 360 = .ok (.ireturn, 1) := by decide +kernel
theorem d_W_law_361 : decode code 361 = .ok (.goto 622, 3) := by decide +kernel
theorem d_W_law_364 : decode code 364 = .ok (.aload_n 1, 1) := by decide +kernel
theorem d_W_law_365 : decode code 365 = .ok (.invokevirtual 93, 3) := by decide +kernel
theorem d_W_law_368 : decode code 368 = .ok (.aload_n 2, 1) := by decide +kernel
theorem d_W_law_369 : decode code 369 = .ok (.invokevirtual 96, 3) := by decide +kernel
theorem d_W_law_372 : decode code 372 = .ok (.if_icmp .eq 611, 3) := by decide +kernel
theorem d_W_law_375 : decode code 375 = .ok (.iconst 0, 1) := by decide +kernel
theorem d_W_law_376 : decode code 376 = .ok (.ireturn, 1) := by decide +kernel
theorem d_W_law_377 : decode code 377 = .ok (.aload_n 1, 1) := by decide +kernel
theorem d_W_law_378 : decode code 378 = .ok (.aload_n 0, 1) := by decide +kernel
theorem d_W_law_379 : decode code 379 = .ok (.iload 5, 2) := by decide +kernel
theorem d_W_law_381 : decode code 381 = .ok (.iconst 1, 1) := by decide +kernel
theorem d_W_law_382 : decode code 382 = .ok (.iadd, 1) := by decide +kernel
theorem d_W_law_383 : decode code 383 = .ok (.iaload, 1) := by decide +kernel
theorem d_W_law_384 : decode code 384 = .ok (.aload_n 3, 1) := by decide +kernel
theorem d_W_law_385 : decode code 385 = .ok (.invokestatic 97, 3) := by decide +kernel
theorem d_W_law_388 : decode code 388 = .ok (.istore 6, 2) := by decide +kernel
theorem d_W_law_390 : decode code 390 = .ok (.aload_n 2, 1) := by decide +kernel
theorem d_W_law_391 : decode code 391 = .ok (.aload_n 0, 1) := by decide +kernel
theorem d_W_law_392 : decode code 392 = .ok (.iload 5, 2) := by decide +kernel
theorem d_W_law_394 : decode code 394 = .ok (.iconst 1, 1) := by decide +kernel
theorem d_W_law_395 : decode code 395 = .ok (.iadd, 1) := by decide +kernel
theorem d_W_law_396 : decode code 396 = .ok (.iaload, 1) := by decide +kernel
theorem d_W_law_397 : decode code 397 = .ok (.invokevirtual 99, 3) := by decide +kernel
theorem d_W_law_400 : decode code 400 = .ok (.istore 7, 2) := by decide +kernel
theorem d_W_law_402 : decode code 402 = .ok (.aload_n 2, 1) := by decide +kernel
theorem d_W_law_403 : decode code 403 = .ok (.invokevirtual 78, 3) := by decide +kernel
theorem d_W_law_406 : decode code 406 = .ok (.iload 6, 2) := by decide +kernel
theorem d_W_law_408 : decode code 408 = .ok (.if_icmp .eq 5, 3) := by decide +kernel
theorem d_W_law_411 : decode code 411 = .ok (.iconst 0, 1) := by decide +kernel
theorem d_W_law_412 : decode code 412 = .ok (.ireturn, 1) := by decide +kernel
theorem d_W_law_413 : decode code 413 = .ok (.iload 6, 2) := by decide +kernel
theorem d_W_law_415 : decode code 415 = .ok (.ifCond .ne 15, 3) := by decide +kernel
theorem d_W_law_418 : decode code 418 = .ok (.aload_n 3, 1) := by decide +kernel
theorem d_W_law_419 : decode code 419 = .ok (.iconst 0, 1) := by decide +kernel
theorem d_W_law_420 : decode code 420 = .ok (.laload, 1) := by decide +kernel
theorem d_W_law_421 : decode code 421 = .ok (.iload 7, 2) := by decide +kernel
theorem d_W_law_423 : decode code 423 = .ok (.i2l, 1) := by decide +kernel
theorem d_W_law_424 : decode code 424 = .ok (.lcmp, 1) := by decide +kernel
theorem d_W_law_425 : decode code 425 = .ok (.ifCond .eq 5, 3) := by decide +kernel
theorem d_W_law_428 : decode code 428 = .ok (.iconst 0, 1) := by decide +kernel
theorem d_W_law_429 : decode code 429 = .ok (.ireturn, 1) := by decide +kernel
theorem d_W_law_430 : decode code 430 = .ok (.goto 553, 3) := by decide +kernel
theorem d_W_law_433 : decode code 433 = .ok (.aload_n 1, 1) := by decide +kernel
theorem d_W_law_434 : decode code 434 = .ok (.aload_n 3, 1) := by decide +kernel
theorem d_W_law_435 : decode code 435 = .ok (.invokestatic 100, 3) := by decide +kernel
theorem d_W_law_438 : decode code 438 = .ok (.istore 6, 2) := by decide +kernel
theorem d_W_law_440 : decode code 440 = .ok (.aload_n 2, 1) := by decide +kernel
theorem d_W_law_441 : decode code 441 = .ok (.invokevirtual 102, 3) := by decide +kernel
theorem d_W_law_444 : decode code 444 = .ok (.istore 7, 2) := by decide +kernel
