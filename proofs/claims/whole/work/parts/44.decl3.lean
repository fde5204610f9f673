theorem d_law_law_338 : decode code 338 = .ok (.iconst 0, 1) := by decide +kernel
theorem d_law_law_339 : decode code 339 = .ok (.ireturn, 1) := by decide +kernel
theorem d_law_law_340 : decode code 340 = .ok (.aload_n 1, 1) := by decide +kernel
theorem d_law_law_341 : decode code 341 = .ok (.aload_n 0, 1) := by decide +kernel
theorem d_law_law_342 : decode code 342 = .ok (.iload_n 3, 1) := by decide +kernel
theorem d_law_law_343 : decode code 343 = .ok (.iconst 1, 1) := by decide +kernel
theorem d_law_law_344 : decode code 344 = .ok (.iadd, 1) := by decide +kernel
theorem d_law_law_345 : decode code 345 = .ok (.iaload, 1) := by decide +kernel
theorem d_law_law_346 : decode code 346 = .ok (.invokevirtual 57, 3) := by decide +kernel
theorem d_law_law_349 : decode code 349 = .ok (.aload_n 2, 1) := by decide +kernel
theorem d_law_law_350 : decode code 350 = .ok (.aload_n 0, 1) := by decide +kernel
theorem d_law_law_351 : decode code 351 = .ok (.iload_n 3, 1) := by decide +kernel
theorem d_law_law_352 : decode code 352 = .ok (.iconst 1, 1) := by decide +kernel
theorem d_law_law_353 : decode code 353 = .ok (.iadd, 1) := by decide +kernel
theorem d_law_law_354 : decode code 354 = .ok (.iaload, 1) := by decide +kernel
theorem d_law_law_355 : decode code 355 = .ok (.invokevirtual 60, 3) := by decide +kernel
theorem d_law_law_358 : decode code 358 = .ok (.if_icmp .eq 146, 3) := by decide +kernel
theorem d_law_law_361 : decode code 361 = .ok (.iconst 0, 1) := by decide +kernel
theorem d_law_law_362 : decode code 362 = .ok (.ireturn, 1) := by decide +kernel
theorem d_law_law_363 : decode code 363 = .ok (.aload_n 1, 1) := by decide +kernel
theorem d_law_law_364 : decode code 364 = .ok (.aload_n 0, 1) := by decide +kernel
theorem d_law_law_365 : decode code 365 = .ok (.iload_n 3, 1) := by decide +kernel
theorem d_law_law_366 : decode code 366 = .ok (.iconst 1, 1) := by decide +kernel
theorem d_law_law_367 : decode code 367 = .ok (.iadd, 1) := by decide +kernel
theorem d_law_law_368 : decode code 368 = .ok (.iaload, 1) := by decide +kernel
theorem d_law_law_369 : decode code 369 = .ok (.aload_n 0, 1) := by decide +kernel
theorem d_law_law_370 : decode code 370 = .ok (.iload_n 3, 1) := by decide +kernel
theorem d_law_law_371 : decode code 371 = .ok (.iconst 2, 1) := by decide +kernel
theorem d_law_law_372 : decode code 372 = .ok (.iadd, 1) := by decide +kernel
theorem d_law_law_373 : decode code 373 = .ok (.iaload, 1) := by decide +kernel
theorem d_law_law_374 : decode code 374 = .ok (.invokevirtual 61, 3) := by decide +kernel
theorem d_law_law_377 : decode code 377 = .ok (.aload_n 2, 1) := by decide +kernel
theorem d_law_law_378 : decode code 378 = .ok (.aload_n 0, 1) := by decide +kernel
theorem d_law_law_379 : decode code 379 = .ok (.iload_n 3, 1) := by decide +kernel
theorem d_law_law_380 : decode code 380 = .ok (.iconst 1, 1) := by decide +kernel
theorem d_law_law_381 : decode code 381 = .ok (.iadd, 1) := by decide +kernel
theorem d_law_law_382 : decode code 382 = .ok (.iaload, 1) := by decide +kernel
theorem d_law_law_383 : decode code 383 = .ok (.aload_n 0, 1) := by decide +kernel
theorem d_law_law_384 : decode code 384 = .ok (.iload_n 3, 1) := by decide +kernel
theorem d_law_law_385 : decode code 385 = .ok (.iconst 2, 1) := by decide +kernel
theorem d_law_law_386 : decode code 386 = .ok (.iadd, 1) := by decide +kernel
theorem d_law_law_387 : decode code 387 = .ok (.iaload, 1) := by decide +kernel
theorem d_law_law_388 : decode code 388 = .ok (.invokevirtual 64, 3) := by decide +kernel
theorem d_law_law_391 : decode code 391 = .ok (.if_icmp .eq 113, 3) := by decide +kernel
theorem d_law_law_394 : decode code 394 = .ok (.iconst 0, 1) := by decide +kernel
theorem d_law_law_395 : decode code 395 = .ok (.ireturn, 1) := by decide +kernel
theorem d_law_law_396 : decode code 396 = .ok (.aload_n 1, 1) := by decide +kernel
theorem d_law_law_397 : decode code 397 = .ok (.invokevirtual 65, 3) := by decide +kernel
theorem d_law_law_400 : decode code 400 = .ok (.aload_n 2, 1) := by decide +kernel
theorem d_law_law_401 : decode code 401 = .ok (.invokevirtual 68, 3) := by decide +kernel
theorem d_law_law_404 : decode code 404 = .ok (.if_icmp .eq 100, 3) := by decide +kernel
theorem d_law_law_407 : decode code 407 = .ok (.iconst 0, 1) := by decide +kernel
theorem d_law_law_408 : decode code 408 = .ok (.ireturn, 1) := by decide +kernel
theorem d_law_law_409 : decode code 409 = .ok (.aload_n 1, 1) := by decide +kernel
theorem d_law_law_410 : decode code 410 = .ok (.aload_n 0, 1) := by decide +kernel
theorem d_law_law_411 : decode code 411 = .ok (.iload_n 3, 1) := by decide +kernel
theorem d_law_law_412 : decode code 412 = .ok (.iconst 1, 1) := by decide +kernel
theorem d_law_law_413 : decode code 413 = .ok (.iadd, 1) := by decide +kernel
theorem d_law_law_414 : decode code 414 = .ok (.iaload, 1) := by decide +kernel
theorem d_law_law_415 : decode code 415 = .ok (.invokevirtual 69, 3) := by decide +kernel
