theorem d_law_law_418 : decode code 418 = .ok (.aload_n 2, 1) := by decide +kernel
theorem d_law_law_419 : decode code 419 = .ok (.aload_n 0, 1) := by decide +kernel
theorem d_law_law_420 : decode code 420 = .ok (.iload_n 3, 1) := by decide +kernel
theorem d_law_law_421 : decode code 421 = .ok (.iconst 1, 1) := by decide +kernel
theorem d_law_law_422 : decode code 422 = .ok (.iadd, 1) := by decide +kernel
theorem d_law_law_423 : decode code 423 = .ok (.iaload, 1) := by decide +kernel
theorem d_law_law_424 : decode code 424 = .ok (.invokevirtual 72, 3) := by decide +kernel
theorem d_law_law_427 : decode code 427 = .ok (.if_icmp .eq 77, 3) := by decide +kernel
theorem d_law_law_430 : decode code 430 = .ok (.iconst 0, 1) := by decide +kernel
theorem d_law_law_431 : decode code 431 = .ok (.ireturn, 1) := by decide +kernel
theorem d_law_law_432 : decode code 432 = .ok (.aload_n 1, 1) := by decide +kernel
theorem d_law_law_433 : decode code 433 = .ok (.invokevirtual 73, 3) := by decide +kernel
theorem d_law_law_436 : decode code 436 = .ok (.aload_n 2, 1) := by decide +kernel
theorem d_law_law_437 : decode code 437 = .ok (.invokevirtual 76, 3) := by decide +kernel
theorem d_law_law_440 : decode code 440 = .ok (.if_icmp .eq 64, 3) := by decide +kernel
theorem d_law_law_443 : decode code 443 = .ok (.iconst 0, 1) := by decide +kernel
theorem d_law_law_444 : decode code 444 = .ok (.ireturn, 1) := by decide +kernel
theorem d_law_law_445 : decode code 445 = .ok (.aload_n 1, 1) := by decide +kernel
theorem d_law_law_446 : decode code 446 = .ok (.aload_n 0, 1) := by decide +kernel
theorem d_law_law_447 : decode code 447 = .ok (.iload_n 3, 1) := by decide +kernel
theorem d_law_law_448 : decode code 448 = .ok (.iconst 1, 1) := by decide +kernel
theorem d_law_law_449 : decode code 449 = .ok (.iadd, 1) := by decide +kernel
theorem d_law_law_450 : decode code 450 = .ok (.iaload, 1) := by decide +kernel
theorem d_law_law_451 : decode code 451 = .ok (.aload_n 0, 1) := by decide +kernel
theorem d_law_law_452 : decode code 452 = .ok (.iload_n 3, 1) := by decide +kernel
theorem d_law_law_453 : decode code 453 = .ok (.iconst 2, 1) := by decide +kernel
theorem d_law_law_454 : decode code 454 = .ok (.iadd, 1) := by decide +kernel
theorem d_law_law_455 : decode code 455 = .ok (.iaload, 1) := by decide +kernel
theorem d_law_law_456 : decode code 456 = .ok (.invokevirtual 77, 3) := by decide +kernel
theorem d_law_law_459 : decode code 459 = .ok (.aload_n 2, 1) := by decide +kernel
theorem d_law_law_460 : decode code 460 = .ok (.aload_n 0, 1) := by decide +kernel
theorem d_law_law_461 : decode code 461 = .ok (.iload_n 3, 1) := by decide +kernel
theorem d_law_law_462 : decode code 462 = .ok (.iconst 1, 1) := by decide +kernel
theorem d_law_law_463 : decode code 463 = .ok (.iadd, 1) := by decide +kernel
theorem d_law_law_464 : decode code 464 = .ok (.iaload, 1) := by decide +kernel
theorem d_law_law_465 : decode code 465 = .ok (.aload_n 0, 1) := by decide +kernel
theorem d_law_law_466 : decode code 466 = .ok (.iload_n 3, 1) := by decide +kernel
theorem d_law_law_467 : decode code 467 = .ok (.iconst 2, 1) := by decide +kernel
theorem d_law_law_468 : decode code 468 = .ok (.iadd, 1) := by decide +kernel
theorem d_law_law_469 : decode code 469 = .ok (.iaload, 1) := by decide +kernel
theorem d_law_law_470 : decode code 470 = .ok (.invokevirtual 80, 3) := by decide +kernel
theorem d_law_law_473 : decode code 473 = .ok (.if_icmp .eq 31, 3) := by decide +kernel
theorem d_law_law_476 : decode code 476 = .ok (.iconst 0, 1) := by decide +kernel
theorem d_law_law_477 : decode code 477 = .ok (.ireturn, 1) := by decide +kernel
theorem d_law_law_478 : decode code 478 = .ok (.aload_n 1, 1) := by decide +kernel
theorem d_law_law_479 : decode code 479 = .ok (.invokevirtual 81, 3) := by decide +kernel
theorem d_law_law_482 : decode code 482 = .ok (.aload_n 2, 1) := by decide +kernel
theorem d_law_law_483 : decode code 483 = .ok (.invokevirtual 84, 3) := by decide +kernel
theorem d_law_law_486 : decode code 486 = .ok (.if_icmp .eq 18, 3) := by decide +kernel
theorem d_law_law_489 : decode code 489 = .ok (.iconst 0, 1) := by decide +kernel
theorem d_law_law_490 : decode code 490 = .ok (.ireturn, 1) := by decide +kernel
theorem d_law_law_491 : decode code 491 = .ok (.aload_n 1, 1) := by decide +kernel
theorem d_law_law_492 : decode code 492 = .ok (.invokevirtual 85, 3) := by decide +kernel
theorem d_law_law_495 : decode code 495 = .ok (.aload_n 2, 1) := by decide +kernel
theorem d_law_law_496 : decode code 496 = .ok (.invokevirtual 88, 3) := by decide +kernel
theorem d_law_law_499 : decode code 499 = .ok (.if_icmp .eq 5, 3) := by decide +kernel
theorem d_law_law_502 : decode code 502 = .ok (.iconst 0, 1) := by decide +kernel
theorem d_law_law_503 : decode code 503 = .ok (.ireturn, 1) := by decide +kernel
theorem d_law_law_504 : decode code 504 = .ok (.iinc 3 4, 3) := by decide +kernel
theorem d_law_law_507 : decode code 507 = .ok (.goto (-489), 3) := by decide +kernel
