theorem dL_368 : decode code 368 = .ok (.iconst 1, 1) := by decide +kernel
theorem dL_369 : decode code 369 = .ok (.iadd, 1) := by decide +kernel
theorem dL_370 : decode code 370 = .ok (.iaload, 1) := by decide +kernel
theorem dL_371 : decode code 371 = .ok (.invokevirtual 35, 3) := by decide +kernel
theorem dL_374 : decode code 374 = .ok (.if_icmp .eq 873, 3) := by decide +kernel
theorem dL_377 : decode code 377 = .ok (.iconst 0, 1) := by decide +kernel
theorem dL_378 : decode code 378 = .ok (.ireturn, 1) := by decide +kernel
theorem dL_379 : decode code 379 = .ok (.aload_n 1, 1) := by decide +kernel
theorem dL_380 : decode code 380 = .ok (.invokevirtual 36, 3) := by decide +kernel
theorem dL_383 : decode code 383 = .ok (.aload_n 2, 1) := by decide +kernel
theorem dL_384 : decode code 384 = .ok (.invokevirtual 40, 3) := by decide +kernel
theorem dL_387 : decode code 387 = .ok (.if_icmp .eq 860, 3) := by decide +kernel
theorem dL_390 : decode code 390 = .ok (.iconst 0, 1) := by decide +kernel
theorem dL_391 : decode code 391 = .ok (.ireturn, 1) := by decide +kernel
theorem dL_392 : decode code 392 = .ok (.aload_n 1, 1) := by decide +kernel
theorem dL_393 : decode code 393 = .ok (.invokevirtual 41, 3) := by decide +kernel
theorem dL_396 : decode code 396 = .ok (.aload_n 2, 1) := by decide +kernel
theorem dL_397 : decode code 397 = .ok (.invokevirtual 44, 3) := by decide +kernel
theorem dL_400 : decode code 400 = .ok (.if_icmp .eq 847, 3) := by decide +kernel
theorem dL_403 : decode code 403 = .ok (.iconst 0, 1) := by decide +kernel
theorem dL_404 : decode code 404 = .ok (.ireturn, 1) := by decide +kernel
theorem dL_405 : decode code 405 = .ok (.aload_n 1, 1) := by decide +kernel
theorem dL_406 : decode code 406 = .ok (.invokevirtual 45, 3) := by decide +kernel
theorem dL_409 : decode code 409 = .ok (.aload_n 2, 1) := by decide +kernel
theorem dL_410 : decode code 410 = .ok (.invokevirtual 48, 3) := by decide +kernel
theorem dL_413 : decode code 413 = .ok (.if_icmp .eq 834, 3) := by decide +kernel
theorem dL_416 : decode code 416 = .ok (.iconst 0, 1) := by decide +kernel
theorem dL_417 : decode code 417 = .ok (.ireturn, 1) := by decide +kernel
theorem dL_418 : decode code 418 = .ok (.aload_n 1, 1) := by decide +kernel
theorem dL_419 : decode code 419 = .ok (.aload_n 0, 1) := by decide +kernel
theorem dL_420 : decode code 420 = .ok (.iload_n 3, 1) := by decide +kernel
theorem dL_421 : decode code 421 = .ok (.iconst 1, 1) := by decide +kernel
theorem dL_422 : decode code 422 = .ok (.iadd, 1) := by decide +kernel
theorem dL_423 : decode code 423 = .ok (.iaload, 1) := by decide +kernel
theorem dL_424 : decode code 424 = .ok (.invokevirtual 49, 3) := by decide +kernel
theorem dL_427 : decode code 427 = .ok (.aload_n 2, 1) := by decide +kernel
theorem dL_428 : decode code 428 = .ok (.aload_n 0, 1) := by decide +kernel
theorem dL_429 : decode code 429 = .ok (.iload_n 3, 1) := by decide +kernel
theorem dL_430 : decode code 430 = .ok (.iconst 1, 1) := by decide +kernel
theorem dL_431 : decode code 431 = .ok (.iadd, 1) := by decide +kernel
theorem dL_432 : decode code 432 = .ok (.iaload, 1) := by decide +kernel
theorem dL_433 : decode code 433 = .ok (.invokevirtual 52, 3) := by decide +kernel
theorem dL_436 : decode code 436 = .ok (.if_icmp .eq 811, 3) := by decide +kernel
theorem dL_439 : decode code 439 = .ok (.iconst 0, 1) := by decide +kernel
theorem dL_440 : decode code 440 = .ok (.ireturn, 1) := by decide +kernel
theorem dL_441 : decode code 441 = .ok (.aload_n 1, 1) := by decide +kernel
theorem dL_442 : decode code 442 = .ok (.aload_n 0, 1) := by decide +kernel
theorem dL_443 : decode code 443 = .ok (.iload_n 3, 1) := by decide +kernel
theorem dL_444 : decode code 444 = .ok (.iconst 1, 1) := by decide +kernel
theorem dL_445 : decode code 445 = .ok (.iadd, 1) := by decide +kernel
theorem dL_446 : decode code 446 = .ok (.iaload, 1) := by decide +kernel
theorem dL_447 : decode code 447 = .ok (.aload_n 0, 1) := by decide +kernel
theorem dL_448 : decode code 448 = .ok (.iload_n 3, 1) := by decide +kernel
theorem dL_449 : decode code 449 = .ok (.iconst 2, 1) := by decide +kernel
theorem dL_450 : decode code 450 = .ok (.iadd, 1) := by decide +kernel
theorem dL_451 : decode code 451 = .ok (.iaload, 1) := by decide +kernel
theorem dL_452 : decode code 452 = .ok (.aload_n 0, 1) := by decide +kernel
theorem dL_453 : decode code 453 = .ok (.iload_n 3, 1) := by decide +kernel
theorem dL_454 : decode code 454 = .ok (.iconst 3, 1) := by decide +kernel
theorem dL_455 : decode code 455 = .ok (.iadd, 1) := by decide +kernel
