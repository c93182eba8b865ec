theorem dL_minute_397 : decode cL_minute 397 = .ok (.iload 12, 2) := by decide +kernel
theorem dL_minute_399 : decode cL_minute 399 = .ok (.iconst 1, 1) := by decide +kernel
theorem dL_minute_400 : decode cL_minute 400 = .ok (.if_icmp .ne 16, 3) := by decide +kernel
theorem dL_minute_403 : decode cL_minute 403 = .ok (.goto 9, 3) := by decide +kernel
theorem dL_minute_406 : decode cL_minute 406 = .ok (.iload 12, 2) := by decide +kernel
theorem dL_minute_408 : decode cL_minute 408 = .ok (.iconst 1, 1) := by decide +kernel
theorem dL_minute_409 : decode cL_minute 409 = .ok (.if_icmp .eq 7, 3) := by decide +kernel
theorem dL_minute_412 : decode cL_minute 412 = .ok (.iconst 1, 1) := by decide +kernel
theorem dL_minute_413 : decode cL_minute 413 = .ok (.goto 4, 3) := by decide +kernel
theorem dL_minute_416 : decode cL_minute 416 = .ok (.iconst 0, 1) := by decide +kernel
theorem dL_minute_417 : decode cL_minute 417 = .ok (.istore 17, 2) := by decide +kernel
theorem dL_minute_419 : decode cL_minute 419 = .ok (.iload 17, 2) := by decide +kernel
theorem dL_minute_421 : decode cL_minute 421 = .ok (.ifCond .eq 65, 3) := by decide +kernel
theorem dL_minute_424 : decode cL_minute 424 = .ok (.aload_n 0, 1) := by decide +kernel
theorem dL_minute_425 : decode cL_minute 425 = .ok (.bipush 10, 2) := by decide +kernel
theorem dL_minute_427 : decode cL_minute 427 = .ok (.iconst 0, 1) := by decide +kernel
theorem dL_minute_428 : decode cL_minute 428 = .ok (.iconst 0, 1) := by decide +kernel
theorem dL_minute_429 : decode cL_minute 429 = .ok (.iconst 0, 1) := by decide +kernel
theorem dL_minute_430 : decode cL_minute 430 = .ok (.invokestatic 138, 3) := by decide +kernel
theorem dL_minute_433 : decode cL_minute 433 = .ok (.invokestatic 190, 3) := by decide +kernel
theorem dL_minute_436 : decode cL_minute 436 = .ok (.ifCond .ne 50, 3) := by decide +kernel
theorem dL_minute_439 : decode cL_minute 439 = .ok (.aload_n 1, 1) := by decide +kernel
theorem dL_minute_440 : decode cL_minute 440 = .ok (.bipush 10, 2) := by decide +kernel
theorem dL_minute_442 : decode cL_minute 442 = .ok (.iconst 0, 1) := by decide +kernel
theorem dL_minute_443 : decode cL_minute 443 = .ok (.iconst 0, 1) := by decide +kernel
theorem dL_minute_444 : decode cL_minute 444 = .ok (.iconst 0, 1) := by decide +kernel
theorem dL_minute_445 : decode cL_minute 445 = .ok (.invokestatic 138, 3) := by decide +kernel
theorem dL_minute_448 : decode cL_minute 448 = .ok (.invokestatic 190, 3) := by decide +kernel
theorem dL_minute_451 : decode cL_minute 451 = .ok (.ifCond .ne 35, 3) := by decide +kernel
theorem dL_minute_454 : decode cL_minute 454 = .ok (.aload_n 0, 1) := by decide +kernel
theorem dL_minute_455 : decode cL_minute 455 = .ok (.iconst 3, 1) := by decide +kernel
theorem dL_minute_456 : decode cL_minute 456 = .ok (.iload 4, 2) := by decide +kernel
theorem dL_minute_458 : decode cL_minute 458 = .ok (.iconst 3, 1) := by decide +kernel
theorem dL_minute_459 : decode cL_minute 459 = .ok (.iconst 0, 1) := by decide +kernel
theorem dL_minute_460 : decode cL_minute 460 = .ok (.invokestatic 138, 3) := by decide +kernel
theorem dL_minute_463 : decode cL_minute 463 = .ok (.iload 6, 2) := by decide +kernel
theorem dL_minute_465 : decode cL_minute 465 = .ok (.if_icmp .ne 21, 3) := by decide +kernel
theorem dL_minute_468 : decode cL_minute 468 = .ok (.aload_n 0, 1) := by decide +kernel
theorem dL_minute_469 : decode cL_minute 469 = .ok (.iconst 4, 1) := by decide +kernel
theorem dL_minute_470 : decode cL_minute 470 = .ok (.iload 4, 2) := by decide +kernel
theorem dL_minute_472 : decode cL_minute 472 = .ok (.iconst 0, 1) := by decide +kernel
theorem dL_minute_473 : decode cL_minute 473 = .ok (.iconst 0, 1) := by decide +kernel
theorem dL_minute_474 : decode cL_minute 474 = .ok (.invokestatic 138, 3) := by decide +kernel
theorem dL_minute_477 : decode cL_minute 477 = .ok (.iload 5, 2) := by decide +kernel
theorem dL_minute_479 : decode cL_minute 479 = .ok (.if_icmp .ne 7, 3) := by decide +kernel
theorem dL_minute_482 : decode cL_minute 482 = .ok (.iconst 1, 1) := by decide +kernel
theorem dL_minute_483 : decode cL_minute 483 = .ok (.goto 4, 3) := by decide +kernel
theorem dL_minute_486 : decode cL_minute 486 = .ok (.iconst 0, 1) := by decide +kernel
theorem dL_minute_487 : decode cL_minute 487 = .ok (.ireturn, 1) := by decide +kernel
