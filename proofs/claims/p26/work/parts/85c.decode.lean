theorem dL_refuses_361 : decode cL_refuses 361 = .ok (.iconst (-1), 1) := by decide +kernel
theorem dL_refuses_362 : decode cL_refuses 362 = .ok (.iload_n 1, 1) := by decide +kernel
theorem dL_refuses_363 : decode cL_refuses 363 = .ok (.bipush 9, 2) := by decide +kernel
theorem dL_refuses_365 : decode cL_refuses 365 = .ok (.irem, 1) := by decide +kernel
theorem dL_refuses_366 : decode cL_refuses 366 = .ok (.isub, 1) := by decide +kernel
theorem dL_refuses_367 : decode cL_refuses 367 = .ok (.iconst 0, 1) := by decide +kernel
theorem dL_refuses_368 : decode cL_refuses 368 = .ok (.invokestatic 138, 3) := by decide +kernel
theorem dL_refuses_371 : decode cL_refuses 371 = .ok (.ldc 22, 2) := by decide +kernel
theorem dL_refuses_373 : decode cL_refuses 373 = .ok (.if_icmp .ne 212, 3) := by decide +kernel
theorem dL_refuses_376 : decode cL_refuses 376 = .ok (.aload_n 0, 1) := by decide +kernel
theorem dL_refuses_377 : decode cL_refuses 377 = .ok (.bipush 9, 2) := by decide +kernel
theorem dL_refuses_379 : decode cL_refuses 379 = .ok (.iconst 3, 1) := by decide +kernel
theorem dL_refuses_380 : decode cL_refuses 380 = .ok (.iload_n 1, 1) := by decide +kernel
theorem dL_refuses_381 : decode cL_refuses 381 = .ok (.iconst 3, 1) := by decide +kernel
theorem dL_refuses_382 : decode cL_refuses 382 = .ok (.irem, 1) := by decide +kernel
theorem dL_refuses_383 : decode cL_refuses 383 = .ok (.iadd, 1) := by decide +kernel
theorem dL_refuses_384 : decode cL_refuses 384 = .ok (.iconst 0, 1) := by decide +kernel
theorem dL_refuses_385 : decode cL_refuses 385 = .ok (.iconst 0, 1) := by decide +kernel
theorem dL_refuses_386 : decode cL_refuses 386 = .ok (.invokestatic 138, 3) := by decide +kernel
theorem dL_refuses_389 : decode cL_refuses 389 = .ok (.ldc 22, 2) := by decide +kernel
theorem dL_refuses_391 : decode cL_refuses 391 = .ok (.if_icmp .ne 194, 3) := by decide +kernel
theorem dL_refuses_394 : decode cL_refuses 394 = .ok (.aload_n 0, 1) := by decide +kernel
theorem dL_refuses_395 : decode cL_refuses 395 = .ok (.bipush 9, 2) := by decide +kernel
theorem dL_refuses_397 : decode cL_refuses 397 = .ok (.bipush 6, 2) := by decide +kernel
theorem dL_refuses_399 : decode cL_refuses 399 = .ok (.iload_n 1, 1) := by decide +kernel
theorem dL_refuses_400 : decode cL_refuses 400 = .ok (.bipush 9, 2) := by decide +kernel
theorem dL_refuses_402 : decode cL_refuses 402 = .ok (.irem, 1) := by decide +kernel
theorem dL_refuses_403 : decode cL_refuses 403 = .ok (.iadd, 1) := by decide +kernel
theorem dL_refuses_404 : decode cL_refuses 404 = .ok (.iconst 5, 1) := by decide +kernel
theorem dL_refuses_405 : decode cL_refuses 405 = .ok (.iconst 0, 1) := by decide +kernel
theorem dL_refuses_406 : decode cL_refuses 406 = .ok (.invokestatic 138, 3) := by decide +kernel
theorem dL_refuses_409 : decode cL_refuses 409 = .ok (.ldc 22, 2) := by decide +kernel
theorem dL_refuses_411 : decode cL_refuses 411 = .ok (.if_icmp .ne 174, 3) := by decide +kernel
theorem dL_refuses_414 : decode cL_refuses 414 = .ok (.aload_n 0, 1) := by decide +kernel
theorem dL_refuses_415 : decode cL_refuses 415 = .ok (.bipush 11, 2) := by decide +kernel
theorem dL_refuses_417 : decode cL_refuses 417 = .ok (.iload_n 2, 1) := by decide +kernel
theorem dL_refuses_418 : decode cL_refuses 418 = .ok (.iconst 0, 1) := by decide +kernel
theorem dL_refuses_419 : decode cL_refuses 419 = .ok (.iconst 0, 1) := by decide +kernel
theorem dL_refuses_420 : decode cL_refuses 420 = .ok (.invokestatic 138, 3) := by decide +kernel
theorem dL_refuses_423 : decode cL_refuses 423 = .ok (.ldc 15, 2) := by decide +kernel
theorem dL_refuses_425 : decode cL_refuses 425 = .ok (.if_icmp .ne 160, 3) := by decide +kernel
theorem dL_refuses_428 : decode cL_refuses 428 = .ok (.aload_n 0, 1) := by decide +kernel
theorem dL_refuses_429 : decode cL_refuses 429 = .ok (.bipush 12, 2) := by decide +kernel
theorem dL_refuses_431 : decode cL_refuses 431 = .ok (.sipush 241, 3) := by decide +kernel
theorem dL_refuses_434 : decode cL_refuses 434 = .ok (.iload_n 1, 1) := by decide +kernel
theorem dL_refuses_435 : decode cL_refuses 435 = .ok (.bipush 9, 2) := by decide +kernel
theorem dL_refuses_437 : decode cL_refuses 437 = .ok (.irem, 1) := by decide +kernel
theorem dL_refuses_438 : decode cL_refuses 438 = .ok (.iadd, 1) := by decide +kernel
theorem dL_refuses_439 : decode cL_refuses 439 = .ok (.iconst 0, 1) := by decide +kernel
theorem dL_refuses_440 : decode cL_refuses 440 = .ok (.iconst 0, 1) := by decide +kernel
theorem dL_refuses_441 : decode cL_refuses 441 = .ok (.invokestatic 138, 3) := by decide +kernel
theorem dL_refuses_444 : decode cL_refuses 444 = .ok (.ldc 22, 2) := by decide +kernel
theorem dL_refuses_446 : decode cL_refuses 446 = .ok (.if_icmp .ne 139, 3) := by decide +kernel
theorem dL_refuses_449 : decode cL_refuses 449 = .ok (.aload_n 0, 1) := by decide +kernel
theorem dL_refuses_450 : decode cL_refuses 450 = .ok (.bipush 12, 2) := by decide +kernel
theorem dL_refuses_452 : decode cL_refuses 452 = .ok (.iconst 1, 1) := by decide +kernel
theorem dL_refuses_453 : decode cL_refuses 453 = .ok (.iconst 5, 1) := by decide +kernel
theorem dL_refuses_454 : decode cL_refuses 454 = .ok (.iload_n 1, 1) := by decide +kernel
theorem dL_refuses_455 : decode cL_refuses 455 = .ok (.bipush 9, 2) := by decide +kernel
theorem dL_refuses_457 : decode cL_refuses 457 = .ok (.irem, 1) := by decide +kernel
theorem dL_refuses_458 : decode cL_refuses 458 = .ok (.iadd, 1) := by decide +kernel
theorem dL_refuses_459 : decode cL_refuses 459 = .ok (.iconst 0, 1) := by decide +kernel
theorem dL_refuses_460 : decode cL_refuses 460 = .ok (.invokestatic 138, 3) := by decide +kernel
theorem dL_refuses_463 : decode cL_refuses 463 = .ok (.ldc 22, 2) := by decide +kernel
theorem dL_refuses_465 : decode cL_refuses 465 = .ok (.if_icmp .ne 120, 3) := by decide +kernel
theorem dL_refuses_468 : decode cL_refuses 468 = .ok (.aload_n 0, 1) := by decide +kernel
theorem dL_refuses_469 : decode cL_refuses 469 = .ok (.bipush 13, 2) := by decide +kernel
theorem dL_refuses_471 : decode cL_refuses 471 = .ok (.iload_n 1, 1) := by decide +kernel
theorem dL_refuses_472 : decode cL_refuses 472 = .ok (.iconst 2, 1) := by decide +kernel
theorem dL_refuses_473 : decode cL_refuses 473 = .ok (.irem, 1) := by decide +kernel
theorem dL_refuses_474 : decode cL_refuses 474 = .ok (.ifCond .ne 7, 3) := by decide +kernel
theorem dL_refuses_477 : decode cL_refuses 477 = .ok (.iconst 0, 1) := by decide +kernel
theorem dL_refuses_478 : decode cL_refuses 478 = .ok (.goto 10, 3) := by decide +kernel
theorem dL_refuses_481 : decode cL_refuses 481 = .ok (.bipush 61, 2) := by decide +kernel
theorem dL_refuses_483 : decode cL_refuses 483 = .ok (.iload_n 1, 1) := by decide +kernel
theorem dL_refuses_484 : decode cL_refuses 484 = .ok (.bipush 9, 2) := by decide +kernel
theorem dL_refuses_486 : decode cL_refuses 486 = .ok (.irem, 1) := by decide +kernel
theorem dL_refuses_487 : decode cL_refuses 487 = .ok (.iadd, 1) := by decide +kernel
theorem dL_refuses_488 : decode cL_refuses 488 = .ok (.iconst 0, 1) := by decide +kernel
theorem dL_refuses_489 : decode cL_refuses 489 = .ok (.iconst 0, 1) := by decide +kernel
theorem dL_refuses_490 : decode cL_refuses 490 = .ok (.invokestatic 138, 3) := by decide +kernel
theorem dL_refuses_493 : decode cL_refuses 493 = .ok (.ldc 22, 2) := by decide +kernel
theorem dL_refuses_495 : decode cL_refuses 495 = .ok (.if_icmp .ne 90, 3) := by decide +kernel
theorem dL_refuses_498 : decode cL_refuses 498 = .ok (.aload_n 0, 1) := by decide +kernel
theorem dL_refuses_499 : decode cL_refuses 499 = .ok (.bipush 14, 2) := by decide +kernel
theorem dL_refuses_501 : decode cL_refuses 501 = .ok (.iconst 2, 1) := by decide +kernel
theorem dL_refuses_502 : decode cL_refuses 502 = .ok (.iload_n 1, 1) := by decide +kernel
theorem dL_refuses_503 : decode cL_refuses 503 = .ok (.bipush 50, 2) := by decide +kernel
theorem dL_refuses_505 : decode cL_refuses 505 = .ok (.irem, 1) := by decide +kernel
theorem dL_refuses_506 : decode cL_refuses 506 = .ok (.iadd, 1) := by decide +kernel
theorem dL_refuses_507 : decode cL_refuses 507 = .ok (.iconst 0, 1) := by decide +kernel
theorem dL_refuses_508 : decode cL_refuses 508 = .ok (.iconst 0, 1) := by decide +kernel
theorem dL_refuses_509 : decode cL_refuses 509 = .ok (.invokestatic 138, 3) := by decide +kernel
theorem dL_refuses_512 : decode cL_refuses 512 = .ok (.ldc 15, 2) := by decide +kernel
theorem dL_refuses_514 : decode cL_refuses 514 = .ok (.if_icmp .ne 71, 3) := by decide +kernel
theorem dL_refuses_517 : decode cL_refuses 517 = .ok (.aload_n 0, 1) := by decide +kernel
theorem dL_refuses_518 : decode cL_refuses 518 = .ok (.bipush 15, 2) := by decide +kernel
theorem dL_refuses_520 : decode cL_refuses 520 = .ok (.iconst (-1), 1) := by decide +kernel
theorem dL_refuses_521 : decode cL_refuses 521 = .ok (.iload_n 1, 1) := by decide +kernel
theorem dL_refuses_522 : decode cL_refuses 522 = .ok (.bipush 9, 2) := by decide +kernel
theorem dL_refuses_524 : decode cL_refuses 524 = .ok (.irem, 1) := by decide +kernel
theorem dL_refuses_525 : decode cL_refuses 525 = .ok (.isub, 1) := by decide +kernel
theorem dL_refuses_526 : decode cL_refuses 526 = .ok (.iconst 0, 1) := by decide +kernel
theorem dL_refuses_527 : decode cL_refuses 527 = .ok (.iconst 0, 1) := by decide +kernel
theorem dL_refuses_528 : decode cL_refuses 528 = .ok (.invokestatic 138, 3) := by decide +kernel
theorem dL_refuses_531 : decode cL_refuses 531 = .ok (.ldc 15, 2) := by decide +kernel
theorem dL_refuses_533 : decode cL_refuses 533 = .ok (.if_icmp .ne 52, 3) := by decide +kernel
theorem dL_refuses_536 : decode cL_refuses 536 = .ok (.aload_n 0, 1) := by decide +kernel
theorem dL_refuses_537 : decode cL_refuses 537 = .ok (.iconst 0, 1) := by decide +kernel
theorem dL_refuses_538 : decode cL_refuses 538 = .ok (.lconst 0, 1) := by decide +kernel
