theorem dL_holds_391 : decode cL_holds 391 = .ok (.iconst 0, 1) := by decide +kernel
theorem dL_holds_392 : decode cL_holds 392 = .ok (.if_icmp .ne 93, 3) := by decide +kernel
theorem dL_holds_395 : decode cL_holds 395 = .ok (.iload 10, 2) := by decide +kernel
theorem dL_holds_397 : decode cL_holds 397 = .ok (.iconst 3, 1) := by decide +kernel
theorem dL_holds_398 : decode cL_holds 398 = .ok (.if_icmp .eq 9, 3) := by decide +kernel
theorem dL_holds_401 : decode cL_holds 401 = .ok (.iload 10, 2) := by decide +kernel
theorem dL_holds_403 : decode cL_holds 403 = .ok (.iconst 4, 1) := by decide +kernel
theorem dL_holds_404 : decode cL_holds 404 = .ok (.if_icmp .ne 17, 3) := by decide +kernel
theorem dL_holds_407 : decode cL_holds 407 = .ok (.iload 11, 2) := by decide +kernel
theorem dL_holds_409 : decode cL_holds 409 = .ok (.iload 12, 2) := by decide +kernel
theorem dL_holds_411 : decode cL_holds 411 = .ok (.if_icmp .le 74, 3) := by decide +kernel
theorem dL_holds_414 : decode cL_holds 414 = .ok (.iload 11, 2) := by decide +kernel
theorem dL_holds_416 : decode cL_holds 416 = .ok (.iload 13, 2) := by decide +kernel
theorem dL_holds_418 : decode cL_holds 418 = .ok (.if_icmp .ge 67, 3) := by decide +kernel
theorem dL_holds_421 : decode cL_holds 421 = .ok (.iload 10, 2) := by decide +kernel
theorem dL_holds_423 : decode cL_holds 423 = .ok (.iconst 5, 1) := by decide +kernel
theorem dL_holds_424 : decode cL_holds 424 = .ok (.if_icmp .eq 10, 3) := by decide +kernel
theorem dL_holds_427 : decode cL_holds 427 = .ok (.iload 10, 2) := by decide +kernel
theorem dL_holds_429 : decode cL_holds 429 = .ok (.bipush 6, 2) := by decide +kernel
theorem dL_holds_431 : decode cL_holds 431 = .ok (.if_icmp .ne 23, 3) := by decide +kernel
theorem dL_holds_434 : decode cL_holds 434 = .ok (.iload 11, 2) := by decide +kernel
theorem dL_holds_436 : decode cL_holds 436 = .ok (.iload 12, 2) := by decide +kernel
theorem dL_holds_438 : decode cL_holds 438 = .ok (.if_icmp .gt 47, 3) := by decide +kernel
theorem dL_holds_441 : decode cL_holds 441 = .ok (.iload 14, 2) := by decide +kernel
theorem dL_holds_443 : decode cL_holds 443 = .ok (.aload_n 0, 1) := by decide +kernel
theorem dL_holds_444 : decode cL_holds 444 = .ok (.iconst 5, 1) := by decide +kernel
theorem dL_holds_445 : decode cL_holds 445 = .ok (.iconst 4, 1) := by decide +kernel
theorem dL_holds_446 : decode cL_holds 446 = .ok (.iconst 0, 1) := by decide +kernel
theorem dL_holds_447 : decode cL_holds 447 = .ok (.iconst 0, 1) := by decide +kernel
theorem dL_holds_448 : decode cL_holds 448 = .ok (.invokestatic 138, 3) := by decide +kernel
theorem dL_holds_451 : decode cL_holds 451 = .ok (.if_icmp .lt 34, 3) := by decide +kernel
theorem dL_holds_454 : decode cL_holds 454 = .ok (.iload 10, 2) := by decide +kernel
theorem dL_holds_456 : decode cL_holds 456 = .ok (.bipush 7, 2) := by decide +kernel
theorem dL_holds_458 : decode cL_holds 458 = .ok (.if_icmp .ne 23, 3) := by decide +kernel
theorem dL_holds_461 : decode cL_holds 461 = .ok (.iload 11, 2) := by decide +kernel
theorem dL_holds_463 : decode cL_holds 463 = .ok (.iload 12, 2) := by decide +kernel
theorem dL_holds_465 : decode cL_holds 465 = .ok (.if_icmp .gt 20, 3) := by decide +kernel
theorem dL_holds_468 : decode cL_holds 468 = .ok (.iload 14, 2) := by decide +kernel
theorem dL_holds_470 : decode cL_holds 470 = .ok (.aload_n 0, 1) := by decide +kernel
theorem dL_holds_471 : decode cL_holds 471 = .ok (.iconst 5, 1) := by decide +kernel
theorem dL_holds_472 : decode cL_holds 472 = .ok (.iconst 4, 1) := by decide +kernel
theorem dL_holds_473 : decode cL_holds 473 = .ok (.iconst 0, 1) := by decide +kernel
theorem dL_holds_474 : decode cL_holds 474 = .ok (.iconst 0, 1) := by decide +kernel
theorem dL_holds_475 : decode cL_holds 475 = .ok (.invokestatic 138, 3) := by decide +kernel
theorem dL_holds_478 : decode cL_holds 478 = .ok (.if_icmp .ge 7, 3) := by decide +kernel
theorem dL_holds_481 : decode cL_holds 481 = .ok (.iconst 1, 1) := by decide +kernel
theorem dL_holds_482 : decode cL_holds 482 = .ok (.goto 4, 3) := by decide +kernel
theorem dL_holds_485 : decode cL_holds 485 = .ok (.iconst 0, 1) := by decide +kernel
theorem dL_holds_486 : decode cL_holds 486 = .ok (.istore 8, 2) := by decide +kernel
theorem dL_holds_488 : decode cL_holds 488 = .ok (.iinc 9 1, 3) := by decide +kernel
theorem dL_holds_491 : decode cL_holds 491 = .ok (.goto (-390), 3) := by decide +kernel
theorem dL_holds_494 : decode cL_holds 494 = .ok (.aload_n 0, 1) := by decide +kernel
theorem dL_holds_495 : decode cL_holds 495 = .ok (.invokevirtual 156, 3) := by decide +kernel
theorem dL_holds_498 : decode cL_holds 498 = .ok (.istore 9, 2) := by decide +kernel
theorem dL_holds_500 : decode cL_holds 500 = .ok (.aload_n 0, 1) := by decide +kernel
theorem dL_holds_501 : decode cL_holds 501 = .ok (.invokevirtual 159, 3) := by decide +kernel
theorem dL_holds_504 : decode cL_holds 504 = .ok (.istore 10, 2) := by decide +kernel
theorem dL_holds_506 : decode cL_holds 506 = .ok (.iconst 0, 1) := by decide +kernel
theorem dL_holds_507 : decode cL_holds 507 = .ok (.istore 11, 2) := by decide +kernel
theorem dL_holds_509 : decode cL_holds 509 = .ok (.iconst 0, 1) := by decide +kernel
theorem dL_holds_510 : decode cL_holds 510 = .ok (.istore 12, 2) := by decide +kernel
theorem dL_holds_512 : decode cL_holds 512 = .ok (.iload 12, 2) := by decide +kernel
theorem dL_holds_514 : decode cL_holds 514 = .ok (.iload_n 1, 1) := by decide +kernel
theorem dL_holds_515 : decode cL_holds 515 = .ok (.if_icmp .ge 23, 3) := by decide +kernel
theorem dL_holds_518 : decode cL_holds 518 = .ok (.iload 11, 2) := by decide +kernel
theorem dL_holds_520 : decode cL_holds 520 = .ok (.aload_n 0, 1) := by decide +kernel
theorem dL_holds_521 : decode cL_holds 521 = .ok (.iconst 3, 1) := by decide +kernel
theorem dL_holds_522 : decode cL_holds 522 = .ok (.iload 12, 2) := by decide +kernel
theorem dL_holds_524 : decode cL_holds 524 = .ok (.iconst 4, 1) := by decide +kernel
theorem dL_holds_525 : decode cL_holds 525 = .ok (.iconst 0, 1) := by decide +kernel
theorem dL_holds_526 : decode cL_holds 526 = .ok (.invokestatic 138, 3) := by decide +kernel
theorem dL_holds_529 : decode cL_holds 529 = .ok (.iadd, 1) := by decide +kernel
theorem dL_holds_530 : decode cL_holds 530 = .ok (.istore 11, 2) := by decide +kernel
theorem dL_holds_532 : decode cL_holds 532 = .ok (.iinc 12 1, 3) := by decide +kernel
theorem dL_holds_535 : decode cL_holds 535 = .ok (.goto (-23), 3) := by decide +kernel
theorem dL_holds_538 : decode cL_holds 538 = .ok (.iload 8, 2) := by decide +kernel
theorem dL_holds_540 : decode cL_holds 540 = .ok (.ifCond .eq 127, 3) := by decide +kernel
theorem dL_holds_543 : decode cL_holds 543 = .ok (.iload 7, 2) := by decide +kernel
theorem dL_holds_545 : decode cL_holds 545 = .ok (.ifCond .eq 17, 3) := by decide +kernel
theorem dL_holds_548 : decode cL_holds 548 = .ok (.iload 5, 2) := by decide +kernel
theorem dL_holds_550 : decode cL_holds 550 = .ok (.iload 6, 2) := by decide +kernel
theorem dL_holds_552 : decode cL_holds 552 = .ok (.iload 4, 2) := by decide +kernel
theorem dL_holds_554 : decode cL_holds 554 = .ok (.iadd, 1) := by decide +kernel
theorem dL_holds_555 : decode cL_holds 555 = .ok (.iload_n 2, 1) := by decide +kernel
theorem dL_holds_556 : decode cL_holds 556 = .ok (.imul, 1) := by decide +kernel
theorem dL_holds_557 : decode cL_holds 557 = .ok (.iadd, 1) := by decide +kernel
theorem dL_holds_558 : decode cL_holds 558 = .ok (.iload_n 3, 1) := by decide +kernel
theorem dL_holds_559 : decode cL_holds 559 = .ok (.if_icmp .gt 108, 3) := by decide +kernel
theorem dL_holds_562 : decode cL_holds 562 = .ok (.iload 9, 2) := by decide +kernel
theorem dL_holds_564 : decode cL_holds 564 = .ok (.iconst (-1), 1) := by decide +kernel
theorem dL_holds_565 : decode cL_holds 565 = .ok (.if_icmp .ne 17, 3) := by decide +kernel
theorem dL_holds_568 : decode cL_holds 568 = .ok (.iload 5, 2) := by decide +kernel
theorem dL_holds_570 : decode cL_holds 570 = .ok (.iload 4, 2) := by decide +kernel
theorem dL_holds_572 : decode cL_holds 572 = .ok (.iload_n 2, 1) := by decide +kernel
theorem dL_holds_573 : decode cL_holds 573 = .ok (.imul, 1) := by decide +kernel
theorem dL_holds_574 : decode cL_holds 574 = .ok (.iadd, 1) := by decide +kernel
theorem dL_holds_575 : decode cL_holds 575 = .ok (.iload_n 3, 1) := by decide +kernel
theorem dL_holds_576 : decode cL_holds 576 = .ok (.if_icmp .le 91, 3) := by decide +kernel
theorem dL_holds_579 : decode cL_holds 579 = .ok (.goto 41, 3) := by decide +kernel
theorem dL_holds_582 : decode cL_holds 582 = .ok (.iload 5, 2) := by decide +kernel
theorem dL_holds_584 : decode cL_holds 584 = .ok (.iload 9, 2) := by decide +kernel
theorem dL_holds_586 : decode cL_holds 586 = .ok (.iload 4, 2) := by decide +kernel
theorem dL_holds_588 : decode cL_holds 588 = .ok (.iadd, 1) := by decide +kernel
theorem dL_holds_589 : decode cL_holds 589 = .ok (.iload_n 2, 1) := by decide +kernel
theorem dL_holds_590 : decode cL_holds 590 = .ok (.imul, 1) := by decide +kernel
theorem dL_holds_591 : decode cL_holds 591 = .ok (.iadd, 1) := by decide +kernel
theorem dL_holds_592 : decode cL_holds 592 = .ok (.iload_n 3, 1) := by decide +kernel
theorem dL_holds_593 : decode cL_holds 593 = .ok (.if_icmp .gt 74, 3) := by decide +kernel
theorem dL_holds_596 : decode cL_holds 596 = .ok (.iload 9, 2) := by decide +kernel
theorem dL_holds_598 : decode cL_holds 598 = .ok (.sipush 9999, 3) := by decide +kernel
