theorem d_L_law_439 : decode code 439 = .ok (.istore 6, 2) := by decide +kernel
theorem d_L_law_441 : decode code 441 = .ok (.aload_n 2, 1) := by decide +kernel
theorem d_L_law_442 : decode code 442 = .ok (.invokevirtual 73, 3) := by decide +kernel
theorem d_L_law_445 : decode code 445 = .ok (.iload 5, 2) := by decide +kernel
theorem d_L_law_447 : decode code 447 = .ok (.if_icmp .eq 5, 3) := by decide +kernel
theorem d_L_law_450 : decode code 450 = .ok (.iconst 0, 1) := by decide +kernel
theorem d_L_law_451 : decode code 451 = .ok (.ireturn, 1) := by decide +kernel
theorem d_L_law_452 : decode code 452 = .ok (.iload 5, 2) := by decide +kernel
theorem d_L_law_454 : decode code 454 = .ok (.ifCond .ne 22, 3) := by decide +kernel
theorem d_L_law_457 : decode code 457 = .ok (.aload_n 3, 1) := by decide +kernel
theorem d_L_law_458 : decode code 458 = .ok (.iconst 0, 1) := by decide +kernel
theorem d_L_law_459 : decode code 459 = .ok (.laload, 1) := by decide +kernel
theorem d_L_law_460 : decode code 460 = .ok (.iload 6, 2) := by decide +kernel
theorem d_L_law_462 : decode code 462 = .ok (.ifCond .eq 7, 3) := by decide +kernel
theorem d_L_law_465 : decode code 465 = .ok (.lconst 1, 1) := by decide +kernel
theorem d_L_law_466 : decode code 466 = .ok (.goto 4, 3) := by decide +kernel
theorem d_L_law_469 : decode code 469 = .ok (.lconst 0, 1) := by decide +kernel
theorem d_L_law_470 : decode code 470 = .ok (.lcmp, 1) := by decide +kernel
theorem d_L_law_471 : decode code 471 = .ok (.ifCond .eq 5, 3) := by decide +kernel
theorem d_L_law_474 : decode code 474 = .ok (.iconst 0, 1) := by decide +kernel
theorem d_L_law_475 : decode code 475 = .ok (.ireturn, 1) := by decide +kernel
theorem d_L_law_476 : decode code 476 = .ok (.goto 407, 3) := by decide +kernel
theorem d_L_law_479 : decode code 479 = .ok (.aload_n 1, 1) := by decide +kernel
theorem d_L_law_480 : decode code 480 = .ok (.aload_n 3, 1) := by decide +kernel
theorem d_L_law_481 : decode code 481 = .ok (.invokestatic 99, 3) := by decide +kernel
theorem d_L_law_484 : decode code 484 = .ok (.istore 5, 2) := by decide +kernel
theorem d_L_law_486 : decode code 486 = .ok (.aload_n 2, 1) := by decide +kernel
theorem d_L_law_487 : decode code 487 = .ok (.invokevirtual 101, 3) := by decide +kernel
theorem d_L_law_490 : decode code 490 = .ok (.istore 6, 2) := by decide +kernel
theorem d_L_law_492 : decode code 492 = .ok (.aload_n 2, 1) := by decide +kernel
theorem d_L_law_493 : decode code 493 = .ok (.invokevirtual 73, 3) := by decide +kernel
theorem d_L_law_496 : decode code 496 = .ok (.iload 5, 2) := by decide +kernel
theorem d_L_law_498 : decode code 498 = .ok (.if_icmp .eq 5, 3) := by decide +kernel
theorem d_L_law_501 : decode code 501 = .ok (.iconst 0, 1) := by decide +kernel
theorem d_L_law_502 : decode code 502 = .ok (.ireturn, 1) := by decide +kernel
theorem d_L_law_503 : decode code 503 = .ok (.iload 5, 2) := by decide +kernel
theorem d_L_law_505 : decode code 505 = .ok (.ifCond .ne 15, 3) := by decide +kernel
theorem d_L_law_508 : decode code 508 = .ok (.aload_n 3, 1) := by decide +kernel
theorem d_L_law_509 : decode code 509 = .ok (.iconst 0, 1) := by decide +kernel
theorem d_L_law_510 : decode code 510 = .ok (.laload, 1) := by decide +kernel
theorem d_L_law_511 : decode code 511 = .ok (.iload 6, 2) := by decide +kernel
theorem d_L_law_513 : decode code 513 = .ok (.i2l, 1) := by decide +kernel
theorem d_L_law_514 : decode code 514 = .ok (.lcmp, 1) := by decide +kernel
theorem d_L_law_515 : decode code 515 = .ok (.ifCond .eq 5, 3) := by decide +kernel
theorem d_L_law_518 : decode code 518 = .ok (.iconst 0, 1) := by decide +kernel
theorem d_L_law_519 : decode code 519 = .ok (.ireturn, 1) := by decide +kernel
theorem d_L_law_520 : decode code 520 = .ok (.goto 363, 3) := by decide +kernel
theorem d_L_law_523 : decode code 523 = .ok (.aload_n 1, 1) := by decide +kernel
theorem d_L_law_524 : decode code 524 = .ok (.aload_n 0, 1) := by decide +kernel
theorem d_L_law_525 : decode code 525 = .ok (.iload 4, 2) := by decide +kernel
theorem d_L_law_527 : decode code 527 = .ok (.iconst 1, 1) := by decide +kernel
theorem d_L_law_528 : decode code 528 = .ok (.iadd, 1) := by decide +kernel
theorem d_L_law_529 : decode code 529 = .ok (.iaload, 1) := by decide +kernel
theorem d_L_law_530 : decode code 530 = .ok (.aload_n 0, 1) := by decide +kernel
theorem d_L_law_531 : decode code 531 = .ok (.iload 4, 2) := by decide +kernel
theorem d_L_law_533 : decode code 533 = .ok (.iconst 2, 1) := by decide +kernel
theorem d_L_law_534 : decode code 534 = .ok (.iadd, 1) := by decide +kernel
theorem d_L_law_535 : decode code 535 = .ok (.iaload, 1) := by decide +kernel
theorem d_L_law_536 : decode code 536 = .ok (.aload_n 3, 1) := by decide +kernel
theorem d_L_law_537 : decode code 537 = .ok (.invokestatic 102, 3) := by decide +kernel
