theorem d_L_law_540 : decode code 540 = .ok (.istore 5, 2) := by decide +kernel
theorem d_L_law_542 : decode code 542 = .ok (.aload_n 2, 1) := by decide +kernel
theorem d_L_law_543 : decode code 543 = .ok (.aload_n 0, 1) := by decide +kernel
theorem d_L_law_544 : decode code 544 = .ok (.iload 4, 2) := by decide +kernel
theorem d_L_law_546 : decode code 546 = .ok (.iconst 1, 1) := by decide +kernel
theorem d_L_law_547 : decode code 547 = .ok (.iadd, 1) := by decide +kernel
theorem d_L_law_548 : decode code 548 = .ok (.iaload, 1) := by decide +kernel
theorem d_L_law_549 : decode code 549 = .ok (.aload_n 0, 1) := by decide +kernel
theorem d_L_law_550 : decode code 550 = .ok (.iload 4, 2) := by decide +kernel
theorem d_L_law_552 : decode code 552 = .ok (.iconst 2, 1) := by decide +kernel
theorem d_L_law_553 : decode code 553 = .ok (.iadd, 1) := by decide +kernel
theorem d_L_law_554 : decode code 554 = .ok (.iaload, 1) := by decide +kernel
theorem d_L_law_555 : decode code 555 = .ok (.invokevirtual 104, 3) := by decide +kernel
theorem d_L_law_558 : decode code 558 = .ok (.istore 6, 2) := by decide +kernel
theorem d_L_law_560 : decode code 560 = .ok (.aload_n 2, 1) := by decide +kernel
theorem d_L_law_561 : decode code 561 = .ok (.invokevirtual 73, 3) := by decide +kernel
theorem d_L_law_564 : decode code 564 = .ok (.iload 5, 2) := by decide +kernel
theorem d_L_law_566 : decode code 566 = .ok (.if_icmp .eq 5, 3) := by decide +kernel
theorem d_L_law_569 : decode code 569 = .ok (.iconst 0, 1) := by decide +kernel
theorem d_L_law_570 : decode code 570 = .ok (.ireturn, 1) := by decide +kernel
theorem d_L_law_571 : decode code 571 = .ok (.iload 5, 2) := by decide +kernel
theorem d_L_law_573 : decode code 573 = .ok (.ifCond .ne 15, 3) := by decide +kernel
theorem d_L_law_576 : decode code 576 = .ok (.aload_n 3, 1) := by decide +kernel
theorem d_L_law_577 : decode code 577 = .ok (.iconst 0, 1) := by decide +kernel
theorem d_L_law_578 : decode code 578 = .ok (.laload, 1) := by decide +kernel
theorem d_L_law_579 : decode code 579 = .ok (.iload 6, 2) := by decide +kernel
theorem d_L_law_581 : decode code 581 = .ok (.i2l, 1) := by decide +kernel
theorem d_L_law_582 : decode code 582 = .ok (.lcmp, 1) := by decide +kernel
theorem d_L_law_583 : decode code 583 = .ok (.ifCond .eq 5, 3) := by decide +kernel
theorem d_L_law_586 : decode code 586 = .ok (.iconst 0, 1) := by decide +kernel
theorem d_L_law_587 : decode code 587 = .ok (.ireturn, 1) := by decide +kernel
theorem d_L_law_588 : decode code 588 = .ok (.goto 295, 3) := by decide +kernel
theorem d_L_law_591 : decode code 591 = .ok (.aload_n 1, 1) := by decide +kernel
theorem d_L_law_592 : decode code 592 = .ok (.aload_n 0, 1) := by decide +kernel
theorem d_L_law_593 : decode code 593 = .ok (.iload 4, 2) := by decide +kernel
theorem d_L_law_595 : decode code 595 = .ok (.iconst 1, 1) := by decide +kernel
theorem d_L_law_596 : decode code 596 = .ok (.iadd, 1) := by decide +kernel
theorem d_L_law_597 : decode code 597 = .ok (.iaload, 1) := by decide +kernel
theorem d_L_law_598 : decode code 598 = .ok (.aload_n 3, 1) := by decide +kernel
theorem d_L_law_599 : decode code 599 = .ok (.invokestatic 105, 3) := by decide +kernel
theorem d_L_law_602 : decode code 602 = .ok (.istore 5, 2) := by decide +kernel
theorem d_L_law_604 : decode code 604 = .ok (.aload_n 2, 1) := by decide +kernel
theorem d_L_law_605 : decode code 605 = .ok (.aload_n 0, 1) := by decide +kernel
theorem d_L_law_606 : decode code 606 = .ok (.iload 4, 2) := by decide +kernel
theorem d_L_law_608 : decode code 608 = .ok (.iconst 1, 1) := by decide +kernel
theorem d_L_law_609 : decode code 609 = .ok (.iadd, 1) := by decide +kernel
theorem d_L_law_610 : decode code 610 = .ok (.iaload, 1) := by decide +kernel
theorem d_L_law_611 : decode code 611 = .ok (.invokevirtual 107, 3) := by decide +kernel
theorem d_L_law_614 : decode code 614 = .ok (.istore 6, 2) := by decide +kernel
theorem d_L_law_616 : decode code 616 = .ok (.aload_n 2, 1) := by decide +kernel
theorem d_L_law_617 : decode code 617 = .ok (.invokevirtual 73, 3) := by decide +kernel
theorem d_L_law_620 : decode code 620 = .ok (.iload 5, 2) := by decide +kernel
theorem d_L_law_622 : decode code 622 = .ok (.if_icmp .eq 5, 3) := by decide +kernel
theorem d_L_law_625 : decode code 625 = .ok (.iconst 0, 1) := by decide +kernel
theorem d_L_law_626 : decode code 626 = .ok (.ireturn, 1) := by decide +kernel
theorem d_L_law_627 : decode code 627 = .ok (.iload 5, 2) := by decide +kernel
theorem d_L_law_629 : decode code 629 = .ok (.ifCond .ne 15, 3) := by decide +kernel
theorem d_L_law_632 : decode code 632 = .ok (.aload_n 3, 1) := by decide +kernel
theorem d_L_law_633 : decode code 633 = .ok (.iconst 0, 1) := by decide +kernel
theorem d_L_law_634 : decode code 634 = .ok (.laload, 1) := by decide +kernel
