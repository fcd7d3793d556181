theorem dk_L_law_530 : decode code 530 = .ok (.iconst 0, 1) := by decide +kernel
theorem dk_L_law_531 : decode code 531 = .ok (.ireturn, 1) := by decide +kernel
theorem dk_L_law_532 : decode code 532 = .ok (.aload_n 1, 1) := by decide +kernel
theorem dk_L_law_533 : decode code 533 = .ok (.aload_n 0, 1) := by decide +kernel
theorem dk_L_law_534 : decode code 534 = .ok (.iload_n 3, 1) := by decide +kernel
theorem dk_L_law_535 : decode code 535 = .ok (.iconst 1, 1) := by decide +kernel
theorem dk_L_law_536 : decode code 536 = .ok (.iadd, 1) := by decide +kernel
theorem dk_L_law_537 : decode code 537 = .ok (.iaload, 1) := by decide +kernel
theorem dk_L_law_538 : decode code 538 = .ok (.invokevirtual 68, 3) := by decide +kernel
theorem dk_L_law_541 : decode code 541 = .ok (.aload_n 2, 1) := by decide +kernel
theorem dk_L_law_542 : decode code 542 = .ok (.aload_n 0, 1) := by decide +kernel
theorem dk_L_law_543 : decode code 543 = .ok (.iload_n 3, 1) := by decide +kernel
theorem dk_L_law_544 : decode code 544 = .ok (.iconst 1, 1) := by decide +kernel
theorem dk_L_law_545 : decode code 545 = .ok (.iadd, 1) := by decide +kernel
theorem dk_L_law_546 : decode code 546 = .ok (.iaload, 1) := by decide +kernel
theorem dk_L_law_547 : decode code 547 = .ok (.invokevirtual 71, 3) := by decide +kernel
theorem dk_L_law_550 : decode code 550 = .ok (.if_icmp .eq 368, 3) := by decide +kernel
theorem dk_L_law_553 : decode code 553 = .ok (.iconst 0, 1) := by decide +kernel
theorem dk_L_law_554 : decode code 554 = .ok (.ireturn, 1) := by decide +kernel
theorem dk_L_law_555 : decode code 555 = .ok (.aload_n 1, 1) := by decide +kernel
theorem dk_L_law_556 : decode code 556 = .ok (.aload_n 0, 1) := by decide +kernel
theorem dk_L_law_557 : decode code 557 = .ok (.iload_n 3, 1) := by decide +kernel
theorem dk_L_law_558 : decode code 558 = .ok (.iconst 1, 1) := by decide +kernel
theorem dk_L_law_559 : decode code 559 = .ok (.iadd, 1) := by decide +kernel
theorem dk_L_law_560 : decode code 560 = .ok (.iaload, 1) := by decide +kernel
theorem dk_L_law_561 : decode code 561 = .ok (.aload_n 0, 1) := by decide +kernel
theorem dk_L_law_562 : decode code 562 = .ok (.iload_n 3, 1) := by decide +kernel
theorem dk_L_law_563 : decode code 563 = .ok (.iconst 2, 1) := by decide +kernel
theorem dk_L_law_564 : decode code 564 = .ok (.iadd, 1) := by decide +kernel
theorem dk_L_law_565 : decode code 565 = .ok (.iaload, 1) := by decide +kernel
theorem dk_L_law_566 : decode code 566 = .ok (.aload_n 0, 1) := by decide +kernel
theorem dk_L_law_567 : decode code 567 = .ok (.iload_n 3, 1) := by decide +kernel
theorem dk_L_law_568 : decode code 568 = .ok (.iconst 3, 1) := by decide +kernel
theorem dk_L_law_569 : decode code 569 = .ok (.iadd, 1) := by decide +kernel
theorem dk_L_law_570 : decode code 570 = .ok (.iaload, 1) := by decide +kernel
theorem dk_L_law_571 : decode code 571 = .ok (.invokevirtual 72, 3) := by decide +kernel
theorem dk_L_law_574 : decode code 574 = .ok (.aload_n 2, 1) := by decide +kernel
theorem dk_L_law_575 : decode code 575 = .ok (.aload_n 0, 1) := by decide +kernel
theorem dk_L_law_576 : decode code 576 = .ok (.iload_n 3, 1) := by decide +kernel
theorem dk_L_law_577 : decode code 577 = .ok (.iconst 1, 1) := by decide +kernel
theorem dk_L_law_578 : decode code 578 = .ok (.iadd, 1) := by decide +kernel
theorem dk_L_law_579 : decode code 579 = .ok (.iaload, 1) := by decide +kernel
theorem dk_L_law_580 : decode code 580 = .ok (.aload_n 0, 1) := by decide +kernel
theorem dk_L_law_581 : decode code 581 = .ok (.iload_n 3, 1) := by decide +kernel
theorem dk_L_law_582 : decode code 582 = .ok (.iconst 2, 1) := by decide +kernel
theorem dk_L_law_583 : decode code 583 = .ok (.iadd, 1) := by decide +kernel
theorem dk_L_law_584 : decode code 584 = .ok (.iaload, 1) := by decide +kernel
theorem dk_L_law_585 : decode code 585 = .ok (.aload_n 0, 1) := by decide +kernel
theorem dk_L_law_586 : decode code 586 = .ok (.iload_n 3, 1) := by decide +kernel
theorem dk_L_law_587 : decode code 587 = .ok (.iconst 3, 1) := by decide +kernel
theorem dk_L_law_588 : decode code 588 = .ok (.iadd, 1) := by decide +kernel
theorem dk_L_law_589 : decode code 589 = .ok (.iaload, 1) := by decide +kernel
theorem dk_L_law_590 : decode code 590 = .ok (.invokevirtual 76, 3) := by decide +kernel
theorem dk_L_law_593 : decode code 593 = .ok (.if_icmp .eq 325, 3) := by decide +kernel
theorem dk_L_law_596 : decode code 596 = .ok (.iconst 0, 1) := by decide +kernel
theorem dk_L_law_597 : decode code 597 = .ok (.ireturn, 1) := by decide +kernel
theorem dk_L_law_598 : decode code 598 = .ok (.aload_n 1, 1) := by decide +kernel
theorem dk_L_law_599 : decode code 599 = .ok (.aload_n 0, 1) := by decide +kernel
theorem dk_L_law_600 : decode code 600 = .ok (.iload_n 3, 1) := by decide +kernel
theorem dk_L_law_601 : decode code 601 = .ok (.iconst 1, 1) := by decide +kernel
theorem dk_L_law_602 : decode code 602 = .ok (.iadd, 1) := by decide +kernel
theorem dk_L_law_603 : decode code 603 = .ok (.iaload, 1) := by decide +kernel
theorem dk_L_law_604 : decode code 604 = .ok (.aload_n 0, 1) := by decide +kernel
theorem dk_L_law_605 : decode code 605 = .ok (.iload_n 3, 1) := by decide +kernel
theorem dk_L_law_606 : decode code 606 = .ok (.iconst 2, 1) := by decide +kernel
theorem dk_L_law_607 : decode code 607 = .ok (.iadd, 1) := by decide +kernel
theorem dk_L_law_608 : decode code 608 = .ok (.iaload, 1) := by decide +kernel
theorem dk_L_law_609 : decode code 609 = .ok (.invokevirtual 77, 3) := by decide +kernel
theorem dk_L_law_612 : decode code 612 = .ok (.aload_n 2, 1) := by decide +kernel
theorem dk_L_law_613 : decode code 613 = .ok (.aload_n 0, 1) := by decide +kernel
theorem dk_L_law_614 : decode code 614 = .ok (.iload_n 3, 1) := by decide +kernel
theorem dk_L_law_615 : decode code 615 = .ok (.iconst 1, 1) := by decide +kernel
theorem dk_L_law_616 : decode code 616 = .ok (.iadd, 1) := by decide +kernel
theorem dk_L_law_617 : decode code 617 = .ok (.iaload, 1) := by decide +kernel
theorem dk_L_law_618 : decode code 618 = .ok (.aload_n 0, 1) := by decide +kernel
theorem dk_L_law_619 : decode code 619 = .ok (.iload_n 3, 1) := by decide +kernel
theorem dk_L_law_620 : decode code 620 = .ok (.iconst 2, 1) := by decide +kernel
theorem dk_L_law_621 : decode code 621 = .ok (.iadd, 1) := by decide +kernel
theorem dk_L_law_622 : decode code 622 = .ok (.iaload, 1) := by decide +kernel
theorem dk_L_law_623 : decode code 623 = .ok (.invokevirtual 80, 3) := by decide +kernel
