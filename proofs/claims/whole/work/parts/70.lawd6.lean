theorem dl_526 : decode code 526 = .ok (.iadd, 1) := by decide +kernel
theorem dl_527 : decode code 527 = .ok (.iaload, 1) := by decide +kernel
theorem dl_528 : decode code 528 = .ok (.invokevirtual 58, 3) := by decide +kernel
theorem dl_531 : decode code 531 = .ok (.aload_n 2, 1) := by decide +kernel
theorem dl_532 : decode code 532 = .ok (.aload_n 0, 1) := by decide +kernel
theorem dl_533 : decode code 533 = .ok (.iload_n 3, 1) := by decide +kernel
theorem dl_534 : decode code 534 = .ok (.iconst 1, 1) := by decide +kernel
theorem dl_535 : decode code 535 = .ok (.iadd, 1) := by decide +kernel
theorem dl_536 : decode code 536 = .ok (.iaload, 1) := by decide +kernel
theorem dl_537 : decode code 537 = .ok (.aload_n 0, 1) := by decide +kernel
theorem dl_538 : decode code 538 = .ok (.iload_n 3, 1) := by decide +kernel
theorem dl_539 : decode code 539 = .ok (.iconst 2, 1) := by decide +kernel
theorem dl_540 : decode code 540 = .ok (.iadd, 1) := by decide +kernel
theorem dl_541 : decode code 541 = .ok (.iaload, 1) := by decide +kernel
theorem dl_542 : decode code 542 = .ok (.aload_n 0, 1) := by decide +kernel
theorem dl_543 : decode code 543 = .ok (.iload_n 3, 1) := by decide +kernel
theorem dl_544 : decode code 544 = .ok (.iconst 3, 1) := by decide +kernel
theorem dl_545 : decode code 545 = .ok (.iadd, 1) := by decide +kernel
theorem dl_546 : decode code 546 = .ok (.iaload, 1) := by decide +kernel
theorem dl_547 : decode code 547 = .ok (.invokevirtual 61, 3) := by decide +kernel
theorem dl_550 : decode code 550 = .ok (.if_icmp .eq 84, 3) := by decide +kernel
theorem dl_553 : decode code 553 = .ok (.iconst 0, 1) := by decide +kernel
theorem dl_554 : decode code 554 = .ok (.ireturn, 1) := by decide +kernel
theorem dl_555 : decode code 555 = .ok (.aload_n 1, 1) := by decide +kernel
theorem dl_556 : decode code 556 = .ok (.aload_n 0, 1) := by decide +kernel
theorem dl_557 : decode code 557 = .ok (.iload_n 3, 1) := by decide +kernel
theorem dl_558 : decode code 558 = .ok (.iconst 1, 1) := by decide +kernel
theorem dl_559 : decode code 559 = .ok (.iadd, 1) := by decide +kernel
theorem dl_560 : decode code 560 = .ok (.iaload, 1) := by decide +kernel
theorem dl_561 : decode code 561 = .ok (.aload_n 0, 1) := by decide +kernel
theorem dl_562 : decode code 562 = .ok (.iload_n 3, 1) := by decide +kernel
theorem dl_563 : decode code 563 = .ok (.iconst 2, 1) := by decide +kernel
theorem dl_564 : decode code 564 = .ok (.iadd, 1) := by decide +kernel
theorem dl_565 : decode code 565 = .ok (.iaload, 1) := by decide +kernel
theorem dl_566 : decode code 566 = .ok (.invokevirtual 62, 3) := by decide +kernel
theorem dl_569 : decode code 569 = .ok (.aload_n 2, 1) := by decide +kernel
theorem dl_570 : decode code 570 = .ok (.aload_n 0, 1) := by decide +kernel
theorem dl_571 : decode code 571 = .ok (.iload_n 3, 1) := by decide +kernel
theorem dl_572 : decode code 572 = .ok (.iconst 1, 1) := by decide +kernel
theorem dl_573 : decode code 573 = .ok (.iadd, 1) := by decide +kernel
theorem dl_574 : decode code 574 = .ok (.iaload, 1) := by decide +kernel
theorem dl_575 : decode code 575 = .ok (.aload_n 0, 1) := by decide +kernel
theorem dl_576 : decode code 576 = .ok (.iload_n 3, 1) := by decide +kernel
theorem dl_577 : decode code 577 = .ok (.iconst 2, 1) := by decide +kernel
theorem dl_578 : decode code 578 = .ok (.iadd, 1) := by decide +kernel
theorem dl_579 : decode code 579 = .ok (.iaload, 1) := by decide +kernel
theorem dl_580 : decode code 580 = .ok (.invokevirtual 65, 3) := by decide +kernel
theorem dl_583 : decode code 583 = .ok (.if_icmp .eq 51, 3) := by decide +kernel
theorem dl_586 : decode code 586 = .ok (.iconst 0, 1) := by decide +kernel
theorem dl_587 : decode code 587 = .ok (.ireturn, 1) := by decide +kernel
theorem dl_588 : decode code 588 = .ok (.aload_n 1, 1) := by decide +kernel
theorem dl_589 : decode code 589 = .ok (.aload_n 0, 1) := by decide +kernel
theorem dl_590 : decode code 590 = .ok (.iload_n 3, 1) := by decide +kernel
theorem dl_591 : decode code 591 = .ok (.iconst 1, 1) := by decide +kernel
theorem dl_592 : decode code 592 = .ok (.iadd, 1) := by decide +kernel
theorem dl_593 : decode code 593 = .ok (.iaload, 1) := by decide +kernel
theorem dl_594 : decode code 594 = .ok (.invokevirtual 66, 3) := by decide +kernel
theorem dl_597 : decode code 597 = .ok (.aload_n 2, 1) := by decide +kernel
theorem dl_598 : decode code 598 = .ok (.aload_n 0, 1) := by decide +kernel
theorem dl_599 : decode code 599 = .ok (.iload_n 3, 1) := by decide +kernel
