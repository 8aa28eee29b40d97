theorem dl_600 : decode code 600 = .ok (.iconst 1, 1) := by decide +kernel
theorem dl_601 : decode code 601 = .ok (.iadd, 1) := by decide +kernel
theorem dl_602 : decode code 602 = .ok (.iaload, 1) := by decide +kernel
theorem dl_603 : decode code 603 = .ok (.invokevirtual 69, 3) := by decide +kernel
theorem dl_606 : decode code 606 = .ok (.if_icmp .eq 28, 3) := by decide +kernel
theorem dl_609 : decode code 609 = .ok (.iconst 0, 1) := by decide +kernel
theorem dl_610 : decode code 610 = .ok (.ireturn, 1) := by decide +kernel
theorem dl_611 : decode code 611 = .ok (.aload_n 1, 1) := by decide +kernel
theorem dl_612 : decode code 612 = .ok (.aload_n 0, 1) := by decide +kernel
theorem dl_613 : decode code 613 = .ok (.iload_n 3, 1) := by decide +kernel
theorem dl_614 : decode code 614 = .ok (.iconst 1, 1) := by decide +kernel
theorem dl_615 : decode code 615 = .ok (.iadd, 1) := by decide +kernel
theorem dl_616 : decode code 616 = .ok (.iaload, 1) := by decide +kernel
theorem dl_617 : decode code 617 = .ok (.invokevirtual 70, 3) := by decide +kernel
theorem dl_620 : decode code 620 = .ok (.aload_n 2, 1) := by decide +kernel
theorem dl_621 : decode code 621 = .ok (.aload_n 0, 1) := by decide +kernel
theorem dl_622 : decode code 622 = .ok (.iload_n 3, 1) := by decide +kernel
theorem dl_623 : decode code 623 = .ok (.iconst 1, 1) := by decide +kernel
theorem dl_624 : decode code 624 = .ok (.iadd, 1) := by decide +kernel
theorem dl_625 : decode code 625 = .ok (.iaload, 1) := by decide +kernel
theorem dl_626 : decode code 626 = .ok (.invokevirtual 73, 3) := by decide +kernel
theorem dl_629 : decode code 629 = .ok (.if_icmp .eq 5, 3) := by decide +kernel
theorem dl_632 : decode code 632 = .ok (.iconst 0, 1) := by decide +kernel
theorem dl_633 : decode code 633 = .ok (.ireturn, 1) := by decide +kernel
theorem dl_634 : decode code 634 = .ok (.iinc 3 4, 3) := by decide +kernel
theorem dl_637 : decode code 637 = .ok (.goto (-619), 3) := by decide +kernel
theorem dl_640 : decode code 640 = .ok (.iconst 1, 1) := by decide +kernel
theorem dl_641 : decode code 641 = .ok (.ireturn, 1) := by decide +kernel
