theorem d_law_638 : decode code 638 = .ok (.iaload, 1) := by decide +kernel
theorem d_law_639 : decode code 639 = .ok (.invokevirtual 93, 3) := by decide +kernel
theorem d_law_642 : decode code 642 = .ok (.aload_n 2, 1) := by decide +kernel
theorem d_law_643 : decode code 643 = .ok (.aload_n 0, 1) := by decide +kernel
theorem d_law_644 : decode code 644 = .ok (.iload_n 3, 1) := by decide +kernel
theorem d_law_645 : decode code 645 = .ok (.iconst 1, 1) := by decide +kernel
theorem d_law_646 : decode code 646 = .ok (.iadd, 1) := by decide +kernel
theorem d_law_647 : decode code 647 = .ok (.iaload, 1) := by decide +kernel
theorem d_law_648 : decode code 648 = .ok (.invokevirtual 97, 3) := by decide +kernel
theorem d_law_651 : decode code 651 = .ok (.lcmp, 1) := by decide +kernel
theorem d_law_652 : decode code 652 = .ok (.ifCond .eq (5), 3) := by decide +kernel
theorem d_law_655 : decode code 655 = .ok (.iconst 0, 1) := by decide +kernel
theorem d_law_656 : decode code 656 = .ok (.ireturn, 1) := by decide +kernel
theorem d_law_657 : decode code 657 = .ok (.iinc 3 (5), 3) := by decide +kernel
theorem d_law_660 : decode code 660 = .ok (.goto (-642), 3) := by decide +kernel
theorem d_law_663 : decode code 663 = .ok (.iconst 1, 1) := by decide +kernel
theorem d_law_664 : decode code 664 = .ok (.ireturn, 1) := by decide +kernel
