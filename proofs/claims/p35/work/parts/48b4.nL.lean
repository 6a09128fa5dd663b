theorem dL_law_678 : decode cL_law 678 = .ok (.aload_n 1, 1) := by decide +kernel
theorem dL_law_679 : decode cL_law 679 = .ok (.aload_n 0, 1) := by decide +kernel
theorem dL_law_680 : decode cL_law 680 = .ok (.iload 5, 2) := by decide +kernel
theorem dL_law_682 : decode cL_law 682 = .ok (.iconst 1, 1) := by decide +kernel
theorem dL_law_683 : decode cL_law 683 = .ok (.iadd, 1) := by decide +kernel
theorem dL_law_684 : decode cL_law 684 = .ok (.iaload, 1) := by decide +kernel
theorem dL_law_685 : decode cL_law 685 = .ok (.aload_n 3, 1) := by decide +kernel
theorem dL_law_686 : decode cL_law 686 = .ok (.invokestatic 143, 3) := by decide +kernel
theorem dL_law_689 : decode cL_law 689 = .ok (.istore 6, 2) := by decide +kernel
theorem dL_law_691 : decode cL_law 691 = .ok (.aload_n 2, 1) := by decide +kernel
theorem dL_law_692 : decode cL_law 692 = .ok (.aload_n 0, 1) := by decide +kernel
theorem dL_law_693 : decode cL_law 693 = .ok (.iload 5, 2) := by decide +kernel
theorem dL_law_695 : decode cL_law 695 = .ok (.iconst 1, 1) := by decide +kernel
theorem dL_law_696 : decode cL_law 696 = .ok (.iadd, 1) := by decide +kernel
theorem dL_law_697 : decode cL_law 697 = .ok (.iaload, 1) := by decide +kernel
theorem dL_law_698 : decode cL_law 698 = .ok (.invokevirtual 145, 3) := by decide +kernel
theorem dL_law_701 : decode cL_law 701 = .ok (.istore 7, 2) := by decide +kernel
theorem dL_law_703 : decode cL_law 703 = .ok (.goto 449, 3) := by decide +kernel
theorem dL_law_706 : decode cL_law 706 = .ok (.aload_n 1, 1) := by decide +kernel
theorem dL_law_707 : decode cL_law 707 = .ok (.invokevirtual 146, 3) := by decide +kernel
theorem dL_law_710 : decode cL_law 710 = .ok (.pop, 1) := by decide +kernel
theorem dL_law_711 : decode cL_law 711 = .ok (.aload_n 2, 1) := by decide +kernel
theorem dL_law_712 : decode cL_law 712 = .ok (.invokevirtual 149, 3) := by decide +kernel
theorem dL_law_715 : decode cL_law 715 = .ok (.pop, 1) := by decide +kernel
theorem dL_law_716 : decode cL_law 716 = .ok (.goto 436, 3) := by decide +kernel
theorem dL_law_1152 : decode cL_law 1152 = .ok (.iinc 5 5, 3) := by decide +kernel
theorem dL_law_1155 : decode cL_law 1155 = .ok (.goto (-1127), 3) := by decide +kernel
theorem dL_law_1158 : decode cL_law 1158 = .ok (.iconst 1, 1) := by decide +kernel
theorem dL_law_1159 : decode cL_law 1159 = .ok (.ireturn, 1) := by decide +kernel
