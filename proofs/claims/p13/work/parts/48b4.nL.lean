theorem dL_law_706 : decode cL_law 706 = .ok (.aload_n 1, 1) := by decide +kernel
theorem dL_law_707 : decode cL_law 707 = .ok (.aload_n 0, 1) := by decide +kernel
theorem dL_law_708 : decode cL_law 708 = .ok (.iload 5, 2) := by decide +kernel
theorem dL_law_710 : decode cL_law 710 = .ok (.iconst 1, 1) := by decide +kernel
theorem dL_law_711 : decode cL_law 711 = .ok (.iadd, 1) := by decide +kernel
theorem dL_law_712 : decode cL_law 712 = .ok (.iaload, 1) := by decide +kernel
theorem dL_law_713 : decode cL_law 713 = .ok (.aload_n 3, 1) := by decide +kernel
theorem dL_law_714 : decode cL_law 714 = .ok (.invokestatic 146, 3) := by decide +kernel
theorem dL_law_717 : decode cL_law 717 = .ok (.istore 6, 2) := by decide +kernel
theorem dL_law_719 : decode cL_law 719 = .ok (.aload_n 2, 1) := by decide +kernel
theorem dL_law_720 : decode cL_law 720 = .ok (.aload_n 0, 1) := by decide +kernel
theorem dL_law_721 : decode cL_law 721 = .ok (.iload 5, 2) := by decide +kernel
theorem dL_law_723 : decode cL_law 723 = .ok (.iconst 1, 1) := by decide +kernel
theorem dL_law_724 : decode cL_law 724 = .ok (.iadd, 1) := by decide +kernel
theorem dL_law_725 : decode cL_law 725 = .ok (.iaload, 1) := by decide +kernel
theorem dL_law_726 : decode cL_law 726 = .ok (.invokevirtual 148, 3) := by decide +kernel
theorem dL_law_729 : decode cL_law 729 = .ok (.istore 7, 2) := by decide +kernel
theorem dL_law_731 : decode cL_law 731 = .ok (.goto 448, 3) := by decide +kernel
theorem dL_law_734 : decode cL_law 734 = .ok (.aload_n 1, 1) := by decide +kernel
theorem dL_law_735 : decode cL_law 735 = .ok (.invokevirtual 149, 3) := by decide +kernel
theorem dL_law_738 : decode cL_law 738 = .ok (.pop, 1) := by decide +kernel
theorem dL_law_739 : decode cL_law 739 = .ok (.aload_n 2, 1) := by decide +kernel
theorem dL_law_740 : decode cL_law 740 = .ok (.invokevirtual 152, 3) := by decide +kernel
theorem dL_law_743 : decode cL_law 743 = .ok (.pop, 1) := by decide +kernel
theorem dL_law_744 : decode cL_law 744 = .ok (.goto 435, 3) := by decide +kernel
theorem dL_law_1179 : decode cL_law 1179 = .ok (.iinc 5 5, 3) := by decide +kernel
theorem dL_law_1182 : decode cL_law 1182 = .ok (.goto (-1154), 3) := by decide +kernel
theorem dL_law_1185 : decode cL_law 1185 = .ok (.iconst 1, 1) := by decide +kernel
theorem dL_law_1186 : decode cL_law 1186 = .ok (.ireturn, 1) := by decide +kernel
