theorem dL_law_678 : decode cL_law 678 = .ok (.aload_n 1, 1) := by decide +kernel
theorem dL_law_679 : decode cL_law 679 = .ok (.aload_n 0, 1) := by decide +kernel
theorem dL_law_680 : decode cL_law 680 = .ok (.iload 5, 2) := by decide +kernel
theorem dL_law_682 : decode cL_law 682 = .ok (.iconst 1, 1) := by decide +kernel
theorem dL_law_683 : decode cL_law 683 = .ok (.iadd, 1) := by decide +kernel
theorem dL_law_684 : decode cL_law 684 = .ok (.iaload, 1) := by decide +kernel
theorem dL_law_685 : decode cL_law 685 = .ok (.aload_n 3, 1) := by decide +kernel
theorem dL_law_686 : decode cL_law 686 = .ok (.invokestatic 143, 3) := by decide +kernel
theorem dL_law_689 : decode cL_law 689 = .ok (.istore 6, 2) := by decide +kernel
theorem dL_law_691 : decode cL_law 691 = .ok (.aload_n 2, 1) := by decide +kernel
theorem dL_law_692 : decode cL_law 692 = .ok (.aload_n 0, 1) := by decide +kernel
theorem dL_law_693 : decode cL_law 693 = .ok (.iload 5, 2) := by decide +kernel
theorem dL_law_695 : decode cL_law 695 = .ok (.iconst 1, 1) := by decide +kernel
theorem dL_law_696 : decode cL_law 696 = .ok (.iadd, 1) := by decide +kernel
theorem dL_law_697 : decode cL_law 697 = .ok (.iaload, 1) := by decide +kernel
theorem dL_law_698 : decode cL_law 698 = .ok (.invokevirtual 145, 3) := by decide +kernel
theorem dL_law_701 : decode cL_law 701 = .ok (.istore 7, 2) := by decide +kernel
theorem dL_law_703 : decode cL_law 703 = .ok (.aload_n 2, 1) := by decide +kernel
theorem dL_law_704 : decode cL_law 704 = .ok (.invokevirtual 146, 3) := by decide +kernel
theorem dL_law_707 : decode cL_law 707 = .ok (.iload 6, 2) := by decide +kernel
theorem dL_law_709 : decode cL_law 709 = .ok (.if_icmp .eq 5, 3) := by decide +kernel
theorem dL_law_712 : decode cL_law 712 = .ok (.iconst 0, 1) := by decide +kernel
theorem dL_law_713 : decode cL_law 713 = .ok (.ireturn, 1) := by decide +kernel
theorem dL_law_714 : decode cL_law 714 = .ok (.iload 6, 2) := by decide +kernel
theorem dL_law_716 : decode cL_law 716 = .ok (.ifCond .ne 15, 3) := by decide +kernel
theorem dL_law_719 : decode cL_law 719 = .ok (.aload_n 3, 1) := by decide +kernel
theorem dL_law_720 : decode cL_law 720 = .ok (.iconst 0, 1) := by decide +kernel
theorem dL_law_721 : decode cL_law 721 = .ok (.laload, 1) := by decide +kernel
theorem dL_law_722 : decode cL_law 722 = .ok (.iload 7, 2) := by decide +kernel
theorem dL_law_724 : decode cL_law 724 = .ok (.i2l, 1) := by decide +kernel
theorem dL_law_725 : decode cL_law 725 = .ok (.lcmp, 1) := by decide +kernel
theorem dL_law_726 : decode cL_law 726 = .ok (.ifCond .eq 5, 3) := by decide +kernel
theorem dL_law_729 : decode cL_law 729 = .ok (.iconst 0, 1) := by decide +kernel
theorem dL_law_730 : decode cL_law 730 = .ok (.ireturn, 1) := by decide +kernel
theorem dL_law_731 : decode cL_law 731 = .ok (.goto 448, 3) := by decide +kernel
theorem dL_law_734 : decode cL_law 734 = .ok (.aload_n 1, 1) := by decide +kernel
theorem dL_law_735 : decode cL_law 735 = .ok (.invokevirtual 149, 3) := by decide +kernel
theorem dL_law_738 : decode cL_law 738 = .ok (.pop, 1) := by decide +kernel
theorem dL_law_739 : decode cL_law 739 = .ok (.aload_n 2, 1) := by decide +kernel
theorem dL_law_740 : decode cL_law 740 = .ok (.invokevirtual 152, 3) := by decide +kernel
theorem dL_law_743 : decode cL_law 743 = .ok (.pop, 1) := by decide +kernel
theorem dL_law_744 : decode cL_law 744 = .ok (.goto 435, 3) := by decide +kernel
theorem dL_law_1179 : decode cL_law 1179 = .ok (.iinc 5 5, 3) := by decide +kernel
theorem dL_law_1182 : decode cL_law 1182 = .ok (.goto (-1154), 3) := by decide +kernel
theorem dL_law_1185 : decode cL_law 1185 = .ok (.iconst 1, 1) := by decide +kernel
theorem dL_law_1186 : decode cL_law 1186 = .ok (.ireturn, 1) := by decide +kernel
