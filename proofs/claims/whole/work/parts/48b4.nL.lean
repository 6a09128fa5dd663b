theorem dL_law_609 : decode cL_law 609 = .ok (.istore 6, 2) := by decide +kernel
theorem dL_law_611 : decode cL_law 611 = .ok (.aload_n 2, 1) := by decide +kernel
theorem dL_law_612 : decode cL_law 612 = .ok (.aload_n 0, 1) := by decide +kernel
theorem dL_law_613 : decode cL_law 613 = .ok (.iload 5, 2) := by decide +kernel
theorem dL_law_615 : decode cL_law 615 = .ok (.iconst 1, 1) := by decide +kernel
theorem dL_law_616 : decode cL_law 616 = .ok (.iadd, 1) := by decide +kernel
theorem dL_law_617 : decode cL_law 617 = .ok (.iaload, 1) := by decide +kernel
theorem dL_law_618 : decode cL_law 618 = .ok (.aload_n 0, 1) := by decide +kernel
theorem dL_law_619 : decode cL_law 619 = .ok (.iload 5, 2) := by decide +kernel
theorem dL_law_621 : decode cL_law 621 = .ok (.iconst 2, 1) := by decide +kernel
theorem dL_law_622 : decode cL_law 622 = .ok (.iadd, 1) := by decide +kernel
theorem dL_law_623 : decode cL_law 623 = .ok (.iaload, 1) := by decide +kernel
theorem dL_law_624 : decode cL_law 624 = .ok (.invokevirtual 125, 3) := by decide +kernel
theorem dL_law_627 : decode cL_law 627 = .ok (.istore 7, 2) := by decide +kernel
theorem dL_law_629 : decode cL_law 629 = .ok (.aload_n 2, 1) := by decide +kernel
theorem dL_law_630 : decode cL_law 630 = .ok (.invokevirtual 105, 3) := by decide +kernel
theorem dL_law_633 : decode cL_law 633 = .ok (.iload 6, 2) := by decide +kernel
theorem dL_law_635 : decode cL_law 635 = .ok (.if_icmp .eq 5, 3) := by decide +kernel
theorem dL_law_638 : decode cL_law 638 = .ok (.iconst 0, 1) := by decide +kernel
theorem dL_law_639 : decode cL_law 639 = .ok (.ireturn, 1) := by decide +kernel
theorem dL_law_640 : decode cL_law 640 = .ok (.iload 6, 2) := by decide +kernel
theorem dL_law_642 : decode cL_law 642 = .ok (.ifCond .ne 15, 3) := by decide +kernel
theorem dL_law_645 : decode cL_law 645 = .ok (.aload_n 3, 1) := by decide +kernel
theorem dL_law_646 : decode cL_law 646 = .ok (.iconst 0, 1) := by decide +kernel
theorem dL_law_647 : decode cL_law 647 = .ok (.laload, 1) := by decide +kernel
theorem dL_law_648 : decode cL_law 648 = .ok (.iload 7, 2) := by decide +kernel
theorem dL_law_650 : decode cL_law 650 = .ok (.i2l, 1) := by decide +kernel
theorem dL_law_651 : decode cL_law 651 = .ok (.lcmp, 1) := by decide +kernel
theorem dL_law_652 : decode cL_law 652 = .ok (.ifCond .eq 5, 3) := by decide +kernel
theorem dL_law_655 : decode cL_law 655 = .ok (.iconst 0, 1) := by decide +kernel
theorem dL_law_656 : decode cL_law 656 = .ok (.ireturn, 1) := by decide +kernel
theorem dL_law_657 : decode cL_law 657 = .ok (.goto 1187, 3) := by decide +kernel
theorem dL_law_660 : decode cL_law 660 = .ok (.aload_n 1, 1) := by decide +kernel
theorem dL_law_661 : decode cL_law 661 = .ok (.invokevirtual 126, 3) := by decide +kernel
theorem dL_law_664 : decode cL_law 664 = .ok (.aload_n 2, 1) := by decide +kernel
theorem dL_law_665 : decode cL_law 665 = .ok (.invokevirtual 129, 3) := by decide +kernel
theorem dL_law_668 : decode cL_law 668 = .ok (.if_icmp .eq 1176, 3) := by decide +kernel
theorem dL_law_671 : decode cL_law 671 = .ok (.iconst 0, 1) := by decide +kernel
theorem dL_law_672 : decode cL_law 672 = .ok (.ireturn, 1) := by decide +kernel
theorem dL_law_673 : decode cL_law 673 = .ok (.aload_n 1, 1) := by decide +kernel
theorem dL_law_674 : decode cL_law 674 = .ok (.invokevirtual 130, 3) := by decide +kernel
theorem dL_law_677 : decode cL_law 677 = .ok (.aload_n 2, 1) := by decide +kernel
theorem dL_law_678 : decode cL_law 678 = .ok (.invokevirtual 133, 3) := by decide +kernel
theorem dL_law_681 : decode cL_law 681 = .ok (.if_icmp .eq 1163, 3) := by decide +kernel
theorem dL_law_684 : decode cL_law 684 = .ok (.iconst 0, 1) := by decide +kernel
theorem dL_law_685 : decode cL_law 685 = .ok (.ireturn, 1) := by decide +kernel
theorem dL_law_686 : decode cL_law 686 = .ok (.aload_n 1, 1) := by decide +kernel
theorem dL_law_687 : decode cL_law 687 = .ok (.aload_n 0, 1) := by decide +kernel
theorem dL_law_688 : decode cL_law 688 = .ok (.iload 5, 2) := by decide +kernel
theorem dL_law_690 : decode cL_law 690 = .ok (.iconst 1, 1) := by decide +kernel
theorem dL_law_691 : decode cL_law 691 = .ok (.iadd, 1) := by decide +kernel
theorem dL_law_692 : decode cL_law 692 = .ok (.iaload, 1) := by decide +kernel
theorem dL_law_693 : decode cL_law 693 = .ok (.aload_n 0, 1) := by decide +kernel
theorem dL_law_694 : decode cL_law 694 = .ok (.iload 5, 2) := by decide +kernel
theorem dL_law_696 : decode cL_law 696 = .ok (.iconst 2, 1) := by decide +kernel
theorem dL_law_697 : decode cL_law 697 = .ok (.iadd, 1) := by decide +kernel
theorem dL_law_698 : decode cL_law 698 = .ok (.iaload, 1) := by decide +kernel
theorem dL_law_699 : decode cL_law 699 = .ok (.aload_n 0, 1) := by decide +kernel
theorem dL_law_700 : decode cL_law 700 = .ok (.iload 5, 2) := by decide +kernel
theorem dL_law_702 : decode cL_law 702 = .ok (.iconst 3, 1) := by decide +kernel
theorem dL_law_703 : decode cL_law 703 = .ok (.iadd, 1) := by decide +kernel
theorem dL_law_704 : decode cL_law 704 = .ok (.iaload, 1) := by decide +kernel
theorem dL_law_705 : decode cL_law 705 = .ok (.aload_n 3, 1) := by decide +kernel
theorem dL_law_706 : decode cL_law 706 = .ok (.invokestatic 134, 3) := by decide +kernel
theorem dL_law_709 : decode cL_law 709 = .ok (.istore 6, 2) := by decide +kernel
theorem dL_law_711 : decode cL_law 711 = .ok (.aload_n 2, 1) := by decide +kernel
theorem dL_law_712 : decode cL_law 712 = .ok (.aload_n 0, 1) := by decide +kernel
theorem dL_law_713 : decode cL_law 713 = .ok (.iload 5, 2) := by decide +kernel
theorem dL_law_715 : decode cL_law 715 = .ok (.iconst 1, 1) := by decide +kernel
theorem dL_law_716 : decode cL_law 716 = .ok (.iadd, 1) := by decide +kernel
theorem dL_law_717 : decode cL_law 717 = .ok (.iaload, 1) := by decide +kernel
theorem dL_law_718 : decode cL_law 718 = .ok (.aload_n 0, 1) := by decide +kernel
theorem dL_law_719 : decode cL_law 719 = .ok (.iload 5, 2) := by decide +kernel
theorem dL_law_721 : decode cL_law 721 = .ok (.iconst 2, 1) := by decide +kernel
theorem dL_law_722 : decode cL_law 722 = .ok (.iadd, 1) := by decide +kernel
theorem dL_law_723 : decode cL_law 723 = .ok (.iaload, 1) := by decide +kernel
theorem dL_law_724 : decode cL_law 724 = .ok (.aload_n 0, 1) := by decide +kernel
theorem dL_law_725 : decode cL_law 725 = .ok (.iload 5, 2) := by decide +kernel
theorem dL_law_727 : decode cL_law 727 = .ok (.iconst 3, 1) := by decide +kernel
theorem dL_law_728 : decode cL_law 728 = .ok (.iadd, 1) := by decide +kernel
theorem dL_law_729 : decode cL_law 729 = .ok (.iaload, 1) := by decide +kernel
theorem dL_law_730 : decode cL_law 730 = .ok (.invokevirtual 136, 3) := by decide +kernel
theorem dL_law_733 : decode cL_law 733 = .ok (.istore 7, 2) := by decide +kernel
theorem dL_law_735 : decode cL_law 735 = .ok (.aload_n 2, 1) := by decide +kernel
theorem dL_law_736 : decode cL_law 736 = .ok (.invokevirtual 105, 3) := by decide +kernel
theorem dL_law_739 : decode cL_law 739 = .ok (.iload 6, 2) := by decide +kernel
theorem dL_law_741 : decode cL_law 741 = .ok (.if_icmp .eq 5, 3) := by decide +kernel
theorem dL_law_744 : decode cL_law 744 = .ok (.iconst 0, 1) := by decide +kernel
theorem dL_law_745 : decode cL_law 745 = .ok (.ireturn, 1) := by decide +kernel
theorem dL_law_746 : decode cL_law 746 = .ok (.iload 6, 2) := by decide +kernel
theorem dL_law_748 : decode cL_law 748 = .ok (.ifCond .ne 15, 3) := by decide +kernel
theorem dL_law_751 : decode cL_law 751 = .ok (.aload_n 3, 1) := by decide +kernel
theorem dL_law_752 : decode cL_law 752 = .ok (.iconst 0, 1) := by decide +kernel
theorem dL_law_753 : decode cL_law 753 = .ok (.laload, 1) := by decide +kernel
theorem dL_law_754 : decode cL_law 754 = .ok (.iload 7, 2) := by decide +kernel
theorem dL_law_756 : decode cL_law 756 = .ok (.i2l, 1) := by decide +kernel
theorem dL_law_757 : decode cL_law 757 = .ok (.lcmp, 1) := by decide +kernel
theorem dL_law_758 : decode cL_law 758 = .ok (.ifCond .eq 5, 3) := by decide +kernel
theorem dL_law_761 : decode cL_law 761 = .ok (.iconst 0, 1) := by decide +kernel
theorem dL_law_762 : decode cL_law 762 = .ok (.ireturn, 1) := by decide +kernel
theorem dL_law_763 : decode cL_law 763 = .ok (.goto 1081, 3) := by decide +kernel
theorem dL_law_766 : decode cL_law 766 = .ok (.aload_n 1, 1) := by decide +kernel
theorem dL_law_767 : decode cL_law 767 = .ok (.aload_n 0, 1) := by decide +kernel
theorem dL_law_768 : decode cL_law 768 = .ok (.iload 5, 2) := by decide +kernel
theorem dL_law_770 : decode cL_law 770 = .ok (.iconst 1, 1) := by decide +kernel
theorem dL_law_771 : decode cL_law 771 = .ok (.iadd, 1) := by decide +kernel
theorem dL_law_772 : decode cL_law 772 = .ok (.iaload, 1) := by decide +kernel
theorem dL_law_773 : decode cL_law 773 = .ok (.aload_n 0, 1) := by decide +kernel
theorem dL_law_774 : decode cL_law 774 = .ok (.iload 5, 2) := by decide +kernel
theorem dL_law_776 : decode cL_law 776 = .ok (.iconst 2, 1) := by decide +kernel
theorem dL_law_777 : decode cL_law 777 = .ok (.iadd, 1) := by decide +kernel
theorem dL_law_778 : decode cL_law 778 = .ok (.iaload, 1) := by decide +kernel
theorem dL_law_779 : decode cL_law 779 = .ok (.aload_n 3, 1) := by decide +kernel
theorem dL_law_780 : decode cL_law 780 = .ok (.invokestatic 137, 3) := by decide +kernel
theorem dL_law_783 : decode cL_law 783 = .ok (.istore 6, 2) := by decide +kernel
theorem dL_law_785 : decode cL_law 785 = .ok (.aload_n 2, 1) := by decide +kernel
theorem dL_law_786 : decode cL_law 786 = .ok (.aload_n 0, 1) := by decide +kernel
theorem dL_law_787 : decode cL_law 787 = .ok (.iload 5, 2) := by decide +kernel
theorem dL_law_789 : decode cL_law 789 = .ok (.iconst 1, 1) := by decide +kernel
theorem dL_law_790 : decode cL_law 790 = .ok (.iadd, 1) := by decide +kernel
theorem dL_law_791 : decode cL_law 791 = .ok (.iaload, 1) := by decide +kernel
theorem dL_law_792 : decode cL_law 792 = .ok (.aload_n 0, 1) := by decide +kernel
theorem dL_law_793 : decode cL_law 793 = .ok (.iload 5, 2) := by decide +kernel
theorem dL_law_795 : decode cL_law 795 = .ok (.iconst 2, 1) := by decide +kernel
theorem dL_law_796 : decode cL_law 796 = .ok (.iadd, 1) := by decide +kernel
theorem dL_law_797 : decode cL_law 797 = .ok (.iaload, 1) := by decide +kernel
theorem dL_law_798 : decode cL_law 798 = .ok (.invokevirtual 139, 3) := by decide +kernel
theorem dL_law_801 : decode cL_law 801 = .ok (.istore 7, 2) := by decide +kernel
theorem dL_law_803 : decode cL_law 803 = .ok (.aload_n 2, 1) := by decide +kernel
theorem dL_law_804 : decode cL_law 804 = .ok (.invokevirtual 105, 3) := by decide +kernel
theorem dL_law_807 : decode cL_law 807 = .ok (.iload 6, 2) := by decide +kernel
theorem dL_law_809 : decode cL_law 809 = .ok (.if_icmp .eq 5, 3) := by decide +kernel
theorem dL_law_812 : decode cL_law 812 = .ok (.iconst 0, 1) := by decide +kernel
theorem dL_law_813 : decode cL_law 813 = .ok (.ireturn, 1) := by decide +kernel
theorem dL_law_814 : decode cL_law 814 = .ok (.iload 6, 2) := by decide +kernel
theorem dL_law_816 : decode cL_law 816 = .ok (.ifCond .ne 15, 3) := by decide +kernel
theorem dL_law_819 : decode cL_law 819 = .ok (.aload_n 3, 1) := by decide +kernel
theorem dL_law_820 : decode cL_law 820 = .ok (.iconst 0, 1) := by decide +kernel
theorem dL_law_821 : decode cL_law 821 = .ok (.laload, 1) := by decide +kernel
theorem dL_law_822 : decode cL_law 822 = .ok (.iload 7, 2) := by decide +kernel
theorem dL_law_824 : decode cL_law 824 = .ok (.i2l, 1) := by decide +kernel
theorem dL_law_825 : decode cL_law 825 = .ok (.lcmp, 1) := by decide +kernel
theorem dL_law_826 : decode cL_law 826 = .ok (.ifCond .eq 5, 3) := by decide +kernel
theorem dL_law_829 : decode cL_law 829 = .ok (.iconst 0, 1) := by decide +kernel
theorem dL_law_830 : decode cL_law 830 = .ok (.ireturn, 1) := by decide +kernel
theorem dL_law_831 : decode cL_law 831 = .ok (.goto 1013, 3) := by decide +kernel
theorem dL_law_834 : decode cL_law 834 = .ok (.aload_n 1, 1) := by decide +kernel
theorem dL_law_835 : decode cL_law 835 = .ok (.aload_n 0, 1) := by decide +kernel
theorem dL_law_836 : decode cL_law 836 = .ok (.iload 5, 2) := by decide +kernel
theorem dL_law_838 : decode cL_law 838 = .ok (.iconst 1, 1) := by decide +kernel
theorem dL_law_839 : decode cL_law 839 = .ok (.iadd, 1) := by decide +kernel
theorem dL_law_840 : decode cL_law 840 = .ok (.iaload, 1) := by decide +kernel
theorem dL_law_841 : decode cL_law 841 = .ok (.aload_n 0, 1) := by decide +kernel
theorem dL_law_842 : decode cL_law 842 = .ok (.iload 5, 2) := by decide +kernel
theorem dL_law_844 : decode cL_law 844 = .ok (.iconst 2, 1) := by decide +kernel
theorem dL_law_845 : decode cL_law 845 = .ok (.iadd, 1) := by decide +kernel
theorem dL_law_846 : decode cL_law 846 = .ok (.iaload, 1) := by decide +kernel
theorem dL_law_847 : decode cL_law 847 = .ok (.aload_n 3, 1) := by decide +kernel
theorem dL_law_848 : decode cL_law 848 = .ok (.invokestatic 140, 3) := by decide +kernel
theorem dL_law_851 : decode cL_law 851 = .ok (.istore 6, 2) := by decide +kernel
theorem dL_law_853 : decode cL_law 853 = .ok (.aload_n 2, 1) := by decide +kernel
theorem dL_law_854 : decode cL_law 854 = .ok (.aload_n 0, 1) := by decide +kernel
theorem dL_law_855 : decode cL_law 855 = .ok (.iload 5, 2) := by decide +kernel
theorem dL_law_857 : decode cL_law 857 = .ok (.iconst 1, 1) := by decide +kernel
theorem dL_law_858 : decode cL_law 858 = .ok (.iadd, 1) := by decide +kernel
theorem dL_law_859 : decode cL_law 859 = .ok (.iaload, 1) := by decide +kernel
theorem dL_law_860 : decode cL_law 860 = .ok (.aload_n 0, 1) := by decide +kernel
theorem dL_law_861 : decode cL_law 861 = .ok (.iload 5, 2) := by decide +kernel
theorem dL_law_863 : decode cL_law 863 = .ok (.iconst 2, 1) := by decide +kernel
theorem dL_law_864 : decode cL_law 864 = .ok (.iadd, 1) := by decide +kernel
theorem dL_law_865 : decode cL_law 865 = .ok (.iaload, 1) := by decide +kernel
theorem dL_law_866 : decode cL_law 866 = .ok (.invokevirtual 142, 3) := by decide +kernel
theorem dL_law_869 : decode cL_law 869 = .ok (.istore 7, 2) := by decide +kernel
theorem dL_law_871 : decode cL_law 871 = .ok (.aload_n 2, 1) := by decide +kernel
theorem dL_law_872 : decode cL_law 872 = .ok (.invokevirtual 105, 3) := by decide +kernel
theorem dL_law_875 : decode cL_law 875 = .ok (.iload 6, 2) := by decide +kernel
theorem dL_law_877 : decode cL_law 877 = .ok (.if_icmp .eq 5, 3) := by decide +kernel
theorem dL_law_880 : decode cL_law 880 = .ok (.iconst 0, 1) := by decide +kernel
theorem dL_law_881 : decode cL_law 881 = .ok (.ireturn, 1) := by decide +kernel
theorem dL_law_882 : decode cL_law 882 = .ok (.iload 6, 2) := by decide +kernel
theorem dL_law_884 : decode cL_law 884 = .ok (.ifCond .ne 15, 3) := by decide +kernel
theorem dL_law_887 : decode cL_law 887 = .ok (.aload_n 3, 1) := by decide +kernel
theorem dL_law_888 : decode cL_law 888 = .ok (.iconst 0, 1) := by decide +kernel
theorem dL_law_889 : decode cL_law 889 = .ok (.laload, 1) := by decide +kernel
theorem dL_law_890 : decode cL_law 890 = .ok (.iload 7, 2) := by decide +kernel
theorem dL_law_892 : decode cL_law 892 = .ok (.i2l, 1) := by decide +kernel
theorem dL_law_893 : decode cL_law 893 = .ok (.lcmp, 1) := by decide +kernel
theorem dL_law_894 : decode cL_law 894 = .ok (.ifCond .eq 5, 3) := by decide +kernel
theorem dL_law_897 : decode cL_law 897 = .ok (.iconst 0, 1) := by decide +kernel
theorem dL_law_898 : decode cL_law 898 = .ok (.ireturn, 1) := by decide +kernel
theorem dL_law_899 : decode cL_law 899 = .ok (.goto 945, 3) := by decide +kernel
theorem dL_law_902 : decode cL_law 902 = .ok (.aload_n 1, 1) := by decide +kernel
theorem dL_law_903 : decode cL_law 903 = .ok (.aload_n 0, 1) := by decide +kernel
theorem dL_law_904 : decode cL_law 904 = .ok (.iload 5, 2) := by decide +kernel
theorem dL_law_906 : decode cL_law 906 = .ok (.iconst 1, 1) := by decide +kernel
theorem dL_law_907 : decode cL_law 907 = .ok (.iadd, 1) := by decide +kernel
theorem dL_law_908 : decode cL_law 908 = .ok (.iaload, 1) := by decide +kernel
theorem dL_law_909 : decode cL_law 909 = .ok (.aload_n 3, 1) := by decide +kernel
theorem dL_law_910 : decode cL_law 910 = .ok (.invokestatic 143, 3) := by decide +kernel
theorem dL_law_913 : decode cL_law 913 = .ok (.istore 6, 2) := by decide +kernel
theorem dL_law_915 : decode cL_law 915 = .ok (.aload_n 2, 1) := by decide +kernel
theorem dL_law_916 : decode cL_law 916 = .ok (.aload_n 0, 1) := by decide +kernel
theorem dL_law_917 : decode cL_law 917 = .ok (.iload 5, 2) := by decide +kernel
theorem dL_law_919 : decode cL_law 919 = .ok (.iconst 1, 1) := by decide +kernel
theorem dL_law_920 : decode cL_law 920 = .ok (.iadd, 1) := by decide +kernel
theorem dL_law_921 : decode cL_law 921 = .ok (.iaload, 1) := by decide +kernel
theorem dL_law_922 : decode cL_law 922 = .ok (.invokevirtual 145, 3) := by decide +kernel
theorem dL_law_925 : decode cL_law 925 = .ok (.istore 7, 2) := by decide +kernel
theorem dL_law_927 : decode cL_law 927 = .ok (.aload_n 2, 1) := by decide +kernel
theorem dL_law_928 : decode cL_law 928 = .ok (.invokevirtual 105, 3) := by decide +kernel
theorem dL_law_931 : decode cL_law 931 = .ok (.iload 6, 2) := by decide +kernel
theorem dL_law_933 : decode cL_law 933 = .ok (.if_icmp .eq 5, 3) := by decide +kernel
theorem dL_law_936 : decode cL_law 936 = .ok (.iconst 0, 1) := by decide +kernel
theorem dL_law_937 : decode cL_law 937 = .ok (.ireturn, 1) := by decide +kernel
theorem dL_law_938 : decode cL_law 938 = .ok (.iload 6, 2) := by decide +kernel
theorem dL_law_940 : decode cL_law 940 = .ok (.ifCond .ne 15, 3) := by decide +kernel
theorem dL_law_943 : decode cL_law 943 = .ok (.aload_n 3, 1) := by decide +kernel
theorem dL_law_944 : decode cL_law 944 = .ok (.iconst 0, 1) := by decide +kernel
theorem dL_law_945 : decode cL_law 945 = .ok (.laload, 1) := by decide +kernel
theorem dL_law_946 : decode cL_law 946 = .ok (.iload 7, 2) := by decide +kernel
theorem dL_law_948 : decode cL_law 948 = .ok (.i2l, 1) := by decide +kernel
theorem dL_law_949 : decode cL_law 949 = .ok (.lcmp, 1) := by decide +kernel
theorem dL_law_950 : decode cL_law 950 = .ok (.ifCond .eq 5, 3) := by decide +kernel
theorem dL_law_953 : decode cL_law 953 = .ok (.iconst 0, 1) := by decide +kernel
theorem dL_law_954 : decode cL_law 954 = .ok (.ireturn, 1) := by decide +kernel
theorem dL_law_955 : decode cL_law 955 = .ok (.goto 889, 3) := by decide +kernel
theorem dL_law_958 : decode cL_law 958 = .ok (.aload_n 1, 1) := by decide +kernel
theorem dL_law_959 : decode cL_law 959 = .ok (.aload_n 0, 1) := by decide +kernel
theorem dL_law_960 : decode cL_law 960 = .ok (.iload 5, 2) := by decide +kernel
theorem dL_law_962 : decode cL_law 962 = .ok (.iconst 1, 1) := by decide +kernel
theorem dL_law_963 : decode cL_law 963 = .ok (.iadd, 1) := by decide +kernel
theorem dL_law_964 : decode cL_law 964 = .ok (.iaload, 1) := by decide +kernel
theorem dL_law_965 : decode cL_law 965 = .ok (.aload_n 3, 1) := by decide +kernel
theorem dL_law_966 : decode cL_law 966 = .ok (.invokestatic 146, 3) := by decide +kernel
theorem dL_law_969 : decode cL_law 969 = .ok (.istore 6, 2) := by decide +kernel
theorem dL_law_971 : decode cL_law 971 = .ok (.aload_n 2, 1) := by decide +kernel
theorem dL_law_972 : decode cL_law 972 = .ok (.aload_n 0, 1) := by decide +kernel
theorem dL_law_973 : decode cL_law 973 = .ok (.iload 5, 2) := by decide +kernel
theorem dL_law_975 : decode cL_law 975 = .ok (.iconst 1, 1) := by decide +kernel
theorem dL_law_976 : decode cL_law 976 = .ok (.iadd, 1) := by decide +kernel
theorem dL_law_977 : decode cL_law 977 = .ok (.iaload, 1) := by decide +kernel
theorem dL_law_978 : decode cL_law 978 = .ok (.invokevirtual 148, 3) := by decide +kernel
theorem dL_law_981 : decode cL_law 981 = .ok (.istore 7, 2) := by decide +kernel
theorem dL_law_983 : decode cL_law 983 = .ok (.aload_n 2, 1) := by decide +kernel
theorem dL_law_984 : decode cL_law 984 = .ok (.invokevirtual 105, 3) := by decide +kernel
theorem dL_law_987 : decode cL_law 987 = .ok (.iload 6, 2) := by decide +kernel
theorem dL_law_989 : decode cL_law 989 = .ok (.if_icmp .eq 5, 3) := by decide +kernel
theorem dL_law_992 : decode cL_law 992 = .ok (.iconst 0, 1) := by decide +kernel
theorem dL_law_993 : decode cL_law 993 = .ok (.ireturn, 1) := by decide +kernel
theorem dL_law_994 : decode cL_law 994 = .ok (.iload 6, 2) := by decide +kernel
theorem dL_law_996 : decode cL_law 996 = .ok (.ifCond .ne 15, 3) := by decide +kernel
theorem dL_law_999 : decode cL_law 999 = .ok (.aload_n 3, 1) := by decide +kernel
theorem dL_law_1000 : decode cL_law 1000 = .ok (.iconst 0, 1) := by decide +kernel
theorem dL_law_1001 : decode cL_law 1001 = .ok (.laload, 1) := by decide +kernel
theorem dL_law_1002 : decode cL_law 1002 = .ok (.iload 7, 2) := by decide +kernel
theorem dL_law_1004 : decode cL_law 1004 = .ok (.i2l, 1) := by decide +kernel
theorem dL_law_1005 : decode cL_law 1005 = .ok (.lcmp, 1) := by decide +kernel
theorem dL_law_1006 : decode cL_law 1006 = .ok (.ifCond .eq 5, 3) := by decide +kernel
theorem dL_law_1009 : decode cL_law 1009 = .ok (.iconst 0, 1) := by decide +kernel
theorem dL_law_1010 : decode cL_law 1010 = .ok (.ireturn, 1) := by decide +kernel
theorem dL_law_1011 : decode cL_law 1011 = .ok (.goto 833, 3) := by decide +kernel
theorem dL_law_1014 : decode cL_law 1014 = .ok (.aload_n 1, 1) := by decide +kernel
theorem dL_law_1015 : decode cL_law 1015 = .ok (.invokevirtual 149, 3) := by decide +kernel
theorem dL_law_1018 : decode cL_law 1018 = .ok (.aload_n 2, 1) := by decide +kernel
theorem dL_law_1019 : decode cL_law 1019 = .ok (.invokevirtual 152, 3) := by decide +kernel
theorem dL_law_1022 : decode cL_law 1022 = .ok (.if_icmp .eq 822, 3) := by decide +kernel
theorem dL_law_1025 : decode cL_law 1025 = .ok (.iconst 0, 1) := by decide +kernel
theorem dL_law_1026 : decode cL_law 1026 = .ok (.ireturn, 1) := by decide +kernel
theorem dL_law_1027 : decode cL_law 1027 = .ok (.aload_n 1, 1) := by decide +kernel
theorem dL_law_1028 : decode cL_law 1028 = .ok (.invokevirtual 153, 3) := by decide +kernel
theorem dL_law_1031 : decode cL_law 1031 = .ok (.aload_n 2, 1) := by decide +kernel
theorem dL_law_1032 : decode cL_law 1032 = .ok (.invokevirtual 157, 3) := by decide +kernel
theorem dL_law_1035 : decode cL_law 1035 = .ok (.if_icmp .eq 809, 3) := by decide +kernel
theorem dL_law_1038 : decode cL_law 1038 = .ok (.iconst 0, 1) := by decide +kernel
theorem dL_law_1039 : decode cL_law 1039 = .ok (.ireturn, 1) := by decide +kernel
theorem dL_law_1040 : decode cL_law 1040 = .ok (.aload_n 1, 1) := by decide +kernel
theorem dL_law_1041 : decode cL_law 1041 = .ok (.aload_n 3, 1) := by decide +kernel
theorem dL_law_1042 : decode cL_law 1042 = .ok (.invokestatic 158, 3) := by decide +kernel
theorem dL_law_1045 : decode cL_law 1045 = .ok (.istore 6, 2) := by decide +kernel
theorem dL_law_1047 : decode cL_law 1047 = .ok (.aload_n 2, 1) := by decide +kernel
theorem dL_law_1048 : decode cL_law 1048 = .ok (.invokevirtual 161, 3) := by decide +kernel
theorem dL_law_1051 : decode cL_law 1051 = .ok (.istore 7, 2) := by decide +kernel
theorem dL_law_1053 : decode cL_law 1053 = .ok (.aload_n 2, 1) := by decide +kernel
theorem dL_law_1054 : decode cL_law 1054 = .ok (.invokevirtual 105, 3) := by decide +kernel
theorem dL_law_1057 : decode cL_law 1057 = .ok (.iload 6, 2) := by decide +kernel
theorem dL_law_1059 : decode cL_law 1059 = .ok (.if_icmp .eq 5, 3) := by decide +kernel
theorem dL_law_1062 : decode cL_law 1062 = .ok (.iconst 0, 1) := by decide +kernel
theorem dL_law_1063 : decode cL_law 1063 = .ok (.ireturn, 1) := by decide +kernel
theorem dL_law_1064 : decode cL_law 1064 = .ok (.iload 6, 2) := by decide +kernel
theorem dL_law_1066 : decode cL_law 1066 = .ok (.ifCond .ne 15, 3) := by decide +kernel
theorem dL_law_1069 : decode cL_law 1069 = .ok (.aload_n 3, 1) := by decide +kernel
theorem dL_law_1070 : decode cL_law 1070 = .ok (.iconst 0, 1) := by decide +kernel
theorem dL_law_1071 : decode cL_law 1071 = .ok (.laload, 1) := by decide +kernel
theorem dL_law_1072 : decode cL_law 1072 = .ok (.iload 7, 2) := by decide +kernel
theorem dL_law_1074 : decode cL_law 1074 = .ok (.i2l, 1) := by decide +kernel
theorem dL_law_1075 : decode cL_law 1075 = .ok (.lcmp, 1) := by decide +kernel
theorem dL_law_1076 : decode cL_law 1076 = .ok (.ifCond .eq 5, 3) := by decide +kernel
theorem dL_law_1079 : decode cL_law 1079 = .ok (.iconst 0, 1) := by decide +kernel
theorem dL_law_1080 : decode cL_law 1080 = .ok (.ireturn, 1) := by decide +kernel
theorem dL_law_1081 : decode cL_law 1081 = .ok (.goto 763, 3) := by decide +kernel
theorem dL_law_1084 : decode cL_law 1084 = .ok (.aload_n 1, 1) := by decide +kernel
theorem dL_law_1085 : decode cL_law 1085 = .ok (.aload_n 0, 1) := by decide +kernel
theorem dL_law_1086 : decode cL_law 1086 = .ok (.iload 5, 2) := by decide +kernel
theorem dL_law_1088 : decode cL_law 1088 = .ok (.iconst 1, 1) := by decide +kernel
theorem dL_law_1089 : decode cL_law 1089 = .ok (.iadd, 1) := by decide +kernel
theorem dL_law_1090 : decode cL_law 1090 = .ok (.iaload, 1) := by decide +kernel
theorem dL_law_1091 : decode cL_law 1091 = .ok (.aload_n 3, 1) := by decide +kernel
theorem dL_law_1092 : decode cL_law 1092 = .ok (.invokestatic 162, 3) := by decide +kernel
theorem dL_law_1095 : decode cL_law 1095 = .ok (.istore 6, 2) := by decide +kernel
theorem dL_law_1097 : decode cL_law 1097 = .ok (.aload_n 2, 1) := by decide +kernel
theorem dL_law_1098 : decode cL_law 1098 = .ok (.aload_n 0, 1) := by decide +kernel
theorem dL_law_1099 : decode cL_law 1099 = .ok (.iload 5, 2) := by decide +kernel
theorem dL_law_1101 : decode cL_law 1101 = .ok (.iconst 1, 1) := by decide +kernel
theorem dL_law_1102 : decode cL_law 1102 = .ok (.iadd, 1) := by decide +kernel
theorem dL_law_1103 : decode cL_law 1103 = .ok (.iaload, 1) := by decide +kernel
theorem dL_law_1104 : decode cL_law 1104 = .ok (.invokevirtual 164, 3) := by decide +kernel
theorem dL_law_1107 : decode cL_law 1107 = .ok (.istore 7, 2) := by decide +kernel
theorem dL_law_1109 : decode cL_law 1109 = .ok (.aload_n 2, 1) := by decide +kernel
theorem dL_law_1110 : decode cL_law 1110 = .ok (.invokevirtual 105, 3) := by decide +kernel
theorem dL_law_1113 : decode cL_law 1113 = .ok (.iload 6, 2) := by decide +kernel
theorem dL_law_1115 : decode cL_law 1115 = .ok (.if_icmp .eq 5, 3) := by decide +kernel
theorem dL_law_1118 : decode cL_law 1118 = .ok (.iconst 0, 1) := by decide +kernel
theorem dL_law_1119 : decode cL_law 1119 = .ok (.ireturn, 1) := by decide +kernel
theorem dL_law_1120 : decode cL_law 1120 = .ok (.iload 6, 2) := by decide +kernel
theorem dL_law_1122 : decode cL_law 1122 = .ok (.ifCond .ne 15, 3) := by decide +kernel
theorem dL_law_1125 : decode cL_law 1125 = .ok (.aload_n 3, 1) := by decide +kernel
theorem dL_law_1126 : decode cL_law 1126 = .ok (.iconst 0, 1) := by decide +kernel
theorem dL_law_1127 : decode cL_law 1127 = .ok (.laload, 1) := by decide +kernel
theorem dL_law_1128 : decode cL_law 1128 = .ok (.iload 7, 2) := by decide +kernel
theorem dL_law_1130 : decode cL_law 1130 = .ok (.i2l, 1) := by decide +kernel
theorem dL_law_1131 : decode cL_law 1131 = .ok (.lcmp, 1) := by decide +kernel
theorem dL_law_1132 : decode cL_law 1132 = .ok (.ifCond .eq 5, 3) := by decide +kernel
theorem dL_law_1135 : decode cL_law 1135 = .ok (.iconst 0, 1) := by decide +kernel
theorem dL_law_1136 : decode cL_law 1136 = .ok (.ireturn, 1) := by decide +kernel
theorem dL_law_1137 : decode cL_law 1137 = .ok (.goto 707, 3) := by decide +kernel
theorem dL_law_1140 : decode cL_law 1140 = .ok (.aload_n 1, 1) := by decide +kernel
theorem dL_law_1141 : decode cL_law 1141 = .ok (.aload_n 0, 1) := by decide +kernel
theorem dL_law_1142 : decode cL_law 1142 = .ok (.iload 5, 2) := by decide +kernel
theorem dL_law_1144 : decode cL_law 1144 = .ok (.iconst 1, 1) := by decide +kernel
theorem dL_law_1145 : decode cL_law 1145 = .ok (.iadd, 1) := by decide +kernel
theorem dL_law_1146 : decode cL_law 1146 = .ok (.iaload, 1) := by decide +kernel
theorem dL_law_1147 : decode cL_law 1147 = .ok (.aload_n 3, 1) := by decide +kernel
theorem dL_law_1148 : decode cL_law 1148 = .ok (.invokestatic 165, 3) := by decide +kernel
theorem dL_law_1151 : decode cL_law 1151 = .ok (.istore 6, 2) := by decide +kernel
theorem dL_law_1153 : decode cL_law 1153 = .ok (.aload_n 2, 1) := by decide +kernel
theorem dL_law_1154 : decode cL_law 1154 = .ok (.aload_n 0, 1) := by decide +kernel
theorem dL_law_1155 : decode cL_law 1155 = .ok (.iload 5, 2) := by decide +kernel
theorem dL_law_1157 : decode cL_law 1157 = .ok (.iconst 1, 1) := by decide +kernel
theorem dL_law_1158 : decode cL_law 1158 = .ok (.iadd, 1) := by decide +kernel
theorem dL_law_1159 : decode cL_law 1159 = .ok (.iaload, 1) := by decide +kernel
