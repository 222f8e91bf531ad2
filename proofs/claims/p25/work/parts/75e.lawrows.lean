theorem dL_law_690 : decode cL_law 690 = .ok (.iload 15, 2) := by decide +kernel
theorem dL_law_692 : decode cL_law 692 = .ok (.baload, 1) := by decide +kernel
theorem dL_law_693 : decode cL_law 693 = .ok (.ifCond .eq 7, 3) := by decide +kernel
theorem dL_law_696 : decode cL_law 696 = .ok (.iconst 1, 1) := by decide +kernel
theorem dL_law_697 : decode cL_law 697 = .ok (.goto 4, 3) := by decide +kernel
theorem dL_law_700 : decode cL_law 700 = .ok (.iconst 0, 1) := by decide +kernel
theorem dL_law_701 : decode cL_law 701 = .ok (.iadd, 1) := by decide +kernel
theorem dL_law_702 : decode cL_law 702 = .ok (.istore 12, 2) := by decide +kernel
theorem dL_law_704 : decode cL_law 704 = .ok (.aload_n 1, 1) := by decide +kernel
theorem dL_law_705 : decode cL_law 705 = .ok (.iload 15, 2) := by decide +kernel
theorem dL_law_707 : decode cL_law 707 = .ok (.invokevirtual 88, 3) := by decide +kernel
theorem dL_law_710 : decode cL_law 710 = .ok (.aload_n 1, 1) := by decide +kernel
theorem dL_law_711 : decode cL_law 711 = .ok (.aload 5, 2) := by decide +kernel
theorem dL_law_713 : decode cL_law 713 = .ok (.iconst 5, 1) := by decide +kernel
theorem dL_law_714 : decode cL_law 714 = .ok (.iload 11, 2) := by decide +kernel
theorem dL_law_716 : decode cL_law 716 = .ok (.imul, 1) := by decide +kernel
theorem dL_law_717 : decode cL_law 717 = .ok (.iload 13, 2) := by decide +kernel
theorem dL_law_719 : decode cL_law 719 = .ok (.iadd, 1) := by decide +kernel
theorem dL_law_720 : decode cL_law 720 = .ok (.iaload, 1) := by decide +kernel
theorem dL_law_721 : decode cL_law 721 = .ok (.invokevirtual 88, 3) := by decide +kernel
theorem dL_law_724 : decode cL_law 724 = .ok (.if_icmp .le 7, 3) := by decide +kernel
theorem dL_law_727 : decode cL_law 727 = .ok (.iload 14, 2) := by decide +kernel
theorem dL_law_729 : decode cL_law 729 = .ok (.istore 13, 2) := by decide +kernel
theorem dL_law_731 : decode cL_law 731 = .ok (.iinc 14 1, 3) := by decide +kernel
theorem dL_law_734 : decode cL_law 734 = .ok (.goto (-66), 3) := by decide +kernel
theorem dL_law_737 : decode cL_law 737 = .ok (.iload 12, 2) := by decide +kernel
theorem dL_law_739 : decode cL_law 739 = .ok (.iconst 3, 1) := by decide +kernel
theorem dL_law_740 : decode cL_law 740 = .ok (.if_icmp .ge 16, 3) := by decide +kernel
theorem dL_law_743 : decode cL_law 743 = .ok (.iload 8, 2) := by decide +kernel
theorem dL_law_745 : decode cL_law 745 = .ok (.iload 11, 2) := by decide +kernel
theorem dL_law_747 : decode cL_law 747 = .ok (.ishr, 1) := by decide +kernel
theorem dL_law_748 : decode cL_law 748 = .ok (.iconst 1, 1) := by decide +kernel
theorem dL_law_749 : decode cL_law 749 = .ok (.iand, 1) := by decide +kernel
theorem dL_law_750 : decode cL_law 750 = .ok (.iconst 1, 1) := by decide +kernel
theorem dL_law_751 : decode cL_law 751 = .ok (.if_icmp .ne 5, 3) := by decide +kernel
theorem dL_law_754 : decode cL_law 754 = .ok (.iconst 0, 1) := by decide +kernel
theorem dL_law_755 : decode cL_law 755 = .ok (.ireturn, 1) := by decide +kernel
theorem dL_law_756 : decode cL_law 756 = .ok (.iload 12, 2) := by decide +kernel
theorem dL_law_758 : decode cL_law 758 = .ok (.iconst 3, 1) := by decide +kernel
theorem dL_law_759 : decode cL_law 759 = .ok (.if_icmp .ne 27, 3) := by decide +kernel
theorem dL_law_762 : decode cL_law 762 = .ok (.iload 8, 2) := by decide +kernel
theorem dL_law_764 : decode cL_law 764 = .ok (.iload 11, 2) := by decide +kernel
theorem dL_law_766 : decode cL_law 766 = .ok (.ishr, 1) := by decide +kernel
theorem dL_law_767 : decode cL_law 767 = .ok (.iconst 1, 1) := by decide +kernel
theorem dL_law_768 : decode cL_law 768 = .ok (.iand, 1) := by decide +kernel
theorem dL_law_769 : decode cL_law 769 = .ok (.ifCond .ne 17, 3) := by decide +kernel
theorem dL_law_772 : decode cL_law 772 = .ok (.aload 10, 2) := by decide +kernel
theorem dL_law_774 : decode cL_law 774 = .ok (.aload 5, 2) := by decide +kernel
theorem dL_law_776 : decode cL_law 776 = .ok (.iconst 5, 1) := by decide +kernel
theorem dL_law_777 : decode cL_law 777 = .ok (.iload 11, 2) := by decide +kernel
theorem dL_law_779 : decode cL_law 779 = .ok (.imul, 1) := by decide +kernel
theorem dL_law_780 : decode cL_law 780 = .ok (.iload 13, 2) := by decide +kernel
theorem dL_law_782 : decode cL_law 782 = .ok (.iadd, 1) := by decide +kernel
theorem dL_law_783 : decode cL_law 783 = .ok (.iaload, 1) := by decide +kernel
theorem dL_law_784 : decode cL_law 784 = .ok (.iconst 1, 1) := by decide +kernel
theorem dL_law_785 : decode cL_law 785 = .ok (.bastore, 1) := by decide +kernel
theorem dL_law_786 : decode cL_law 786 = .ok (.iinc 11 1, 3) := by decide +kernel
theorem dL_law_789 : decode cL_law 789 = .ok (.goto (-139), 3) := by decide +kernel
theorem dL_law_792 : decode cL_law 792 = .ok (.iconst 0, 1) := by decide +kernel
theorem dL_law_793 : decode cL_law 793 = .ok (.istore 11, 2) := by decide +kernel
theorem dL_law_795 : decode cL_law 795 = .ok (.iload 11, 2) := by decide +kernel
theorem dL_law_797 : decode cL_law 797 = .ok (.aload 6, 2) := by decide +kernel
theorem dL_law_799 : decode cL_law 799 = .ok (.iconst 0, 1) := by decide +kernel
theorem dL_law_800 : decode cL_law 800 = .ok (.iaload, 1) := by decide +kernel
theorem dL_law_801 : decode cL_law 801 = .ok (.if_icmp .ge 24, 3) := by decide +kernel
theorem dL_law_804 : decode cL_law 804 = .ok (.aload 9, 2) := by decide +kernel
theorem dL_law_806 : decode cL_law 806 = .ok (.iload 11, 2) := by decide +kernel
theorem dL_law_808 : decode cL_law 808 = .ok (.baload, 1) := by decide +kernel
theorem dL_law_809 : decode cL_law 809 = .ok (.aload 10, 2) := by decide +kernel
theorem dL_law_811 : decode cL_law 811 = .ok (.iload 11, 2) := by decide +kernel
theorem dL_law_813 : decode cL_law 813 = .ok (.baload, 1) := by decide +kernel
theorem dL_law_814 : decode cL_law 814 = .ok (.if_icmp .eq 5, 3) := by decide +kernel
theorem dL_law_817 : decode cL_law 817 = .ok (.iconst 0, 1) := by decide +kernel
theorem dL_law_818 : decode cL_law 818 = .ok (.ireturn, 1) := by decide +kernel
theorem dL_law_819 : decode cL_law 819 = .ok (.iinc 11 1, 3) := by decide +kernel
theorem dL_law_822 : decode cL_law 822 = .ok (.goto (-27), 3) := by decide +kernel
theorem dL_law_825 : decode cL_law 825 = .ok (.iconst 1, 1) := by decide +kernel
theorem dL_law_826 : decode cL_law 826 = .ok (.ireturn, 1) := by decide +kernel
