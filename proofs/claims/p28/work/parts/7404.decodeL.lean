theorem dL_isWhole_658 : decode cL_isWhole 658 = .ok (.aload_n 0, 1) := by decide +kernel
theorem dL_isWhole_659 : decode cL_isWhole 659 = .ok (.iconst 2, 1) := by decide +kernel
theorem dL_isWhole_660 : decode cL_isWhole 660 = .ok (.invokevirtual 13, 3) := by decide +kernel
theorem dL_isWhole_663 : decode cL_isWhole 663 = .ok (.if_icmp .ne 38, 3) := by decide +kernel
theorem dL_isWhole_666 : decode cL_isWhole 666 = .ok (.iload 6, 2) := by decide +kernel
theorem dL_isWhole_668 : decode cL_isWhole 668 = .ok (.aload_n 0, 1) := by decide +kernel
theorem dL_isWhole_669 : decode cL_isWhole 669 = .ok (.iconst 5, 1) := by decide +kernel
theorem dL_isWhole_670 : decode cL_isWhole 670 = .ok (.invokevirtual 13, 3) := by decide +kernel
theorem dL_isWhole_673 : decode cL_isWhole 673 = .ok (.if_icmp .ne 28, 3) := by decide +kernel
theorem dL_isWhole_676 : decode cL_isWhole 676 = .ok (.iload 4, 2) := by decide +kernel
theorem dL_isWhole_678 : decode cL_isWhole 678 = .ok (.aload_n 0, 1) := by decide +kernel
theorem dL_isWhole_679 : decode cL_isWhole 679 = .ok (.iconst 3, 1) := by decide +kernel
theorem dL_isWhole_680 : decode cL_isWhole 680 = .ok (.invokevirtual 13, 3) := by decide +kernel
theorem dL_isWhole_683 : decode cL_isWhole 683 = .ok (.if_icmp .ne 18, 3) := by decide +kernel
theorem dL_isWhole_686 : decode cL_isWhole 686 = .ok (.aload_n 0, 1) := by decide +kernel
theorem dL_isWhole_687 : decode cL_isWhole 687 = .ok (.iload_n 3, 1) := by decide +kernel
theorem dL_isWhole_688 : decode cL_isWhole 688 = .ok (.invokevirtual 40, 3) := by decide +kernel
theorem dL_isWhole_691 : decode cL_isWhole 691 = .ok (.sipush (-1005), 3) := by decide +kernel
theorem dL_isWhole_694 : decode cL_isWhole 694 = .ok (.if_icmp .ne 7, 3) := by decide +kernel
theorem dL_isWhole_697 : decode cL_isWhole 697 = .ok (.iconst 1, 1) := by decide +kernel
theorem dL_isWhole_698 : decode cL_isWhole 698 = .ok (.goto 4, 3) := by decide +kernel
theorem dL_isWhole_701 : decode cL_isWhole 701 = .ok (.iconst 0, 1) := by decide +kernel
theorem dL_isWhole_702 : decode cL_isWhole 702 = .ok (.istore 7, 2) := by decide +kernel
theorem dL_isWhole_704 : decode cL_isWhole 704 = .ok (.iconst 1, 1) := by decide +kernel
theorem dL_isWhole_705 : decode cL_isWhole 705 = .ok (.istore 10, 2) := by decide +kernel
theorem dL_isWhole_707 : decode cL_isWhole 707 = .ok (.iload 10, 2) := by decide +kernel
theorem dL_isWhole_709 : decode cL_isWhole 709 = .ok (.iload_n 3, 1) := by decide +kernel
theorem dL_isWhole_710 : decode cL_isWhole 710 = .ok (.if_icmp .ge 84, 3) := by decide +kernel
theorem dL_isWhole_713 : decode cL_isWhole 713 = .ok (.iload 7, 2) := by decide +kernel
theorem dL_isWhole_715 : decode cL_isWhole 715 = .ok (.ifCond .eq 79, 3) := by decide +kernel
theorem dL_isWhole_718 : decode cL_isWhole 718 = .ok (.aload_n 0, 1) := by decide +kernel
theorem dL_isWhole_719 : decode cL_isWhole 719 = .ok (.iload 10, 2) := by decide +kernel
theorem dL_isWhole_721 : decode cL_isWhole 721 = .ok (.iconst 1, 1) := by decide +kernel
theorem dL_isWhole_722 : decode cL_isWhole 722 = .ok (.isub, 1) := by decide +kernel
theorem dL_isWhole_723 : decode cL_isWhole 723 = .ok (.invokevirtual 40, 3) := by decide +kernel
theorem dL_isWhole_726 : decode cL_isWhole 726 = .ok (.istore 11, 2) := by decide +kernel
theorem dL_isWhole_728 : decode cL_isWhole 728 = .ok (.aload_n 0, 1) := by decide +kernel
theorem dL_isWhole_729 : decode cL_isWhole 729 = .ok (.iload 10, 2) := by decide +kernel
theorem dL_isWhole_731 : decode cL_isWhole 731 = .ok (.invokevirtual 40, 3) := by decide +kernel
theorem dL_isWhole_734 : decode cL_isWhole 734 = .ok (.istore 12, 2) := by decide +kernel
theorem dL_isWhole_736 : decode cL_isWhole 736 = .ok (.aload_n 0, 1) := by decide +kernel
theorem dL_isWhole_737 : decode cL_isWhole 737 = .ok (.iload 11, 2) := by decide +kernel
theorem dL_isWhole_739 : decode cL_isWhole 739 = .ok (.bipush 8, 2) := by decide +kernel
theorem dL_isWhole_741 : decode cL_isWhole 741 = .ok (.invokevirtual 29, 3) := by decide +kernel
theorem dL_isWhole_744 : decode cL_isWhole 744 = .ok (.aload_n 0, 1) := by decide +kernel
theorem dL_isWhole_745 : decode cL_isWhole 745 = .ok (.iload 12, 2) := by decide +kernel
theorem dL_isWhole_747 : decode cL_isWhole 747 = .ok (.bipush 8, 2) := by decide +kernel
theorem dL_isWhole_749 : decode cL_isWhole 749 = .ok (.invokevirtual 29, 3) := by decide +kernel
theorem dL_isWhole_752 : decode cL_isWhole 752 = .ok (.if_icmp .lt 29, 3) := by decide +kernel
theorem dL_isWhole_755 : decode cL_isWhole 755 = .ok (.aload_n 0, 1) := by decide +kernel
theorem dL_isWhole_756 : decode cL_isWhole 756 = .ok (.iload 11, 2) := by decide +kernel
theorem dL_isWhole_758 : decode cL_isWhole 758 = .ok (.bipush 8, 2) := by decide +kernel
theorem dL_isWhole_760 : decode cL_isWhole 760 = .ok (.invokevirtual 29, 3) := by decide +kernel
theorem dL_isWhole_763 : decode cL_isWhole 763 = .ok (.aload_n 0, 1) := by decide +kernel
theorem dL_isWhole_764 : decode cL_isWhole 764 = .ok (.iload 12, 2) := by decide +kernel
theorem dL_isWhole_766 : decode cL_isWhole 766 = .ok (.bipush 8, 2) := by decide +kernel
theorem dL_isWhole_768 : decode cL_isWhole 768 = .ok (.invokevirtual 29, 3) := by decide +kernel
theorem dL_isWhole_771 : decode cL_isWhole 771 = .ok (.if_icmp .ne 14, 3) := by decide +kernel
theorem dL_isWhole_774 : decode cL_isWhole 774 = .ok (.iload 11, 2) := by decide +kernel
theorem dL_isWhole_776 : decode cL_isWhole 776 = .ok (.iload 12, 2) := by decide +kernel
theorem dL_isWhole_778 : decode cL_isWhole 778 = .ok (.if_icmp .ge 7, 3) := by decide +kernel
theorem dL_isWhole_781 : decode cL_isWhole 781 = .ok (.iconst 1, 1) := by decide +kernel
theorem dL_isWhole_782 : decode cL_isWhole 782 = .ok (.goto 4, 3) := by decide +kernel
theorem dL_isWhole_785 : decode cL_isWhole 785 = .ok (.iconst 0, 1) := by decide +kernel
theorem dL_isWhole_786 : decode cL_isWhole 786 = .ok (.istore 7, 2) := by decide +kernel
theorem dL_isWhole_788 : decode cL_isWhole 788 = .ok (.iinc 10 1, 3) := by decide +kernel
theorem dL_isWhole_791 : decode cL_isWhole 791 = .ok (.goto (-84), 3) := by decide +kernel
theorem dL_isWhole_794 : decode cL_isWhole 794 = .ok (.iload 7, 2) := by decide +kernel
theorem dL_isWhole_796 : decode cL_isWhole 796 = .ok (.ifCond .eq 32, 3) := by decide +kernel
theorem dL_isWhole_799 : decode cL_isWhole 799 = .ok (.aload_n 0, 1) := by decide +kernel
theorem dL_isWhole_800 : decode cL_isWhole 800 = .ok (.iconst 0, 1) := by decide +kernel
theorem dL_isWhole_801 : decode cL_isWhole 801 = .ok (.iconst 1, 1) := by decide +kernel
theorem dL_isWhole_802 : decode cL_isWhole 802 = .ok (.invokevirtual 19, 3) := by decide +kernel
theorem dL_isWhole_805 : decode cL_isWhole 805 = .ok (.aload_n 0, 1) := by decide +kernel
theorem dL_isWhole_806 : decode cL_isWhole 806 = .ok (.iconst 1, 1) := by decide +kernel
theorem dL_isWhole_807 : decode cL_isWhole 807 = .ok (.iconst 1, 1) := by decide +kernel
theorem dL_isWhole_808 : decode cL_isWhole 808 = .ok (.invokevirtual 19, 3) := by decide +kernel
theorem dL_isWhole_811 : decode cL_isWhole 811 = .ok (.iadd, 1) := by decide +kernel
theorem dL_isWhole_812 : decode cL_isWhole 812 = .ok (.aload_n 0, 1) := by decide +kernel
theorem dL_isWhole_813 : decode cL_isWhole 813 = .ok (.iconst 2, 1) := by decide +kernel
theorem dL_isWhole_814 : decode cL_isWhole 814 = .ok (.iconst 1, 1) := by decide +kernel
theorem dL_isWhole_815 : decode cL_isWhole 815 = .ok (.invokevirtual 19, 3) := by decide +kernel
theorem dL_isWhole_818 : decode cL_isWhole 818 = .ok (.iadd, 1) := by decide +kernel
theorem dL_isWhole_819 : decode cL_isWhole 819 = .ok (.iload 5, 2) := by decide +kernel
theorem dL_isWhole_821 : decode cL_isWhole 821 = .ok (.if_icmp .ne 7, 3) := by decide +kernel
theorem dL_isWhole_824 : decode cL_isWhole 824 = .ok (.iconst 1, 1) := by decide +kernel
theorem dL_isWhole_825 : decode cL_isWhole 825 = .ok (.goto 4, 3) := by decide +kernel
theorem dL_isWhole_828 : decode cL_isWhole 828 = .ok (.iconst 0, 1) := by decide +kernel
theorem dL_isWhole_829 : decode cL_isWhole 829 = .ok (.ireturn, 1) := by decide +kernel
theorem dL_refusesAny_0 : decode cL_refusesAny 0 = .ok (.iload_n 1, 1) := by decide +kernel
theorem dL_refusesAny_1 : decode cL_refusesAny 1 = .ok (.iconst 2, 1) := by decide +kernel
theorem dL_refusesAny_2 : decode cL_refusesAny 2 = .ok (.irem, 1) := by decide +kernel
theorem dL_refusesAny_3 : decode cL_refusesAny 3 = .ok (.ifCond .ne 12, 3) := by decide +kernel
theorem dL_refusesAny_6 : decode cL_refusesAny 6 = .ok (.iconst (-1), 1) := by decide +kernel
theorem dL_refusesAny_7 : decode cL_refusesAny 7 = .ok (.iload_n 1, 1) := by decide +kernel
theorem dL_refusesAny_8 : decode cL_refusesAny 8 = .ok (.bipush 99, 2) := by decide +kernel
theorem dL_refusesAny_10 : decode cL_refusesAny 10 = .ok (.irem, 1) := by decide +kernel
theorem dL_refusesAny_11 : decode cL_refusesAny 11 = .ok (.isub, 1) := by decide +kernel
theorem dL_refusesAny_12 : decode cL_refusesAny 12 = .ok (.goto 10, 3) := by decide +kernel
theorem dL_refusesAny_15 : decode cL_refusesAny 15 = .ok (.bipush 60, 2) := by decide +kernel
theorem dL_refusesAny_17 : decode cL_refusesAny 17 = .ok (.iload_n 1, 1) := by decide +kernel
theorem dL_refusesAny_18 : decode cL_refusesAny 18 = .ok (.bipush 99, 2) := by decide +kernel
theorem dL_refusesAny_20 : decode cL_refusesAny 20 = .ok (.irem, 1) := by decide +kernel
theorem dL_refusesAny_21 : decode cL_refusesAny 21 = .ok (.iadd, 1) := by decide +kernel
theorem dL_refusesAny_22 : decode cL_refusesAny 22 = .ok (.istore_n 2, 1) := by decide +kernel
theorem dL_refusesAny_23 : decode cL_refusesAny 23 = .ok (.iload_n 1, 1) := by decide +kernel
theorem dL_refusesAny_24 : decode cL_refusesAny 24 = .ok (.iconst 2, 1) := by decide +kernel
theorem dL_refusesAny_25 : decode cL_refusesAny 25 = .ok (.irem, 1) := by decide +kernel
theorem dL_refusesAny_26 : decode cL_refusesAny 26 = .ok (.ifCond .ne 12, 3) := by decide +kernel
theorem dL_refusesAny_29 : decode cL_refusesAny 29 = .ok (.iconst (-1), 1) := by decide +kernel
theorem dL_refusesAny_30 : decode cL_refusesAny 30 = .ok (.iload_n 1, 1) := by decide +kernel
theorem dL_refusesAny_31 : decode cL_refusesAny 31 = .ok (.bipush 99, 2) := by decide +kernel
theorem dL_refusesAny_33 : decode cL_refusesAny 33 = .ok (.irem, 1) := by decide +kernel
theorem dL_refusesAny_34 : decode cL_refusesAny 34 = .ok (.isub, 1) := by decide +kernel
theorem dL_refusesAny_35 : decode cL_refusesAny 35 = .ok (.goto 9, 3) := by decide +kernel
theorem dL_refusesAny_38 : decode cL_refusesAny 38 = .ok (.iconst 3, 1) := by decide +kernel
theorem dL_refusesAny_39 : decode cL_refusesAny 39 = .ok (.iload_n 1, 1) := by decide +kernel
theorem dL_refusesAny_40 : decode cL_refusesAny 40 = .ok (.bipush 99, 2) := by decide +kernel
theorem dL_refusesAny_42 : decode cL_refusesAny 42 = .ok (.irem, 1) := by decide +kernel
theorem dL_refusesAny_43 : decode cL_refusesAny 43 = .ok (.iadd, 1) := by decide +kernel
