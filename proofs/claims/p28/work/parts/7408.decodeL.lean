theorem dL_refusesAny_717 : decode cL_refusesAny 717 = .ok (.sipush (-1002), 3) := by decide +kernel
theorem dL_refusesAny_720 : decode cL_refusesAny 720 = .ok (.if_icmp .ne 250, 3) := by decide +kernel
theorem dL_refusesAny_723 : decode cL_refusesAny 723 = .ok (.aload_n 0, 1) := by decide +kernel
theorem dL_refusesAny_724 : decode cL_refusesAny 724 = .ok (.iload_n 3, 1) := by decide +kernel
theorem dL_refusesAny_725 : decode cL_refusesAny 725 = .ok (.iconst 0, 1) := by decide +kernel
theorem dL_refusesAny_726 : decode cL_refusesAny 726 = .ok (.invokevirtual 23, 3) := by decide +kernel
theorem dL_refusesAny_729 : decode cL_refusesAny 729 = .ok (.sipush (-1001), 3) := by decide +kernel
theorem dL_refusesAny_732 : decode cL_refusesAny 732 = .ok (.if_icmp .ne 238, 3) := by decide +kernel
theorem dL_refusesAny_735 : decode cL_refusesAny 735 = .ok (.aload_n 0, 1) := by decide +kernel
theorem dL_refusesAny_736 : decode cL_refusesAny 736 = .ok (.iconst 0, 1) := by decide +kernel
theorem dL_refusesAny_737 : decode cL_refusesAny 737 = .ok (.iload 4, 2) := by decide +kernel
theorem dL_refusesAny_739 : decode cL_refusesAny 739 = .ok (.invokevirtual 23, 3) := by decide +kernel
theorem dL_refusesAny_742 : decode cL_refusesAny 742 = .ok (.sipush (-1001), 3) := by decide +kernel
theorem dL_refusesAny_745 : decode cL_refusesAny 745 = .ok (.if_icmp .ne 225, 3) := by decide +kernel
theorem dL_refusesAny_748 : decode cL_refusesAny 748 = .ok (.aload_n 0, 1) := by decide +kernel
theorem dL_refusesAny_749 : decode cL_refusesAny 749 = .ok (.iload_n 1, 1) := by decide +kernel
theorem dL_refusesAny_750 : decode cL_refusesAny 750 = .ok (.iconst 2, 1) := by decide +kernel
theorem dL_refusesAny_751 : decode cL_refusesAny 751 = .ok (.irem, 1) := by decide +kernel
theorem dL_refusesAny_752 : decode cL_refusesAny 752 = .ok (.ifCond .ne 7, 3) := by decide +kernel
theorem dL_refusesAny_755 : decode cL_refusesAny 755 = .ok (.iconst (-1), 1) := by decide +kernel
theorem dL_refusesAny_756 : decode cL_refusesAny 756 = .ok (.goto 5, 3) := by decide +kernel
theorem dL_refusesAny_759 : decode cL_refusesAny 759 = .ok (.bipush 6, 2) := by decide +kernel
theorem dL_refusesAny_761 : decode cL_refusesAny 761 = .ok (.bipush 99, 2) := by decide +kernel
theorem dL_refusesAny_763 : decode cL_refusesAny 763 = .ok (.invokevirtual 26, 3) := by decide +kernel
theorem dL_refusesAny_766 : decode cL_refusesAny 766 = .ok (.sipush (-1001), 3) := by decide +kernel
theorem dL_refusesAny_769 : decode cL_refusesAny 769 = .ok (.if_icmp .ne 201, 3) := by decide +kernel
theorem dL_refusesAny_772 : decode cL_refusesAny 772 = .ok (.aload_n 0, 1) := by decide +kernel
theorem dL_refusesAny_773 : decode cL_refusesAny 773 = .ok (.iconst 0, 1) := by decide +kernel
theorem dL_refusesAny_774 : decode cL_refusesAny 774 = .ok (.iload_n 1, 1) := by decide +kernel
theorem dL_refusesAny_775 : decode cL_refusesAny 775 = .ok (.iconst 2, 1) := by decide +kernel
theorem dL_refusesAny_776 : decode cL_refusesAny 776 = .ok (.irem, 1) := by decide +kernel
theorem dL_refusesAny_777 : decode cL_refusesAny 777 = .ok (.ifCond .ne 7, 3) := by decide +kernel
theorem dL_refusesAny_780 : decode cL_refusesAny 780 = .ok (.iconst (-1), 1) := by decide +kernel
theorem dL_refusesAny_781 : decode cL_refusesAny 781 = .ok (.goto 5, 3) := by decide +kernel
theorem dL_refusesAny_784 : decode cL_refusesAny 784 = .ok (.bipush 7, 2) := by decide +kernel
theorem dL_refusesAny_786 : decode cL_refusesAny 786 = .ok (.invokevirtual 26, 3) := by decide +kernel
theorem dL_refusesAny_789 : decode cL_refusesAny 789 = .ok (.sipush (-1002), 3) := by decide +kernel
theorem dL_refusesAny_792 : decode cL_refusesAny 792 = .ok (.if_icmp .ne 178, 3) := by decide +kernel
theorem dL_refusesAny_795 : decode cL_refusesAny 795 = .ok (.aload_n 0, 1) := by decide +kernel
theorem dL_refusesAny_796 : decode cL_refusesAny 796 = .ok (.iload_n 1, 1) := by decide +kernel
theorem dL_refusesAny_797 : decode cL_refusesAny 797 = .ok (.iconst 2, 1) := by decide +kernel
theorem dL_refusesAny_798 : decode cL_refusesAny 798 = .ok (.irem, 1) := by decide +kernel
theorem dL_refusesAny_799 : decode cL_refusesAny 799 = .ok (.ifCond .ne 7, 3) := by decide +kernel
theorem dL_refusesAny_802 : decode cL_refusesAny 802 = .ok (.iconst (-1), 1) := by decide +kernel
theorem dL_refusesAny_803 : decode cL_refusesAny 803 = .ok (.goto 5, 3) := by decide +kernel
theorem dL_refusesAny_806 : decode cL_refusesAny 806 = .ok (.bipush 6, 2) := by decide +kernel
theorem dL_refusesAny_808 : decode cL_refusesAny 808 = .ok (.iconst (-1), 1) := by decide +kernel
theorem dL_refusesAny_809 : decode cL_refusesAny 809 = .ok (.invokevirtual 37, 3) := by decide +kernel
theorem dL_refusesAny_812 : decode cL_refusesAny 812 = .ok (.sipush (-1001), 3) := by decide +kernel
theorem dL_refusesAny_815 : decode cL_refusesAny 815 = .ok (.if_icmp .ne 155, 3) := by decide +kernel
theorem dL_refusesAny_818 : decode cL_refusesAny 818 = .ok (.aload_n 0, 1) := by decide +kernel
theorem dL_refusesAny_819 : decode cL_refusesAny 819 = .ok (.iconst 0, 1) := by decide +kernel
theorem dL_refusesAny_820 : decode cL_refusesAny 820 = .ok (.iload_n 1, 1) := by decide +kernel
theorem dL_refusesAny_821 : decode cL_refusesAny 821 = .ok (.iconst 2, 1) := by decide +kernel
theorem dL_refusesAny_822 : decode cL_refusesAny 822 = .ok (.irem, 1) := by decide +kernel
theorem dL_refusesAny_823 : decode cL_refusesAny 823 = .ok (.ifCond .ne 7, 3) := by decide +kernel
theorem dL_refusesAny_826 : decode cL_refusesAny 826 = .ok (.iconst (-1), 1) := by decide +kernel
theorem dL_refusesAny_827 : decode cL_refusesAny 827 = .ok (.goto 5, 3) := by decide +kernel
theorem dL_refusesAny_830 : decode cL_refusesAny 830 = .ok (.ldc 69, 2) := by decide +kernel
theorem dL_refusesAny_832 : decode cL_refusesAny 832 = .ok (.invokevirtual 37, 3) := by decide +kernel
theorem dL_refusesAny_835 : decode cL_refusesAny 835 = .ok (.sipush (-1002), 3) := by decide +kernel
theorem dL_refusesAny_838 : decode cL_refusesAny 838 = .ok (.if_icmp .ne 132, 3) := by decide +kernel
theorem dL_refusesAny_841 : decode cL_refusesAny 841 = .ok (.aload_n 0, 1) := by decide +kernel
theorem dL_refusesAny_842 : decode cL_refusesAny 842 = .ok (.iconst (-1), 1) := by decide +kernel
theorem dL_refusesAny_843 : decode cL_refusesAny 843 = .ok (.iload_n 1, 1) := by decide +kernel
theorem dL_refusesAny_844 : decode cL_refusesAny 844 = .ok (.bipush 99, 2) := by decide +kernel
theorem dL_refusesAny_846 : decode cL_refusesAny 846 = .ok (.irem, 1) := by decide +kernel
theorem dL_refusesAny_847 : decode cL_refusesAny 847 = .ok (.isub, 1) := by decide +kernel
theorem dL_refusesAny_848 : decode cL_refusesAny 848 = .ok (.invokevirtual 40, 3) := by decide +kernel
theorem dL_refusesAny_851 : decode cL_refusesAny 851 = .ok (.sipush (-1002), 3) := by decide +kernel
theorem dL_refusesAny_854 : decode cL_refusesAny 854 = .ok (.if_icmp .ne 116, 3) := by decide +kernel
theorem dL_refusesAny_857 : decode cL_refusesAny 857 = .ok (.aload_n 0, 1) := by decide +kernel
theorem dL_refusesAny_858 : decode cL_refusesAny 858 = .ok (.iload_n 2, 1) := by decide +kernel
theorem dL_refusesAny_859 : decode cL_refusesAny 859 = .ok (.iconst 0, 1) := by decide +kernel
theorem dL_refusesAny_860 : decode cL_refusesAny 860 = .ok (.invokevirtual 70, 3) := by decide +kernel
theorem dL_refusesAny_863 : decode cL_refusesAny 863 = .ok (.sipush (-1001), 3) := by decide +kernel
theorem dL_refusesAny_866 : decode cL_refusesAny 866 = .ok (.if_icmp .ne 104, 3) := by decide +kernel
theorem dL_refusesAny_869 : decode cL_refusesAny 869 = .ok (.aload_n 0, 1) := by decide +kernel
theorem dL_refusesAny_870 : decode cL_refusesAny 870 = .ok (.iconst 1, 1) := by decide +kernel
theorem dL_refusesAny_871 : decode cL_refusesAny 871 = .ok (.invokevirtual 13, 3) := by decide +kernel
theorem dL_refusesAny_874 : decode cL_refusesAny 874 = .ok (.ifCond .eq 27, 3) := by decide +kernel
theorem dL_refusesAny_877 : decode cL_refusesAny 877 = .ok (.aload_n 0, 1) := by decide +kernel
theorem dL_refusesAny_878 : decode cL_refusesAny 878 = .ok (.iconst 0, 1) := by decide +kernel
theorem dL_refusesAny_879 : decode cL_refusesAny 879 = .ok (.iload_n 1, 1) := by decide +kernel
theorem dL_refusesAny_880 : decode cL_refusesAny 880 = .ok (.iconst 2, 1) := by decide +kernel
theorem dL_refusesAny_881 : decode cL_refusesAny 881 = .ok (.irem, 1) := by decide +kernel
theorem dL_refusesAny_882 : decode cL_refusesAny 882 = .ok (.ifCond .ne 7, 3) := by decide +kernel
theorem dL_refusesAny_885 : decode cL_refusesAny 885 = .ok (.iconst 0, 1) := by decide +kernel
theorem dL_refusesAny_886 : decode cL_refusesAny 886 = .ok (.goto 6, 3) := by decide +kernel
theorem dL_refusesAny_889 : decode cL_refusesAny 889 = .ok (.sipush 301, 3) := by decide +kernel
theorem dL_refusesAny_892 : decode cL_refusesAny 892 = .ok (.invokevirtual 70, 3) := by decide +kernel
theorem dL_refusesAny_895 : decode cL_refusesAny 895 = .ok (.sipush (-1002), 3) := by decide +kernel
theorem dL_refusesAny_898 : decode cL_refusesAny 898 = .ok (.if_icmp .ne 72, 3) := by decide +kernel
theorem dL_refusesAny_901 : decode cL_refusesAny 901 = .ok (.aload_n 0, 1) := by decide +kernel
theorem dL_refusesAny_902 : decode cL_refusesAny 902 = .ok (.iload_n 2, 1) := by decide +kernel
theorem dL_refusesAny_903 : decode cL_refusesAny 903 = .ok (.invokevirtual 32, 3) := by decide +kernel
theorem dL_refusesAny_906 : decode cL_refusesAny 906 = .ok (.sipush (-1001), 3) := by decide +kernel
theorem dL_refusesAny_909 : decode cL_refusesAny 909 = .ok (.if_icmp .ne 61, 3) := by decide +kernel
theorem dL_refusesAny_912 : decode cL_refusesAny 912 = .ok (.aload_n 0, 1) := by decide +kernel
theorem dL_refusesAny_913 : decode cL_refusesAny 913 = .ok (.iload_n 1, 1) := by decide +kernel
theorem dL_refusesAny_914 : decode cL_refusesAny 914 = .ok (.iconst 2, 1) := by decide +kernel
theorem dL_refusesAny_915 : decode cL_refusesAny 915 = .ok (.irem, 1) := by decide +kernel
theorem dL_refusesAny_916 : decode cL_refusesAny 916 = .ok (.ifCond .ne 7, 3) := by decide +kernel
theorem dL_refusesAny_919 : decode cL_refusesAny 919 = .ok (.iconst (-1), 1) := by decide +kernel
theorem dL_refusesAny_920 : decode cL_refusesAny 920 = .ok (.goto 4, 3) := by decide +kernel
theorem dL_refusesAny_923 : decode cL_refusesAny 923 = .ok (.iconst 2, 1) := by decide +kernel
theorem dL_refusesAny_924 : decode cL_refusesAny 924 = .ok (.invokevirtual 73, 3) := by decide +kernel
theorem dL_refusesAny_927 : decode cL_refusesAny 927 = .ok (.sipush (-1002), 3) := by decide +kernel
theorem dL_refusesAny_930 : decode cL_refusesAny 930 = .ok (.if_icmp .ne 40, 3) := by decide +kernel
theorem dL_refusesAny_933 : decode cL_refusesAny 933 = .ok (.aload_n 0, 1) := by decide +kernel
theorem dL_refusesAny_934 : decode cL_refusesAny 934 = .ok (.iload_n 1, 1) := by decide +kernel
theorem dL_refusesAny_935 : decode cL_refusesAny 935 = .ok (.iconst 2, 1) := by decide +kernel
theorem dL_refusesAny_936 : decode cL_refusesAny 936 = .ok (.irem, 1) := by decide +kernel
theorem dL_refusesAny_937 : decode cL_refusesAny 937 = .ok (.ifCond .ne 7, 3) := by decide +kernel
theorem dL_refusesAny_940 : decode cL_refusesAny 940 = .ok (.iconst (-1), 1) := by decide +kernel
theorem dL_refusesAny_941 : decode cL_refusesAny 941 = .ok (.goto 5, 3) := by decide +kernel
theorem dL_refusesAny_944 : decode cL_refusesAny 944 = .ok (.bipush 12, 2) := by decide +kernel
theorem dL_refusesAny_946 : decode cL_refusesAny 946 = .ok (.invokevirtual 13, 3) := by decide +kernel
theorem dL_refusesAny_949 : decode cL_refusesAny 949 = .ok (.sipush (-1002), 3) := by decide +kernel
theorem dL_refusesAny_952 : decode cL_refusesAny 952 = .ok (.if_icmp .ne 18, 3) := by decide +kernel
