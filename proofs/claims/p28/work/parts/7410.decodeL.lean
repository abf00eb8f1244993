theorem dL_put_7 : decode cL_put 7 = .ok (.bipush 8, 2) := by decide +kernel
theorem dL_put_9 : decode cL_put 9 = .ok (.irem, 1) := by decide +kernel
theorem dL_put_10 : decode cL_put 10 = .ok (.istore_n 3, 1) := by decide +kernel
theorem dL_put_11 : decode cL_put 11 = .ok (.iload_n 1, 1) := by decide +kernel
theorem dL_put_12 : decode cL_put 12 = .ok (.bipush 24, 2) := by decide +kernel
theorem dL_put_14 : decode cL_put 14 = .ok (.idiv, 1) := by decide +kernel
theorem dL_put_15 : decode cL_put 15 = .ok (.bipush 6, 2) := by decide +kernel
theorem dL_put_17 : decode cL_put 17 = .ok (.irem, 1) := by decide +kernel
theorem dL_put_18 : decode cL_put 18 = .ok (.istore 4, 2) := by decide +kernel
theorem dL_put_20 : decode cL_put 20 = .ok (.aload_n 0, 1) := by decide +kernel
theorem dL_put_21 : decode cL_put 21 = .ok (.iconst 1, 1) := by decide +kernel
theorem dL_put_22 : decode cL_put 22 = .ok (.invokevirtual 13, 3) := by decide +kernel
theorem dL_put_25 : decode cL_put 25 = .ok (.istore 5, 2) := by decide +kernel
theorem dL_put_27 : decode cL_put 27 = .ok (.aload_n 0, 1) := by decide +kernel
theorem dL_put_28 : decode cL_put 28 = .ok (.iload_n 2, 1) := by decide +kernel
theorem dL_put_29 : decode cL_put 29 = .ok (.iload_n 3, 1) := by decide +kernel
theorem dL_put_30 : decode cL_put 30 = .ok (.invokevirtual 23, 3) := by decide +kernel
theorem dL_put_33 : decode cL_put 33 = .ok (.istore 6, 2) := by decide +kernel
theorem dL_put_35 : decode cL_put 35 = .ok (.aload_n 0, 1) := by decide +kernel
theorem dL_put_36 : decode cL_put 36 = .ok (.iload_n 2, 1) := by decide +kernel
theorem dL_put_37 : decode cL_put 37 = .ok (.iload_n 3, 1) := by decide +kernel
theorem dL_put_38 : decode cL_put 38 = .ok (.iload 4, 2) := by decide +kernel
theorem dL_put_40 : decode cL_put 40 = .ok (.invokevirtual 47, 3) := by decide +kernel
theorem dL_put_43 : decode cL_put 43 = .ok (.istore 7, 2) := by decide +kernel
theorem dL_put_45 : decode cL_put 45 = .ok (.iload 6, 2) := by decide +kernel
theorem dL_put_47 : decode cL_put 47 = .ok (.ifCond .lt 9, 3) := by decide +kernel
theorem dL_put_50 : decode cL_put 50 = .ok (.sipush (-1004), 3) := by decide +kernel
theorem dL_put_53 : decode cL_put 53 = .ok (.goto 18, 3) := by decide +kernel
theorem dL_put_56 : decode cL_put 56 = .ok (.iload 5, 2) := by decide +kernel
theorem dL_put_58 : decode cL_put 58 = .ok (.bipush 60, 2) := by decide +kernel
theorem dL_put_60 : decode cL_put 60 = .ok (.if_icmp .ne 9, 3) := by decide +kernel
theorem dL_put_63 : decode cL_put 63 = .ok (.sipush (-1003), 3) := by decide +kernel
theorem dL_put_66 : decode cL_put 66 = .ok (.goto 5, 3) := by decide +kernel
theorem dL_put_69 : decode cL_put 69 = .ok (.iload 5, 2) := by decide +kernel
theorem dL_put_71 : decode cL_put 71 = .ok (.istore 8, 2) := by decide +kernel
theorem dL_put_73 : decode cL_put 73 = .ok (.iload 7, 2) := by decide +kernel
theorem dL_put_75 : decode cL_put 75 = .ok (.iload 8, 2) := by decide +kernel
theorem dL_put_77 : decode cL_put 77 = .ok (.if_icmp .ne 35, 3) := by decide +kernel
theorem dL_put_80 : decode cL_put 80 = .ok (.iload 7, 2) := by decide +kernel
theorem dL_put_82 : decode cL_put 82 = .ok (.ifCond .lt 25, 3) := by decide +kernel
theorem dL_put_85 : decode cL_put 85 = .ok (.aload_n 0, 1) := by decide +kernel
theorem dL_put_86 : decode cL_put 86 = .ok (.iload_n 2, 1) := by decide +kernel
theorem dL_put_87 : decode cL_put 87 = .ok (.iload_n 3, 1) := by decide +kernel
theorem dL_put_88 : decode cL_put 88 = .ok (.invokevirtual 23, 3) := by decide +kernel
theorem dL_put_91 : decode cL_put 91 = .ok (.iload 7, 2) := by decide +kernel
theorem dL_put_93 : decode cL_put 93 = .ok (.if_icmp .ne 19, 3) := by decide +kernel
theorem dL_put_96 : decode cL_put 96 = .ok (.aload_n 0, 1) := by decide +kernel
theorem dL_put_97 : decode cL_put 97 = .ok (.iload 7, 2) := by decide +kernel
theorem dL_put_99 : decode cL_put 99 = .ok (.iload 4, 2) := by decide +kernel
theorem dL_put_101 : decode cL_put 101 = .ok (.invokestatic 94, 3) := by decide +kernel
theorem dL_put_104 : decode cL_put 104 = .ok (.ifCond .eq 8, 3) := by decide +kernel
theorem dL_put_107 : decode cL_put 107 = .ok (.iload 7, 2) := by decide +kernel
theorem dL_put_109 : decode cL_put 109 = .ok (.goto 5, 3) := by decide +kernel
theorem dL_put_112 : decode cL_put 112 = .ok (.bipush (-9), 2) := by decide +kernel
theorem dL_put_114 : decode cL_put 114 = .ok (.ireturn, 1) := by decide +kernel
theorem dL_move_0 : decode cL_move 0 = .ok (.iload_n 1, 1) := by decide +kernel
theorem dL_move_1 : decode cL_move 1 = .ok (.iconst 3, 1) := by decide +kernel
theorem dL_move_2 : decode cL_move 2 = .ok (.irem, 1) := by decide +kernel
theorem dL_move_3 : decode cL_move 3 = .ok (.istore_n 2, 1) := by decide +kernel
theorem dL_move_4 : decode cL_move 4 = .ok (.iload_n 1, 1) := by decide +kernel
theorem dL_move_5 : decode cL_move 5 = .ok (.iconst 3, 1) := by decide +kernel
theorem dL_move_6 : decode cL_move 6 = .ok (.idiv, 1) := by decide +kernel
theorem dL_move_7 : decode cL_move 7 = .ok (.bipush 8, 2) := by decide +kernel
theorem dL_move_9 : decode cL_move 9 = .ok (.irem, 1) := by decide +kernel
theorem dL_move_10 : decode cL_move 10 = .ok (.istore_n 3, 1) := by decide +kernel
theorem dL_move_11 : decode cL_move 11 = .ok (.iload_n 1, 1) := by decide +kernel
theorem dL_move_12 : decode cL_move 12 = .ok (.bipush 24, 2) := by decide +kernel
theorem dL_move_14 : decode cL_move 14 = .ok (.idiv, 1) := by decide +kernel
theorem dL_move_15 : decode cL_move 15 = .ok (.iconst 3, 1) := by decide +kernel
theorem dL_move_16 : decode cL_move 16 = .ok (.irem, 1) := by decide +kernel
theorem dL_move_17 : decode cL_move 17 = .ok (.istore 4, 2) := by decide +kernel
theorem dL_move_19 : decode cL_move 19 = .ok (.iload_n 1, 1) := by decide +kernel
theorem dL_move_20 : decode cL_move 20 = .ok (.bipush 72, 2) := by decide +kernel
theorem dL_move_22 : decode cL_move 22 = .ok (.idiv, 1) := by decide +kernel
theorem dL_move_23 : decode cL_move 23 = .ok (.bipush 8, 2) := by decide +kernel
theorem dL_move_25 : decode cL_move 25 = .ok (.irem, 1) := by decide +kernel
theorem dL_move_26 : decode cL_move 26 = .ok (.istore 5, 2) := by decide +kernel
theorem dL_move_28 : decode cL_move 28 = .ok (.aload_n 0, 1) := by decide +kernel
theorem dL_move_29 : decode cL_move 29 = .ok (.iload_n 2, 1) := by decide +kernel
theorem dL_move_30 : decode cL_move 30 = .ok (.iload_n 3, 1) := by decide +kernel
theorem dL_move_31 : decode cL_move 31 = .ok (.invokevirtual 23, 3) := by decide +kernel
theorem dL_move_34 : decode cL_move 34 = .ok (.istore 6, 2) := by decide +kernel
theorem dL_move_36 : decode cL_move 36 = .ok (.aload_n 0, 1) := by decide +kernel
theorem dL_move_37 : decode cL_move 37 = .ok (.iload 4, 2) := by decide +kernel
theorem dL_move_39 : decode cL_move 39 = .ok (.iload 5, 2) := by decide +kernel
theorem dL_move_41 : decode cL_move 41 = .ok (.invokevirtual 23, 3) := by decide +kernel
theorem dL_move_44 : decode cL_move 44 = .ok (.istore 7, 2) := by decide +kernel
theorem dL_move_46 : decode cL_move 46 = .ok (.aload_n 0, 1) := by decide +kernel
theorem dL_move_47 : decode cL_move 47 = .ok (.iconst 2, 1) := by decide +kernel
theorem dL_move_48 : decode cL_move 48 = .ok (.invokevirtual 13, 3) := by decide +kernel
theorem dL_move_51 : decode cL_move 51 = .ok (.istore 8, 2) := by decide +kernel
theorem dL_move_53 : decode cL_move 53 = .ok (.iload_n 1, 1) := by decide +kernel
theorem dL_move_54 : decode cL_move 54 = .ok (.sipush 576, 3) := by decide +kernel
theorem dL_move_57 : decode cL_move 57 = .ok (.idiv, 1) := by decide +kernel
theorem dL_move_58 : decode cL_move 58 = .ok (.iconst 3, 1) := by decide +kernel
theorem dL_move_59 : decode cL_move 59 = .ok (.irem, 1) := by decide +kernel
theorem dL_move_60 : decode cL_move 60 = .ok (.ifCond .ne 90, 3) := by decide +kernel
theorem dL_move_63 : decode cL_move 63 = .ok (.aload_n 0, 1) := by decide +kernel
theorem dL_move_64 : decode cL_move 64 = .ok (.iload_n 2, 1) := by decide +kernel
theorem dL_move_65 : decode cL_move 65 = .ok (.iload_n 3, 1) := by decide +kernel
theorem dL_move_66 : decode cL_move 66 = .ok (.invokevirtual 50, 3) := by decide +kernel
theorem dL_move_69 : decode cL_move 69 = .ok (.istore 9, 2) := by decide +kernel
theorem dL_move_71 : decode cL_move 71 = .ok (.iload 9, 2) := by decide +kernel
theorem dL_move_73 : decode cL_move 73 = .ok (.iload 6, 2) := by decide +kernel
theorem dL_move_75 : decode cL_move 75 = .ok (.if_icmp .ne 72, 3) := by decide +kernel
theorem dL_move_78 : decode cL_move 78 = .ok (.aload_n 0, 1) := by decide +kernel
theorem dL_move_79 : decode cL_move 79 = .ok (.iload_n 2, 1) := by decide +kernel
theorem dL_move_80 : decode cL_move 80 = .ok (.iload_n 3, 1) := by decide +kernel
theorem dL_move_81 : decode cL_move 81 = .ok (.invokevirtual 23, 3) := by decide +kernel
theorem dL_move_84 : decode cL_move 84 = .ok (.sipush (-1005), 3) := by decide +kernel
theorem dL_move_87 : decode cL_move 87 = .ok (.if_icmp .ne 60, 3) := by decide +kernel
theorem dL_move_90 : decode cL_move 90 = .ok (.aload_n 0, 1) := by decide +kernel
theorem dL_move_91 : decode cL_move 91 = .ok (.iconst 2, 1) := by decide +kernel
theorem dL_move_92 : decode cL_move 92 = .ok (.invokevirtual 13, 3) := by decide +kernel
theorem dL_move_95 : decode cL_move 95 = .ok (.iload 8, 2) := by decide +kernel
theorem dL_move_97 : decode cL_move 97 = .ok (.iload 6, 2) := by decide +kernel
theorem dL_move_99 : decode cL_move 99 = .ok (.ifCond .ge 7, 3) := by decide +kernel
theorem dL_move_102 : decode cL_move 102 = .ok (.iconst 0, 1) := by decide +kernel
theorem dL_move_103 : decode cL_move 103 = .ok (.goto 4, 3) := by decide +kernel
theorem dL_move_106 : decode cL_move 106 = .ok (.iconst 1, 1) := by decide +kernel
