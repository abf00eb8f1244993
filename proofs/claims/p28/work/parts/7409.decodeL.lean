theorem dL_refusesAny_955 : decode cL_refusesAny 955 = .ok (.aload_n 0, 1) := by decide +kernel
theorem dL_refusesAny_956 : decode cL_refusesAny 956 = .ok (.iconst 2, 1) := by decide +kernel
theorem dL_refusesAny_957 : decode cL_refusesAny 957 = .ok (.invokevirtual 76, 3) := by decide +kernel
theorem dL_refusesAny_960 : decode cL_refusesAny 960 = .ok (.sipush (-1002), 3) := by decide +kernel
theorem dL_refusesAny_963 : decode cL_refusesAny 963 = .ok (.if_icmp .ne 7, 3) := by decide +kernel
theorem dL_refusesAny_966 : decode cL_refusesAny 966 = .ok (.iconst 1, 1) := by decide +kernel
theorem dL_refusesAny_967 : decode cL_refusesAny 967 = .ok (.goto 4, 3) := by decide +kernel
theorem dL_refusesAny_970 : decode cL_refusesAny 970 = .ok (.iconst 0, 1) := by decide +kernel
theorem dL_refusesAny_971 : decode cL_refusesAny 971 = .ok (.istore 5, 2) := by decide +kernel
theorem dL_refusesAny_973 : decode cL_refusesAny 973 = .ok (.iload 5, 2) := by decide +kernel
theorem dL_refusesAny_975 : decode cL_refusesAny 975 = .ok (.ifCond .eq 24, 3) := by decide +kernel
theorem dL_refusesAny_978 : decode cL_refusesAny 978 = .ok (.aload_n 0, 1) := by decide +kernel
theorem dL_refusesAny_979 : decode cL_refusesAny 979 = .ok (.invokevirtual 79, 3) := by decide +kernel
theorem dL_refusesAny_982 : decode cL_refusesAny 982 = .ok (.ifCond .ne 17, 3) := by decide +kernel
theorem dL_refusesAny_985 : decode cL_refusesAny 985 = .ok (.aload_n 0, 1) := by decide +kernel
theorem dL_refusesAny_986 : decode cL_refusesAny 986 = .ok (.invokevirtual 83, 3) := by decide +kernel
theorem dL_refusesAny_989 : decode cL_refusesAny 989 = .ok (.sipush (-1100), 3) := by decide +kernel
theorem dL_refusesAny_992 : decode cL_refusesAny 992 = .ok (.if_icmp .ne 7, 3) := by decide +kernel
theorem dL_refusesAny_995 : decode cL_refusesAny 995 = .ok (.iconst 1, 1) := by decide +kernel
theorem dL_refusesAny_996 : decode cL_refusesAny 996 = .ok (.goto 4, 3) := by decide +kernel
theorem dL_refusesAny_999 : decode cL_refusesAny 999 = .ok (.iconst 0, 1) := by decide +kernel
theorem dL_refusesAny_1000 : decode cL_refusesAny 1000 = .ok (.ireturn, 1) := by decide +kernel
theorem dL_refuses_0 : decode cL_refuses 0 = .ok (.aload_n 0, 1) := by decide +kernel
theorem dL_refuses_1 : decode cL_refuses 1 = .ok (.invokestatic 86, 3) := by decide +kernel
theorem dL_refuses_4 : decode cL_refuses 4 = .ok (.lstore_n 2, 1) := by decide +kernel
theorem dL_refuses_5 : decode cL_refuses 5 = .ok (.aload_n 0, 1) := by decide +kernel
theorem dL_refuses_6 : decode cL_refuses 6 = .ok (.bipush 10, 2) := by decide +kernel
theorem dL_refuses_8 : decode cL_refuses 8 = .ok (.invokevirtual 13, 3) := by decide +kernel
theorem dL_refuses_11 : decode cL_refuses 11 = .ok (.istore 4, 2) := by decide +kernel
theorem dL_refuses_13 : decode cL_refuses 13 = .ok (.aload_n 0, 1) := by decide +kernel
theorem dL_refuses_14 : decode cL_refuses 14 = .ok (.iload_n 1, 1) := by decide +kernel
theorem dL_refuses_15 : decode cL_refuses 15 = .ok (.invokestatic 90, 3) := by decide +kernel
theorem dL_refuses_18 : decode cL_refuses 18 = .ok (.ifCond .eq 27, 3) := by decide +kernel
theorem dL_refuses_21 : decode cL_refuses 21 = .ok (.aload_n 0, 1) := by decide +kernel
theorem dL_refuses_22 : decode cL_refuses 22 = .ok (.invokestatic 86, 3) := by decide +kernel
theorem dL_refuses_25 : decode cL_refuses 25 = .ok (.lload_n 2, 1) := by decide +kernel
theorem dL_refuses_26 : decode cL_refuses 26 = .ok (.lcmp, 1) := by decide +kernel
theorem dL_refuses_27 : decode cL_refuses 27 = .ok (.ifCond .ne 18, 3) := by decide +kernel
theorem dL_refuses_30 : decode cL_refuses 30 = .ok (.aload_n 0, 1) := by decide +kernel
theorem dL_refuses_31 : decode cL_refuses 31 = .ok (.bipush 10, 2) := by decide +kernel
theorem dL_refuses_33 : decode cL_refuses 33 = .ok (.invokevirtual 13, 3) := by decide +kernel
theorem dL_refuses_36 : decode cL_refuses 36 = .ok (.iload 4, 2) := by decide +kernel
theorem dL_refuses_38 : decode cL_refuses 38 = .ok (.if_icmp .ne 7, 3) := by decide +kernel
theorem dL_refuses_41 : decode cL_refuses 41 = .ok (.iconst 1, 1) := by decide +kernel
theorem dL_refuses_42 : decode cL_refuses 42 = .ok (.goto 4, 3) := by decide +kernel
theorem dL_refuses_45 : decode cL_refuses 45 = .ok (.iconst 0, 1) := by decide +kernel
theorem dL_refuses_46 : decode cL_refuses 46 = .ok (.ireturn, 1) := by decide +kernel
theorem dL_isNew_0 : decode cL_isNew 0 = .ok (.aload_n 0, 1) := by decide +kernel
theorem dL_isNew_1 : decode cL_isNew 1 = .ok (.iload_n 2, 1) := by decide +kernel
theorem dL_isNew_2 : decode cL_isNew 2 = .ok (.iconst 0, 1) := by decide +kernel
theorem dL_isNew_3 : decode cL_isNew 3 = .ok (.invokevirtual 26, 3) := by decide +kernel
theorem dL_isNew_6 : decode cL_isNew 6 = .ok (.istore_n 3, 1) := by decide +kernel
theorem dL_isNew_7 : decode cL_isNew 7 = .ok (.iload_n 1, 1) := by decide +kernel
theorem dL_isNew_8 : decode cL_isNew 8 = .ok (.bipush 10, 2) := by decide +kernel
theorem dL_isNew_10 : decode cL_isNew 10 = .ok (.irem, 1) := by decide +kernel
theorem dL_isNew_11 : decode cL_isNew 11 = .ok (.bipush 7, 2) := by decide +kernel
theorem dL_isNew_13 : decode cL_isNew 13 = .ok (.imul, 1) := by decide +kernel
theorem dL_isNew_14 : decode cL_isNew 14 = .ok (.bipush 10, 2) := by decide +kernel
theorem dL_isNew_16 : decode cL_isNew 16 = .ok (.irem, 1) := by decide +kernel
theorem dL_isNew_17 : decode cL_isNew 17 = .ok (.istore 4, 2) := by decide +kernel
theorem dL_isNew_19 : decode cL_isNew 19 = .ok (.iload_n 3, 1) := by decide +kernel
theorem dL_isNew_20 : decode cL_isNew 20 = .ok (.iload_n 3, 1) := by decide +kernel
theorem dL_isNew_21 : decode cL_isNew 21 = .ok (.aload_n 0, 1) := by decide +kernel
theorem dL_isNew_22 : decode cL_isNew 22 = .ok (.iload_n 2, 1) := by decide +kernel
theorem dL_isNew_23 : decode cL_isNew 23 = .ok (.iconst 1, 1) := by decide +kernel
theorem dL_isNew_24 : decode cL_isNew 24 = .ok (.invokevirtual 26, 3) := by decide +kernel
theorem dL_isNew_27 : decode cL_isNew 27 = .ok (.imul, 1) := by decide +kernel
theorem dL_isNew_28 : decode cL_isNew 28 = .ok (.iload 4, 2) := by decide +kernel
theorem dL_isNew_30 : decode cL_isNew 30 = .ok (.imul, 1) := by decide +kernel
theorem dL_isNew_31 : decode cL_isNew 31 = .ok (.sipush 1000, 3) := by decide +kernel
theorem dL_isNew_34 : decode cL_isNew 34 = .ok (.idiv, 1) := by decide +kernel
theorem dL_isNew_35 : decode cL_isNew 35 = .ok (.isub, 1) := by decide +kernel
theorem dL_isNew_36 : decode cL_isNew 36 = .ok (.istore 5, 2) := by decide +kernel
theorem dL_isNew_38 : decode cL_isNew 38 = .ok (.iload 4, 2) := by decide +kernel
theorem dL_isNew_40 : decode cL_isNew 40 = .ok (.bipush 9, 2) := by decide +kernel
theorem dL_isNew_42 : decode cL_isNew 42 = .ok (.if_icmp .ge 8, 3) := by decide +kernel
theorem dL_isNew_45 : decode cL_isNew 45 = .ok (.iload 5, 2) := by decide +kernel
theorem dL_isNew_47 : decode cL_isNew 47 = .ok (.goto 8, 3) := by decide +kernel
theorem dL_isNew_50 : decode cL_isNew 50 = .ok (.iload 5, 2) := by decide +kernel
theorem dL_isNew_52 : decode cL_isNew 52 = .ok (.bipush 10, 2) := by decide +kernel
theorem dL_isNew_54 : decode cL_isNew 54 = .ok (.idiv, 1) := by decide +kernel
theorem dL_isNew_55 : decode cL_isNew 55 = .ok (.istore 6, 2) := by decide +kernel
theorem dL_isNew_57 : decode cL_isNew 57 = .ok (.aload_n 0, 1) := by decide +kernel
theorem dL_isNew_58 : decode cL_isNew 58 = .ok (.iload_n 1, 1) := by decide +kernel
theorem dL_isNew_59 : decode cL_isNew 59 = .ok (.iconst 0, 1) := by decide +kernel
theorem dL_isNew_60 : decode cL_isNew 60 = .ok (.invokevirtual 29, 3) := by decide +kernel
theorem dL_isNew_63 : decode cL_isNew 63 = .ok (.iload_n 2, 1) := by decide +kernel
theorem dL_isNew_64 : decode cL_isNew 64 = .ok (.if_icmp .ne 46, 3) := by decide +kernel
theorem dL_isNew_67 : decode cL_isNew 67 = .ok (.aload_n 0, 1) := by decide +kernel
theorem dL_isNew_68 : decode cL_isNew 68 = .ok (.iload_n 1, 1) := by decide +kernel
theorem dL_isNew_69 : decode cL_isNew 69 = .ok (.iconst 3, 1) := by decide +kernel
theorem dL_isNew_70 : decode cL_isNew 70 = .ok (.invokevirtual 29, 3) := by decide +kernel
theorem dL_isNew_73 : decode cL_isNew 73 = .ok (.iload 6, 2) := by decide +kernel
theorem dL_isNew_75 : decode cL_isNew 75 = .ok (.iconst 1, 1) := by decide +kernel
theorem dL_isNew_76 : decode cL_isNew 76 = .ok (.if_icmp .le 8, 3) := by decide +kernel
theorem dL_isNew_79 : decode cL_isNew 79 = .ok (.iload 6, 2) := by decide +kernel
theorem dL_isNew_81 : decode cL_isNew 81 = .ok (.goto 4, 3) := by decide +kernel
theorem dL_isNew_84 : decode cL_isNew 84 = .ok (.iconst 1, 1) := by decide +kernel
theorem dL_isNew_85 : decode cL_isNew 85 = .ok (.if_icmp .ne 25, 3) := by decide +kernel
theorem dL_isNew_88 : decode cL_isNew 88 = .ok (.aload_n 0, 1) := by decide +kernel
theorem dL_isNew_89 : decode cL_isNew 89 = .ok (.iload_n 1, 1) := by decide +kernel
theorem dL_isNew_90 : decode cL_isNew 90 = .ok (.iconst 4, 1) := by decide +kernel
theorem dL_isNew_91 : decode cL_isNew 91 = .ok (.invokevirtual 29, 3) := by decide +kernel
theorem dL_isNew_94 : decode cL_isNew 94 = .ok (.ifCond .ne 16, 3) := by decide +kernel
theorem dL_isNew_97 : decode cL_isNew 97 = .ok (.aload_n 0, 1) := by decide +kernel
theorem dL_isNew_98 : decode cL_isNew 98 = .ok (.iload_n 1, 1) := by decide +kernel
theorem dL_isNew_99 : decode cL_isNew 99 = .ok (.iconst 5, 1) := by decide +kernel
theorem dL_isNew_100 : decode cL_isNew 100 = .ok (.invokevirtual 29, 3) := by decide +kernel
theorem dL_isNew_103 : decode cL_isNew 103 = .ok (.ifCond .ne 7, 3) := by decide +kernel
theorem dL_isNew_106 : decode cL_isNew 106 = .ok (.iconst 1, 1) := by decide +kernel
theorem dL_isNew_107 : decode cL_isNew 107 = .ok (.goto 4, 3) := by decide +kernel
theorem dL_isNew_110 : decode cL_isNew 110 = .ok (.iconst 0, 1) := by decide +kernel
theorem dL_isNew_111 : decode cL_isNew 111 = .ok (.ireturn, 1) := by decide +kernel
theorem dL_put_0 : decode cL_put 0 = .ok (.iload_n 1, 1) := by decide +kernel
theorem dL_put_1 : decode cL_put 1 = .ok (.iconst 3, 1) := by decide +kernel
theorem dL_put_2 : decode cL_put 2 = .ok (.irem, 1) := by decide +kernel
theorem dL_put_3 : decode cL_put 3 = .ok (.istore_n 2, 1) := by decide +kernel
theorem dL_put_4 : decode cL_put 4 = .ok (.iload_n 1, 1) := by decide +kernel
theorem dL_put_5 : decode cL_put 5 = .ok (.iconst 3, 1) := by decide +kernel
theorem dL_put_6 : decode cL_put 6 = .ok (.idiv, 1) := by decide +kernel
