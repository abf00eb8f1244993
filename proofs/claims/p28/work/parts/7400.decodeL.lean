theorem dL_cell_0 : decode cL_cell 0 = .ok (.iload_n 1, 1) := by decide +kernel
theorem dL_cell_1 : decode cL_cell 1 = .ok (.aload_n 0, 1) := by decide +kernel
theorem dL_cell_2 : decode cL_cell 2 = .ok (.arraylength, 1) := by decide +kernel
theorem dL_cell_3 : decode cL_cell 3 = .ok (.if_icmp .ge 9, 3) := by decide +kernel
theorem dL_cell_6 : decode cL_cell 6 = .ok (.aload_n 0, 1) := by decide +kernel
theorem dL_cell_7 : decode cL_cell 7 = .ok (.iload_n 1, 1) := by decide +kernel
theorem dL_cell_8 : decode cL_cell 8 = .ok (.iaload, 1) := by decide +kernel
theorem dL_cell_9 : decode cL_cell 9 = .ok (.goto 14, 3) := by decide +kernel
theorem dL_cell_12 : decode cL_cell 12 = .ok (.ldc 7, 2) := by decide +kernel
theorem dL_cell_14 : decode cL_cell 14 = .ok (.iload_n 1, 1) := by decide +kernel
theorem dL_cell_15 : decode cL_cell 15 = .ok (.bipush 127, 2) := by decide +kernel
theorem dL_cell_17 : decode cL_cell 17 = .ok (.iadd, 1) := by decide +kernel
theorem dL_cell_18 : decode cL_cell 18 = .ok (.imul, 1) := by decide +kernel
theorem dL_cell_19 : decode cL_cell 19 = .ok (.sipush 26003, 3) := by decide +kernel
theorem dL_cell_22 : decode cL_cell 22 = .ok (.iadd, 1) := by decide +kernel
theorem dL_cell_23 : decode cL_cell 23 = .ok (.ldc 8, 2) := by decide +kernel
theorem dL_cell_25 : decode cL_cell 25 = .ok (.iand, 1) := by decide +kernel
theorem dL_cell_26 : decode cL_cell 26 = .ok (.ireturn, 1) := by decide +kernel
theorem dL_seen_0 : decode cL_seen 0 = .ok (.ldc2_w 9, 3) := by decide +kernel
theorem dL_seen_3 : decode cL_seen 3 = .ok (.lstore_n 1, 1) := by decide +kernel
theorem dL_seen_4 : decode cL_seen 4 = .ok (.iconst 0, 1) := by decide +kernel
theorem dL_seen_5 : decode cL_seen 5 = .ok (.istore_n 3, 1) := by decide +kernel
theorem dL_seen_6 : decode cL_seen 6 = .ok (.iload_n 3, 1) := by decide +kernel
theorem dL_seen_7 : decode cL_seen 7 = .ok (.bipush 10, 2) := by decide +kernel
theorem dL_seen_9 : decode cL_seen 9 = .ok (.if_icmp .ge 22, 3) := by decide +kernel
theorem dL_seen_12 : decode cL_seen 12 = .ok (.ldc2_w 11, 3) := by decide +kernel
theorem dL_seen_15 : decode cL_seen 15 = .ok (.lload_n 1, 1) := by decide +kernel
theorem dL_seen_16 : decode cL_seen 16 = .ok (.lmul, 1) := by decide +kernel
theorem dL_seen_17 : decode cL_seen 17 = .ok (.aload_n 0, 1) := by decide +kernel
theorem dL_seen_18 : decode cL_seen 18 = .ok (.iload_n 3, 1) := by decide +kernel
theorem dL_seen_19 : decode cL_seen 19 = .ok (.invokevirtual 13, 3) := by decide +kernel
theorem dL_seen_22 : decode cL_seen 22 = .ok (.i2l, 1) := by decide +kernel
theorem dL_seen_23 : decode cL_seen 23 = .ok (.ladd, 1) := by decide +kernel
theorem dL_seen_24 : decode cL_seen 24 = .ok (.lstore_n 1, 1) := by decide +kernel
theorem dL_seen_25 : decode cL_seen 25 = .ok (.iinc 3 1, 3) := by decide +kernel
theorem dL_seen_28 : decode cL_seen 28 = .ok (.goto (-22), 3) := by decide +kernel
theorem dL_seen_31 : decode cL_seen 31 = .ok (.iconst 0, 1) := by decide +kernel
theorem dL_seen_32 : decode cL_seen 32 = .ok (.istore_n 3, 1) := by decide +kernel
theorem dL_seen_33 : decode cL_seen 33 = .ok (.iload_n 3, 1) := by decide +kernel
theorem dL_seen_34 : decode cL_seen 34 = .ok (.bipush 24, 2) := by decide +kernel
theorem dL_seen_36 : decode cL_seen 36 = .ok (.if_icmp .ge 47, 3) := by decide +kernel
theorem dL_seen_39 : decode cL_seen 39 = .ok (.ldc2_w 11, 3) := by decide +kernel
theorem dL_seen_42 : decode cL_seen 42 = .ok (.ldc2_w 11, 3) := by decide +kernel
theorem dL_seen_45 : decode cL_seen 45 = .ok (.lload_n 1, 1) := by decide +kernel
theorem dL_seen_46 : decode cL_seen 46 = .ok (.lmul, 1) := by decide +kernel
theorem dL_seen_47 : decode cL_seen 47 = .ok (.aload_n 0, 1) := by decide +kernel
theorem dL_seen_48 : decode cL_seen 48 = .ok (.iload_n 3, 1) := by decide +kernel
theorem dL_seen_49 : decode cL_seen 49 = .ok (.bipush 8, 2) := by decide +kernel
theorem dL_seen_51 : decode cL_seen 51 = .ok (.idiv, 1) := by decide +kernel
theorem dL_seen_52 : decode cL_seen 52 = .ok (.iload_n 3, 1) := by decide +kernel
theorem dL_seen_53 : decode cL_seen 53 = .ok (.bipush 8, 2) := by decide +kernel
theorem dL_seen_55 : decode cL_seen 55 = .ok (.irem, 1) := by decide +kernel
theorem dL_seen_56 : decode cL_seen 56 = .ok (.invokevirtual 19, 3) := by decide +kernel
theorem dL_seen_59 : decode cL_seen 59 = .ok (.i2l, 1) := by decide +kernel
theorem dL_seen_60 : decode cL_seen 60 = .ok (.ladd, 1) := by decide +kernel
theorem dL_seen_61 : decode cL_seen 61 = .ok (.lmul, 1) := by decide +kernel
theorem dL_seen_62 : decode cL_seen 62 = .ok (.aload_n 0, 1) := by decide +kernel
theorem dL_seen_63 : decode cL_seen 63 = .ok (.iload_n 3, 1) := by decide +kernel
theorem dL_seen_64 : decode cL_seen 64 = .ok (.bipush 8, 2) := by decide +kernel
theorem dL_seen_66 : decode cL_seen 66 = .ok (.idiv, 1) := by decide +kernel
theorem dL_seen_67 : decode cL_seen 67 = .ok (.iload_n 3, 1) := by decide +kernel
theorem dL_seen_68 : decode cL_seen 68 = .ok (.bipush 8, 2) := by decide +kernel
theorem dL_seen_70 : decode cL_seen 70 = .ok (.irem, 1) := by decide +kernel
theorem dL_seen_71 : decode cL_seen 71 = .ok (.invokevirtual 23, 3) := by decide +kernel
theorem dL_seen_74 : decode cL_seen 74 = .ok (.i2l, 1) := by decide +kernel
theorem dL_seen_75 : decode cL_seen 75 = .ok (.ladd, 1) := by decide +kernel
theorem dL_seen_76 : decode cL_seen 76 = .ok (.lstore_n 1, 1) := by decide +kernel
theorem dL_seen_77 : decode cL_seen 77 = .ok (.iinc 3 1, 3) := by decide +kernel
theorem dL_seen_80 : decode cL_seen 80 = .ok (.goto (-47), 3) := by decide +kernel
theorem dL_seen_83 : decode cL_seen 83 = .ok (.iconst 0, 1) := by decide +kernel
theorem dL_seen_84 : decode cL_seen 84 = .ok (.istore_n 3, 1) := by decide +kernel
theorem dL_seen_85 : decode cL_seen 85 = .ok (.iload_n 3, 1) := by decide +kernel
theorem dL_seen_86 : decode cL_seen 86 = .ok (.bipush 42, 2) := by decide +kernel
theorem dL_seen_88 : decode cL_seen 88 = .ok (.if_icmp .ge 29, 3) := by decide +kernel
theorem dL_seen_91 : decode cL_seen 91 = .ok (.ldc2_w 11, 3) := by decide +kernel
theorem dL_seen_94 : decode cL_seen 94 = .ok (.lload_n 1, 1) := by decide +kernel
theorem dL_seen_95 : decode cL_seen 95 = .ok (.lmul, 1) := by decide +kernel
theorem dL_seen_96 : decode cL_seen 96 = .ok (.aload_n 0, 1) := by decide +kernel
theorem dL_seen_97 : decode cL_seen 97 = .ok (.iload_n 3, 1) := by decide +kernel
theorem dL_seen_98 : decode cL_seen 98 = .ok (.bipush 7, 2) := by decide +kernel
theorem dL_seen_100 : decode cL_seen 100 = .ok (.idiv, 1) := by decide +kernel
theorem dL_seen_101 : decode cL_seen 101 = .ok (.iload_n 3, 1) := by decide +kernel
theorem dL_seen_102 : decode cL_seen 102 = .ok (.bipush 7, 2) := by decide +kernel
theorem dL_seen_104 : decode cL_seen 104 = .ok (.irem, 1) := by decide +kernel
theorem dL_seen_105 : decode cL_seen 105 = .ok (.invokevirtual 26, 3) := by decide +kernel
theorem dL_seen_108 : decode cL_seen 108 = .ok (.i2l, 1) := by decide +kernel
theorem dL_seen_109 : decode cL_seen 109 = .ok (.ladd, 1) := by decide +kernel
theorem dL_seen_110 : decode cL_seen 110 = .ok (.lstore_n 1, 1) := by decide +kernel
theorem dL_seen_111 : decode cL_seen 111 = .ok (.iinc 3 1, 3) := by decide +kernel
theorem dL_seen_114 : decode cL_seen 114 = .ok (.goto (-29), 3) := by decide +kernel
theorem dL_seen_117 : decode cL_seen 117 = .ok (.iconst 0, 1) := by decide +kernel
theorem dL_seen_118 : decode cL_seen 118 = .ok (.istore_n 3, 1) := by decide +kernel
theorem dL_seen_119 : decode cL_seen 119 = .ok (.iload_n 3, 1) := by decide +kernel
theorem dL_seen_120 : decode cL_seen 120 = .ok (.aload_n 0, 1) := by decide +kernel
theorem dL_seen_121 : decode cL_seen 121 = .ok (.iconst 1, 1) := by decide +kernel
theorem dL_seen_122 : decode cL_seen 122 = .ok (.invokevirtual 13, 3) := by decide +kernel
theorem dL_seen_125 : decode cL_seen 125 = .ok (.if_icmp .ge 62, 3) := by decide +kernel
theorem dL_seen_128 : decode cL_seen 128 = .ok (.ldc2_w 11, 3) := by decide +kernel
theorem dL_seen_131 : decode cL_seen 131 = .ok (.ldc2_w 11, 3) := by decide +kernel
theorem dL_seen_134 : decode cL_seen 134 = .ok (.ldc2_w 11, 3) := by decide +kernel
theorem dL_seen_137 : decode cL_seen 137 = .ok (.lload_n 1, 1) := by decide +kernel
theorem dL_seen_138 : decode cL_seen 138 = .ok (.lmul, 1) := by decide +kernel
theorem dL_seen_139 : decode cL_seen 139 = .ok (.aload_n 0, 1) := by decide +kernel
theorem dL_seen_140 : decode cL_seen 140 = .ok (.iload_n 3, 1) := by decide +kernel
theorem dL_seen_141 : decode cL_seen 141 = .ok (.iconst 3, 1) := by decide +kernel
theorem dL_seen_142 : decode cL_seen 142 = .ok (.invokevirtual 29, 3) := by decide +kernel
theorem dL_seen_145 : decode cL_seen 145 = .ok (.i2l, 1) := by decide +kernel
theorem dL_seen_146 : decode cL_seen 146 = .ok (.ladd, 1) := by decide +kernel
theorem dL_seen_147 : decode cL_seen 147 = .ok (.lmul, 1) := by decide +kernel
theorem dL_seen_148 : decode cL_seen 148 = .ok (.aload_n 0, 1) := by decide +kernel
theorem dL_seen_149 : decode cL_seen 149 = .ok (.iload_n 3, 1) := by decide +kernel
theorem dL_seen_150 : decode cL_seen 150 = .ok (.iconst 4, 1) := by decide +kernel
theorem dL_seen_151 : decode cL_seen 151 = .ok (.invokevirtual 29, 3) := by decide +kernel
theorem dL_seen_154 : decode cL_seen 154 = .ok (.i2l, 1) := by decide +kernel
theorem dL_seen_155 : decode cL_seen 155 = .ok (.ladd, 1) := by decide +kernel
theorem dL_seen_156 : decode cL_seen 156 = .ok (.lmul, 1) := by decide +kernel
theorem dL_seen_157 : decode cL_seen 157 = .ok (.aload_n 0, 1) := by decide +kernel
theorem dL_seen_158 : decode cL_seen 158 = .ok (.iload_n 3, 1) := by decide +kernel
theorem dL_seen_159 : decode cL_seen 159 = .ok (.iconst 5, 1) := by decide +kernel
theorem dL_seen_160 : decode cL_seen 160 = .ok (.invokevirtual 29, 3) := by decide +kernel
