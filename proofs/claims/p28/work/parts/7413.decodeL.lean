theorem dL_hour_300 : decode cL_hour 300 = .ok (.aload_n 0, 1) := by decide +kernel
theorem dL_hour_301 : decode cL_hour 301 = .ok (.iconst 1, 1) := by decide +kernel
theorem dL_hour_302 : decode cL_hour 302 = .ok (.iconst 0, 1) := by decide +kernel
theorem dL_hour_303 : decode cL_hour 303 = .ok (.invokevirtual 19, 3) := by decide +kernel
theorem dL_hour_306 : decode cL_hour 306 = .ok (.iload 11, 2) := by decide +kernel
theorem dL_hour_308 : decode cL_hour 308 = .ok (.if_icmp .ne 8, 3) := by decide +kernel
theorem dL_hour_311 : decode cL_hour 311 = .ok (.iload 10, 2) := by decide +kernel
theorem dL_hour_313 : decode cL_hour 313 = .ok (.goto 5, 3) := by decide +kernel
theorem dL_hour_316 : decode cL_hour 316 = .ok (.bipush (-9), 2) := by decide +kernel
theorem dL_hour_318 : decode cL_hour 318 = .ok (.ireturn, 1) := by decide +kernel
theorem dL_act_0 : decode cL_act 0 = .ok (.iload_n 1, 1) := by decide +kernel
theorem dL_act_1 : decode cL_act 1 = .ok (.bipush 16, 2) := by decide +kernel
theorem dL_act_3 : decode cL_act 3 = .ok (.irem, 1) := by decide +kernel
theorem dL_act_4 : decode cL_act 4 = .ok (.istore_n 2, 1) := by decide +kernel
theorem dL_act_5 : decode cL_act 5 = .ok (.iload_n 1, 1) := by decide +kernel
theorem dL_act_6 : decode cL_act 6 = .ok (.bipush 16, 2) := by decide +kernel
theorem dL_act_8 : decode cL_act 8 = .ok (.idiv, 1) := by decide +kernel
theorem dL_act_9 : decode cL_act 9 = .ok (.istore_n 3, 1) := by decide +kernel
theorem dL_act_10 : decode cL_act 10 = .ok (.iload_n 2, 1) := by decide +kernel
theorem dL_act_11 : decode cL_act 11 = .ok (.iconst 5, 1) := by decide +kernel
theorem dL_act_12 : decode cL_act 12 = .ok (.if_icmp .ge 9, 3) := by decide +kernel
theorem dL_act_15 : decode cL_act 15 = .ok (.aload_n 0, 1) := by decide +kernel
theorem dL_act_16 : decode cL_act 16 = .ok (.iload_n 3, 1) := by decide +kernel
theorem dL_act_17 : decode cL_act 17 = .ok (.invokestatic 98, 3) := by decide +kernel
theorem dL_act_20 : decode cL_act 20 = .ok (.ireturn, 1) := by decide +kernel
theorem dL_act_21 : decode cL_act 21 = .ok (.iload_n 2, 1) := by decide +kernel
theorem dL_act_22 : decode cL_act 22 = .ok (.bipush 7, 2) := by decide +kernel
theorem dL_act_24 : decode cL_act 24 = .ok (.if_icmp .ge 9, 3) := by decide +kernel
theorem dL_act_27 : decode cL_act 27 = .ok (.aload_n 0, 1) := by decide +kernel
theorem dL_act_28 : decode cL_act 28 = .ok (.iload_n 3, 1) := by decide +kernel
theorem dL_act_29 : decode cL_act 29 = .ok (.invokestatic 101, 3) := by decide +kernel
theorem dL_act_32 : decode cL_act 32 = .ok (.ireturn, 1) := by decide +kernel
theorem dL_act_33 : decode cL_act 33 = .ok (.iload_n 2, 1) := by decide +kernel
theorem dL_act_34 : decode cL_act 34 = .ok (.bipush 10, 2) := by decide +kernel
theorem dL_act_36 : decode cL_act 36 = .ok (.if_icmp .ge 8, 3) := by decide +kernel
theorem dL_act_39 : decode cL_act 39 = .ok (.aload_n 0, 1) := by decide +kernel
theorem dL_act_40 : decode cL_act 40 = .ok (.invokestatic 104, 3) := by decide +kernel
theorem dL_act_43 : decode cL_act 43 = .ok (.ireturn, 1) := by decide +kernel
theorem dL_act_44 : decode cL_act 44 = .ok (.iload_n 2, 1) := by decide +kernel
theorem dL_act_45 : decode cL_act 45 = .ok (.bipush 12, 2) := by decide +kernel
theorem dL_act_47 : decode cL_act 47 = .ok (.if_icmp .ge 49, 3) := by decide +kernel
theorem dL_act_50 : decode cL_act 50 = .ok (.aload_n 0, 1) := by decide +kernel
theorem dL_act_51 : decode cL_act 51 = .ok (.iconst 4, 1) := by decide +kernel
theorem dL_act_52 : decode cL_act 52 = .ok (.invokevirtual 13, 3) := by decide +kernel
theorem dL_act_55 : decode cL_act 55 = .ok (.istore 4, 2) := by decide +kernel
theorem dL_act_57 : decode cL_act 57 = .ok (.aload_n 0, 1) := by decide +kernel
theorem dL_act_58 : decode cL_act 58 = .ok (.iconst 1, 1) := by decide +kernel
theorem dL_act_59 : decode cL_act 59 = .ok (.iload_n 3, 1) := by decide +kernel
theorem dL_act_60 : decode cL_act 60 = .ok (.sipush 300, 3) := by decide +kernel
theorem dL_act_63 : decode cL_act 63 = .ok (.irem, 1) := by decide +kernel
theorem dL_act_64 : decode cL_act 64 = .ok (.iadd, 1) := by decide +kernel
theorem dL_act_65 : decode cL_act 65 = .ok (.invokevirtual 66, 3) := by decide +kernel
theorem dL_act_68 : decode cL_act 68 = .ok (.istore 5, 2) := by decide +kernel
theorem dL_act_70 : decode cL_act 70 = .ok (.iload 5, 2) := by decide +kernel
theorem dL_act_72 : decode cL_act 72 = .ok (.ifCond .lt 21, 3) := by decide +kernel
theorem dL_act_75 : decode cL_act 75 = .ok (.aload_n 0, 1) := by decide +kernel
theorem dL_act_76 : decode cL_act 76 = .ok (.iconst 4, 1) := by decide +kernel
theorem dL_act_77 : decode cL_act 77 = .ok (.invokevirtual 13, 3) := by decide +kernel
theorem dL_act_80 : decode cL_act 80 = .ok (.iload 4, 2) := by decide +kernel
theorem dL_act_82 : decode cL_act 82 = .ok (.iload 5, 2) := by decide +kernel
theorem dL_act_84 : decode cL_act 84 = .ok (.iadd, 1) := by decide +kernel
theorem dL_act_85 : decode cL_act 85 = .ok (.if_icmp .ne 8, 3) := by decide +kernel
theorem dL_act_88 : decode cL_act 88 = .ok (.iload 5, 2) := by decide +kernel
theorem dL_act_90 : decode cL_act 90 = .ok (.goto 5, 3) := by decide +kernel
theorem dL_act_93 : decode cL_act 93 = .ok (.bipush (-9), 2) := by decide +kernel
theorem dL_act_95 : decode cL_act 95 = .ok (.ireturn, 1) := by decide +kernel
theorem dL_act_96 : decode cL_act 96 = .ok (.iload_n 2, 1) := by decide +kernel
theorem dL_act_97 : decode cL_act 97 = .ok (.bipush 12, 2) := by decide +kernel
theorem dL_act_99 : decode cL_act 99 = .ok (.if_icmp .ne 128, 3) := by decide +kernel
theorem dL_act_102 : decode cL_act 102 = .ok (.iload_n 3, 1) := by decide +kernel
theorem dL_act_103 : decode cL_act 103 = .ok (.bipush 6, 2) := by decide +kernel
theorem dL_act_105 : decode cL_act 105 = .ok (.irem, 1) := by decide +kernel
theorem dL_act_106 : decode cL_act 106 = .ok (.istore 4, 2) := by decide +kernel
theorem dL_act_108 : decode cL_act 108 = .ok (.bipush 10, 2) := by decide +kernel
theorem dL_act_110 : decode cL_act 110 = .ok (.iload_n 3, 1) := by decide +kernel
theorem dL_act_111 : decode cL_act 111 = .ok (.bipush 6, 2) := by decide +kernel
theorem dL_act_113 : decode cL_act 113 = .ok (.idiv, 1) := by decide +kernel
theorem dL_act_114 : decode cL_act 114 = .ok (.sipush 200, 3) := by decide +kernel
theorem dL_act_117 : decode cL_act 117 = .ok (.irem, 1) := by decide +kernel
theorem dL_act_118 : decode cL_act 118 = .ok (.iadd, 1) := by decide +kernel
theorem dL_act_119 : decode cL_act 119 = .ok (.istore 5, 2) := by decide +kernel
theorem dL_act_121 : decode cL_act 121 = .ok (.iload_n 3, 1) := by decide +kernel
theorem dL_act_122 : decode cL_act 122 = .ok (.bipush 7, 2) := by decide +kernel
theorem dL_act_124 : decode cL_act 124 = .ok (.idiv, 1) := by decide +kernel
theorem dL_act_125 : decode cL_act 125 = .ok (.bipush 91, 2) := by decide +kernel
theorem dL_act_127 : decode cL_act 127 = .ok (.irem, 1) := by decide +kernel
theorem dL_act_128 : decode cL_act 128 = .ok (.istore 6, 2) := by decide +kernel
theorem dL_act_130 : decode cL_act 130 = .ok (.aload_n 0, 1) := by decide +kernel
theorem dL_act_131 : decode cL_act 131 = .ok (.iload 4, 2) := by decide +kernel
theorem dL_act_133 : decode cL_act 133 = .ok (.iconst 0, 1) := by decide +kernel
theorem dL_act_134 : decode cL_act 134 = .ok (.invokevirtual 26, 3) := by decide +kernel
theorem dL_act_137 : decode cL_act 137 = .ok (.istore 7, 2) := by decide +kernel
theorem dL_act_139 : decode cL_act 139 = .ok (.iload 7, 2) := by decide +kernel
theorem dL_act_141 : decode cL_act 141 = .ok (.iload 5, 2) := by decide +kernel
theorem dL_act_143 : decode cL_act 143 = .ok (.if_icmp .ne 19, 3) := by decide +kernel
theorem dL_act_146 : decode cL_act 146 = .ok (.aload_n 0, 1) := by decide +kernel
theorem dL_act_147 : decode cL_act 147 = .ok (.iload 4, 2) := by decide +kernel
theorem dL_act_149 : decode cL_act 149 = .ok (.iconst 1, 1) := by decide +kernel
theorem dL_act_150 : decode cL_act 150 = .ok (.invokevirtual 26, 3) := by decide +kernel
theorem dL_act_153 : decode cL_act 153 = .ok (.iload 6, 2) := by decide +kernel
theorem dL_act_155 : decode cL_act 155 = .ok (.if_icmp .ne 7, 3) := by decide +kernel
theorem dL_act_158 : decode cL_act 158 = .ok (.iconst 1, 1) := by decide +kernel
theorem dL_act_159 : decode cL_act 159 = .ok (.goto 4, 3) := by decide +kernel
theorem dL_act_162 : decode cL_act 162 = .ok (.iconst 0, 1) := by decide +kernel
theorem dL_act_163 : decode cL_act 163 = .ok (.istore 8, 2) := by decide +kernel
theorem dL_act_165 : decode cL_act 165 = .ok (.aload_n 0, 1) := by decide +kernel
theorem dL_act_166 : decode cL_act 166 = .ok (.iload 4, 2) := by decide +kernel
theorem dL_act_168 : decode cL_act 168 = .ok (.iload 5, 2) := by decide +kernel
theorem dL_act_170 : decode cL_act 170 = .ok (.iload 6, 2) := by decide +kernel
theorem dL_act_172 : decode cL_act 172 = .ok (.invokevirtual 43, 3) := by decide +kernel
theorem dL_act_175 : decode cL_act 175 = .ok (.istore 9, 2) := by decide +kernel
theorem dL_act_177 : decode cL_act 177 = .ok (.iload 9, 2) := by decide +kernel
theorem dL_act_179 : decode cL_act 179 = .ok (.iload 8, 2) := by decide +kernel
theorem dL_act_181 : decode cL_act 181 = .ok (.ifCond .eq 9, 3) := by decide +kernel
theorem dL_act_184 : decode cL_act 184 = .ok (.sipush (-1005), 3) := by decide +kernel
theorem dL_act_187 : decode cL_act 187 = .ok (.goto 5, 3) := by decide +kernel
theorem dL_act_190 : decode cL_act 190 = .ok (.iload 7, 2) := by decide +kernel
theorem dL_act_192 : decode cL_act 192 = .ok (.if_icmp .ne 32, 3) := by decide +kernel
theorem dL_act_195 : decode cL_act 195 = .ok (.aload_n 0, 1) := by decide +kernel
theorem dL_act_196 : decode cL_act 196 = .ok (.iload 4, 2) := by decide +kernel
