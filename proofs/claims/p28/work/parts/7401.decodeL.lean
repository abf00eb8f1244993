theorem dL_seen_163 : decode cL_seen 163 = .ok (.i2l, 1) := by decide +kernel
theorem dL_seen_164 : decode cL_seen 164 = .ok (.ladd, 1) := by decide +kernel
theorem dL_seen_165 : decode cL_seen 165 = .ok (.lstore_n 1, 1) := by decide +kernel
theorem dL_seen_166 : decode cL_seen 166 = .ok (.ldc2_w 11, 3) := by decide +kernel
theorem dL_seen_169 : decode cL_seen 169 = .ok (.lload_n 1, 1) := by decide +kernel
theorem dL_seen_170 : decode cL_seen 170 = .ok (.lmul, 1) := by decide +kernel
theorem dL_seen_171 : decode cL_seen 171 = .ok (.aload_n 0, 1) := by decide +kernel
theorem dL_seen_172 : decode cL_seen 172 = .ok (.iload_n 3, 1) := by decide +kernel
theorem dL_seen_173 : decode cL_seen 173 = .ok (.bipush 8, 2) := by decide +kernel
theorem dL_seen_175 : decode cL_seen 175 = .ok (.invokevirtual 29, 3) := by decide +kernel
theorem dL_seen_178 : decode cL_seen 178 = .ok (.i2l, 1) := by decide +kernel
theorem dL_seen_179 : decode cL_seen 179 = .ok (.ladd, 1) := by decide +kernel
theorem dL_seen_180 : decode cL_seen 180 = .ok (.lstore_n 1, 1) := by decide +kernel
theorem dL_seen_181 : decode cL_seen 181 = .ok (.iinc 3 1, 3) := by decide +kernel
theorem dL_seen_184 : decode cL_seen 184 = .ok (.goto (-65), 3) := by decide +kernel
theorem dL_seen_187 : decode cL_seen 187 = .ok (.lload_n 1, 1) := by decide +kernel
theorem dL_seen_188 : decode cL_seen 188 = .ok (.lreturn, 1) := by decide +kernel
theorem dL_isWhole_0 : decode cL_isWhole 0 = .ok (.iconst 0, 1) := by decide +kernel
theorem dL_isWhole_1 : decode cL_isWhole 1 = .ok (.istore_n 1, 1) := by decide +kernel
theorem dL_isWhole_2 : decode cL_isWhole 2 = .ok (.iconst 0, 1) := by decide +kernel
theorem dL_isWhole_3 : decode cL_isWhole 3 = .ok (.istore_n 2, 1) := by decide +kernel
theorem dL_isWhole_4 : decode cL_isWhole 4 = .ok (.iconst 0, 1) := by decide +kernel
theorem dL_isWhole_5 : decode cL_isWhole 5 = .ok (.istore_n 3, 1) := by decide +kernel
theorem dL_isWhole_6 : decode cL_isWhole 6 = .ok (.iconst 0, 1) := by decide +kernel
theorem dL_isWhole_7 : decode cL_isWhole 7 = .ok (.istore 4, 2) := by decide +kernel
theorem dL_isWhole_9 : decode cL_isWhole 9 = .ok (.iconst 0, 1) := by decide +kernel
theorem dL_isWhole_10 : decode cL_isWhole 10 = .ok (.istore 5, 2) := by decide +kernel
theorem dL_isWhole_12 : decode cL_isWhole 12 = .ok (.iconst 0, 1) := by decide +kernel
theorem dL_isWhole_13 : decode cL_isWhole 13 = .ok (.istore 6, 2) := by decide +kernel
theorem dL_isWhole_15 : decode cL_isWhole 15 = .ok (.iconst 1, 1) := by decide +kernel
theorem dL_isWhole_16 : decode cL_isWhole 16 = .ok (.istore 7, 2) := by decide +kernel
theorem dL_isWhole_18 : decode cL_isWhole 18 = .ok (.iconst 0, 1) := by decide +kernel
theorem dL_isWhole_19 : decode cL_isWhole 19 = .ok (.istore 8, 2) := by decide +kernel
theorem dL_isWhole_21 : decode cL_isWhole 21 = .ok (.iload 8, 2) := by decide +kernel
theorem dL_isWhole_23 : decode cL_isWhole 23 = .ok (.aload_n 0, 1) := by decide +kernel
theorem dL_isWhole_24 : decode cL_isWhole 24 = .ok (.iconst 1, 1) := by decide +kernel
theorem dL_isWhole_25 : decode cL_isWhole 25 = .ok (.invokevirtual 13, 3) := by decide +kernel
theorem dL_isWhole_28 : decode cL_isWhole 28 = .ok (.if_icmp .ge 371, 3) := by decide +kernel
theorem dL_isWhole_31 : decode cL_isWhole 31 = .ok (.iload 7, 2) := by decide +kernel
theorem dL_isWhole_33 : decode cL_isWhole 33 = .ok (.ifCond .eq 366, 3) := by decide +kernel
theorem dL_isWhole_36 : decode cL_isWhole 36 = .ok (.aload_n 0, 1) := by decide +kernel
theorem dL_isWhole_37 : decode cL_isWhole 37 = .ok (.iload 8, 2) := by decide +kernel
theorem dL_isWhole_39 : decode cL_isWhole 39 = .ok (.iconst 1, 1) := by decide +kernel
theorem dL_isWhole_40 : decode cL_isWhole 40 = .ok (.invokevirtual 29, 3) := by decide +kernel
theorem dL_isWhole_43 : decode cL_isWhole 43 = .ok (.istore 9, 2) := by decide +kernel
theorem dL_isWhole_45 : decode cL_isWhole 45 = .ok (.aload_n 0, 1) := by decide +kernel
theorem dL_isWhole_46 : decode cL_isWhole 46 = .ok (.iload 8, 2) := by decide +kernel
theorem dL_isWhole_48 : decode cL_isWhole 48 = .ok (.iconst 2, 1) := by decide +kernel
theorem dL_isWhole_49 : decode cL_isWhole 49 = .ok (.invokevirtual 29, 3) := by decide +kernel
theorem dL_isWhole_52 : decode cL_isWhole 52 = .ok (.istore 10, 2) := by decide +kernel
theorem dL_isWhole_54 : decode cL_isWhole 54 = .ok (.aload_n 0, 1) := by decide +kernel
theorem dL_isWhole_55 : decode cL_isWhole 55 = .ok (.iload 8, 2) := by decide +kernel
theorem dL_isWhole_57 : decode cL_isWhole 57 = .ok (.iconst 3, 1) := by decide +kernel
theorem dL_isWhole_58 : decode cL_isWhole 58 = .ok (.invokevirtual 29, 3) := by decide +kernel
theorem dL_isWhole_61 : decode cL_isWhole 61 = .ok (.istore 11, 2) := by decide +kernel
theorem dL_isWhole_63 : decode cL_isWhole 63 = .ok (.aload_n 0, 1) := by decide +kernel
theorem dL_isWhole_64 : decode cL_isWhole 64 = .ok (.iload 8, 2) := by decide +kernel
theorem dL_isWhole_66 : decode cL_isWhole 66 = .ok (.iconst 4, 1) := by decide +kernel
theorem dL_isWhole_67 : decode cL_isWhole 67 = .ok (.invokevirtual 29, 3) := by decide +kernel
theorem dL_isWhole_70 : decode cL_isWhole 70 = .ok (.istore 12, 2) := by decide +kernel
theorem dL_isWhole_72 : decode cL_isWhole 72 = .ok (.aload_n 0, 1) := by decide +kernel
theorem dL_isWhole_73 : decode cL_isWhole 73 = .ok (.iload 8, 2) := by decide +kernel
theorem dL_isWhole_75 : decode cL_isWhole 75 = .ok (.bipush 7, 2) := by decide +kernel
theorem dL_isWhole_77 : decode cL_isWhole 77 = .ok (.invokevirtual 29, 3) := by decide +kernel
theorem dL_isWhole_80 : decode cL_isWhole 80 = .ok (.iconst 1, 1) := by decide +kernel
theorem dL_isWhole_81 : decode cL_isWhole 81 = .ok (.if_icmp .ne 7, 3) := by decide +kernel
theorem dL_isWhole_84 : decode cL_isWhole 84 = .ok (.iconst 1, 1) := by decide +kernel
theorem dL_isWhole_85 : decode cL_isWhole 85 = .ok (.goto 4, 3) := by decide +kernel
theorem dL_isWhole_88 : decode cL_isWhole 88 = .ok (.iconst 0, 1) := by decide +kernel
theorem dL_isWhole_89 : decode cL_isWhole 89 = .ok (.istore 13, 2) := by decide +kernel
theorem dL_isWhole_91 : decode cL_isWhole 91 = .ok (.iload_n 1, 1) := by decide +kernel
theorem dL_isWhole_92 : decode cL_isWhole 92 = .ok (.aload_n 0, 1) := by decide +kernel
theorem dL_isWhole_93 : decode cL_isWhole 93 = .ok (.iload 8, 2) := by decide +kernel
theorem dL_isWhole_95 : decode cL_isWhole 95 = .ok (.iconst 5, 1) := by decide +kernel
theorem dL_isWhole_96 : decode cL_isWhole 96 = .ok (.invokevirtual 29, 3) := by decide +kernel
theorem dL_isWhole_99 : decode cL_isWhole 99 = .ok (.iadd, 1) := by decide +kernel
theorem dL_isWhole_100 : decode cL_isWhole 100 = .ok (.istore_n 1, 1) := by decide +kernel
theorem dL_isWhole_101 : decode cL_isWhole 101 = .ok (.iload_n 2, 1) := by decide +kernel
theorem dL_isWhole_102 : decode cL_isWhole 102 = .ok (.iload 12, 2) := by decide +kernel
theorem dL_isWhole_104 : decode cL_isWhole 104 = .ok (.iadd, 1) := by decide +kernel
theorem dL_isWhole_105 : decode cL_isWhole 105 = .ok (.istore_n 2, 1) := by decide +kernel
theorem dL_isWhole_106 : decode cL_isWhole 106 = .ok (.iload_n 3, 1) := by decide +kernel
theorem dL_isWhole_107 : decode cL_isWhole 107 = .ok (.iload 13, 2) := by decide +kernel
theorem dL_isWhole_109 : decode cL_isWhole 109 = .ok (.ifCond .eq 7, 3) := by decide +kernel
theorem dL_isWhole_112 : decode cL_isWhole 112 = .ok (.iconst 1, 1) := by decide +kernel
theorem dL_isWhole_113 : decode cL_isWhole 113 = .ok (.goto 4, 3) := by decide +kernel
theorem dL_isWhole_116 : decode cL_isWhole 116 = .ok (.iconst 0, 1) := by decide +kernel
theorem dL_isWhole_117 : decode cL_isWhole 117 = .ok (.iadd, 1) := by decide +kernel
theorem dL_isWhole_118 : decode cL_isWhole 118 = .ok (.istore_n 3, 1) := by decide +kernel
theorem dL_isWhole_119 : decode cL_isWhole 119 = .ok (.iload 5, 2) := by decide +kernel
theorem dL_isWhole_121 : decode cL_isWhole 121 = .ok (.iload 9, 2) := by decide +kernel
theorem dL_isWhole_123 : decode cL_isWhole 123 = .ok (.ifCond .lt 7, 3) := by decide +kernel
theorem dL_isWhole_126 : decode cL_isWhole 126 = .ok (.iconst 1, 1) := by decide +kernel
theorem dL_isWhole_127 : decode cL_isWhole 127 = .ok (.goto 4, 3) := by decide +kernel
theorem dL_isWhole_130 : decode cL_isWhole 130 = .ok (.iconst 0, 1) := by decide +kernel
theorem dL_isWhole_131 : decode cL_isWhole 131 = .ok (.iadd, 1) := by decide +kernel
theorem dL_isWhole_132 : decode cL_isWhole 132 = .ok (.istore 5, 2) := by decide +kernel
theorem dL_isWhole_134 : decode cL_isWhole 134 = .ok (.iload 6, 2) := by decide +kernel
theorem dL_isWhole_136 : decode cL_isWhole 136 = .ok (.aload_n 0, 1) := by decide +kernel
theorem dL_isWhole_137 : decode cL_isWhole 137 = .ok (.iload 8, 2) := by decide +kernel
theorem dL_isWhole_139 : decode cL_isWhole 139 = .ok (.bipush 9, 2) := by decide +kernel
theorem dL_isWhole_141 : decode cL_isWhole 141 = .ok (.invokevirtual 29, 3) := by decide +kernel
theorem dL_isWhole_144 : decode cL_isWhole 144 = .ok (.iadd, 1) := by decide +kernel
theorem dL_isWhole_145 : decode cL_isWhole 145 = .ok (.istore 6, 2) := by decide +kernel
theorem dL_isWhole_147 : decode cL_isWhole 147 = .ok (.iload 4, 2) := by decide +kernel
theorem dL_isWhole_149 : decode cL_isWhole 149 = .ok (.aload_n 0, 1) := by decide +kernel
theorem dL_isWhole_150 : decode cL_isWhole 150 = .ok (.iload 8, 2) := by decide +kernel
theorem dL_isWhole_152 : decode cL_isWhole 152 = .ok (.invokevirtual 32, 3) := by decide +kernel
theorem dL_isWhole_155 : decode cL_isWhole 155 = .ok (.ifCond .ne 7, 3) := by decide +kernel
theorem dL_isWhole_158 : decode cL_isWhole 158 = .ok (.iconst 1, 1) := by decide +kernel
theorem dL_isWhole_159 : decode cL_isWhole 159 = .ok (.goto 4, 3) := by decide +kernel
theorem dL_isWhole_162 : decode cL_isWhole 162 = .ok (.iconst 0, 1) := by decide +kernel
theorem dL_isWhole_163 : decode cL_isWhole 163 = .ok (.iadd, 1) := by decide +kernel
theorem dL_isWhole_164 : decode cL_isWhole 164 = .ok (.istore 4, 2) := by decide +kernel
theorem dL_isWhole_166 : decode cL_isWhole 166 = .ok (.iload 9, 2) := by decide +kernel
theorem dL_isWhole_168 : decode cL_isWhole 168 = .ok (.ifCond .ge 7, 3) := by decide +kernel
theorem dL_isWhole_171 : decode cL_isWhole 171 = .ok (.iconst 1, 1) := by decide +kernel
theorem dL_isWhole_172 : decode cL_isWhole 172 = .ok (.goto 4, 3) := by decide +kernel
theorem dL_isWhole_175 : decode cL_isWhole 175 = .ok (.iconst 0, 1) := by decide +kernel
theorem dL_isWhole_176 : decode cL_isWhole 176 = .ok (.iload 10, 2) := by decide +kernel
