theorem dL_move_107 : decode cL_move 107 = .ok (.isub, 1) := by decide +kernel
theorem dL_move_108 : decode cL_move 108 = .ok (.if_icmp .ne 39, 3) := by decide +kernel
theorem dL_move_111 : decode cL_move 111 = .ok (.iload 6, 2) := by decide +kernel
theorem dL_move_113 : decode cL_move 113 = .ok (.ifCond .lt 29, 3) := by decide +kernel
theorem dL_move_116 : decode cL_move 116 = .ok (.aload_n 0, 1) := by decide +kernel
theorem dL_move_117 : decode cL_move 117 = .ok (.iload 6, 2) := by decide +kernel
theorem dL_move_119 : decode cL_move 119 = .ok (.iconst 1, 1) := by decide +kernel
theorem dL_move_120 : decode cL_move 120 = .ok (.invokevirtual 29, 3) := by decide +kernel
theorem dL_move_123 : decode cL_move 123 = .ok (.sipush (-1005), 3) := by decide +kernel
theorem dL_move_126 : decode cL_move 126 = .ok (.if_icmp .ne 21, 3) := by decide +kernel
theorem dL_move_129 : decode cL_move 129 = .ok (.aload_n 0, 1) := by decide +kernel
theorem dL_move_130 : decode cL_move 130 = .ok (.iload 6, 2) := by decide +kernel
theorem dL_move_132 : decode cL_move 132 = .ok (.iconst 2, 1) := by decide +kernel
theorem dL_move_133 : decode cL_move 133 = .ok (.invokevirtual 29, 3) := by decide +kernel
theorem dL_move_136 : decode cL_move 136 = .ok (.sipush (-1005), 3) := by decide +kernel
theorem dL_move_139 : decode cL_move 139 = .ok (.if_icmp .ne 8, 3) := by decide +kernel
theorem dL_move_142 : decode cL_move 142 = .ok (.iload 9, 2) := by decide +kernel
theorem dL_move_144 : decode cL_move 144 = .ok (.goto 5, 3) := by decide +kernel
theorem dL_move_147 : decode cL_move 147 = .ok (.bipush (-9), 2) := by decide +kernel
theorem dL_move_149 : decode cL_move 149 = .ok (.ireturn, 1) := by decide +kernel
theorem dL_move_150 : decode cL_move 150 = .ok (.aload_n 0, 1) := by decide +kernel
theorem dL_move_151 : decode cL_move 151 = .ok (.iload_n 2, 1) := by decide +kernel
theorem dL_move_152 : decode cL_move 152 = .ok (.iload_n 3, 1) := by decide +kernel
theorem dL_move_153 : decode cL_move 153 = .ok (.iload 4, 2) := by decide +kernel
theorem dL_move_155 : decode cL_move 155 = .ok (.iload 5, 2) := by decide +kernel
theorem dL_move_157 : decode cL_move 157 = .ok (.invokevirtual 53, 3) := by decide +kernel
theorem dL_move_160 : decode cL_move 160 = .ok (.istore 9, 2) := by decide +kernel
theorem dL_move_162 : decode cL_move 162 = .ok (.iload 6, 2) := by decide +kernel
theorem dL_move_164 : decode cL_move 164 = .ok (.ifCond .ge 7, 3) := by decide +kernel
theorem dL_move_167 : decode cL_move 167 = .ok (.iconst 0, 1) := by decide +kernel
theorem dL_move_168 : decode cL_move 168 = .ok (.goto 4, 3) := by decide +kernel
theorem dL_move_171 : decode cL_move 171 = .ok (.iconst 1, 1) := by decide +kernel
theorem dL_move_172 : decode cL_move 172 = .ok (.iload 7, 2) := by decide +kernel
theorem dL_move_174 : decode cL_move 174 = .ok (.ifCond .ge 7, 3) := by decide +kernel
theorem dL_move_177 : decode cL_move 177 = .ok (.iconst 0, 1) := by decide +kernel
theorem dL_move_178 : decode cL_move 178 = .ok (.goto 4, 3) := by decide +kernel
theorem dL_move_181 : decode cL_move 181 = .ok (.iconst 1, 1) := by decide +kernel
theorem dL_move_182 : decode cL_move 182 = .ok (.iadd, 1) := by decide +kernel
theorem dL_move_183 : decode cL_move 183 = .ok (.istore 10, 2) := by decide +kernel
theorem dL_move_185 : decode cL_move 185 = .ok (.iload_n 2, 1) := by decide +kernel
theorem dL_move_186 : decode cL_move 186 = .ok (.iload 4, 2) := by decide +kernel
theorem dL_move_188 : decode cL_move 188 = .ok (.if_icmp .ne 13, 3) := by decide +kernel
theorem dL_move_191 : decode cL_move 191 = .ok (.iload_n 3, 1) := by decide +kernel
theorem dL_move_192 : decode cL_move 192 = .ok (.iload 5, 2) := by decide +kernel
theorem dL_move_194 : decode cL_move 194 = .ok (.if_icmp .ne 7, 3) := by decide +kernel
theorem dL_move_197 : decode cL_move 197 = .ok (.iconst 1, 1) := by decide +kernel
theorem dL_move_198 : decode cL_move 198 = .ok (.goto 4, 3) := by decide +kernel
theorem dL_move_201 : decode cL_move 201 = .ok (.iconst 0, 1) := by decide +kernel
theorem dL_move_202 : decode cL_move 202 = .ok (.istore 11, 2) := by decide +kernel
theorem dL_move_204 : decode cL_move 204 = .ok (.iload 9, 2) := by decide +kernel
theorem dL_move_206 : decode cL_move 206 = .ok (.iload 11, 2) := by decide +kernel
theorem dL_move_208 : decode cL_move 208 = .ok (.ifCond .ne 8, 3) := by decide +kernel
theorem dL_move_211 : decode cL_move 211 = .ok (.iload 10, 2) := by decide +kernel
theorem dL_move_213 : decode cL_move 213 = .ok (.ifCond .ne 9, 3) := by decide +kernel
theorem dL_move_216 : decode cL_move 216 = .ok (.sipush (-1005), 3) := by decide +kernel
theorem dL_move_219 : decode cL_move 219 = .ok (.goto 5, 3) := by decide +kernel
theorem dL_move_222 : decode cL_move 222 = .ok (.iload 10, 2) := by decide +kernel
theorem dL_move_224 : decode cL_move 224 = .ok (.if_icmp .ne 42, 3) := by decide +kernel
theorem dL_move_227 : decode cL_move 227 = .ok (.aload_n 0, 1) := by decide +kernel
theorem dL_move_228 : decode cL_move 228 = .ok (.iload_n 2, 1) := by decide +kernel
theorem dL_move_229 : decode cL_move 229 = .ok (.iload_n 3, 1) := by decide +kernel
theorem dL_move_230 : decode cL_move 230 = .ok (.invokevirtual 23, 3) := by decide +kernel
theorem dL_move_233 : decode cL_move 233 = .ok (.iload 7, 2) := by decide +kernel
theorem dL_move_235 : decode cL_move 235 = .ok (.if_icmp .ne 31, 3) := by decide +kernel
theorem dL_move_238 : decode cL_move 238 = .ok (.aload_n 0, 1) := by decide +kernel
theorem dL_move_239 : decode cL_move 239 = .ok (.iload 4, 2) := by decide +kernel
theorem dL_move_241 : decode cL_move 241 = .ok (.iload 5, 2) := by decide +kernel
theorem dL_move_243 : decode cL_move 243 = .ok (.invokevirtual 23, 3) := by decide +kernel
theorem dL_move_246 : decode cL_move 246 = .ok (.iload 6, 2) := by decide +kernel
theorem dL_move_248 : decode cL_move 248 = .ok (.if_icmp .ne 18, 3) := by decide +kernel
theorem dL_move_251 : decode cL_move 251 = .ok (.aload_n 0, 1) := by decide +kernel
theorem dL_move_252 : decode cL_move 252 = .ok (.iconst 2, 1) := by decide +kernel
theorem dL_move_253 : decode cL_move 253 = .ok (.invokevirtual 13, 3) := by decide +kernel
theorem dL_move_256 : decode cL_move 256 = .ok (.iload 8, 2) := by decide +kernel
theorem dL_move_258 : decode cL_move 258 = .ok (.if_icmp .ne 8, 3) := by decide +kernel
theorem dL_move_261 : decode cL_move 261 = .ok (.iload 9, 2) := by decide +kernel
theorem dL_move_263 : decode cL_move 263 = .ok (.goto 5, 3) := by decide +kernel
theorem dL_move_266 : decode cL_move 266 = .ok (.bipush (-9), 2) := by decide +kernel
theorem dL_move_268 : decode cL_move 268 = .ok (.ireturn, 1) := by decide +kernel
theorem dL_hour_0 : decode cL_hour 0 = .ok (.aload_n 0, 1) := by decide +kernel
theorem dL_hour_1 : decode cL_hour 1 = .ok (.iconst 0, 1) := by decide +kernel
theorem dL_hour_2 : decode cL_hour 2 = .ok (.invokevirtual 13, 3) := by decide +kernel
theorem dL_hour_5 : decode cL_hour 5 = .ok (.istore_n 1, 1) := by decide +kernel
theorem dL_hour_6 : decode cL_hour 6 = .ok (.aload_n 0, 1) := by decide +kernel
theorem dL_hour_7 : decode cL_hour 7 = .ok (.iconst 3, 1) := by decide +kernel
theorem dL_hour_8 : decode cL_hour 8 = .ok (.invokevirtual 13, 3) := by decide +kernel
theorem dL_hour_11 : decode cL_hour 11 = .ok (.istore_n 2, 1) := by decide +kernel
theorem dL_hour_12 : decode cL_hour 12 = .ok (.aload_n 0, 1) := by decide +kernel
theorem dL_hour_13 : decode cL_hour 13 = .ok (.bipush 6, 2) := by decide +kernel
theorem dL_hour_15 : decode cL_hour 15 = .ok (.invokevirtual 13, 3) := by decide +kernel
theorem dL_hour_18 : decode cL_hour 18 = .ok (.istore_n 3, 1) := by decide +kernel
theorem dL_hour_19 : decode cL_hour 19 = .ok (.aload_n 0, 1) := by decide +kernel
theorem dL_hour_20 : decode cL_hour 20 = .ok (.bipush 7, 2) := by decide +kernel
theorem dL_hour_22 : decode cL_hour 22 = .ok (.invokevirtual 13, 3) := by decide +kernel
theorem dL_hour_25 : decode cL_hour 25 = .ok (.istore 4, 2) := by decide +kernel
theorem dL_hour_27 : decode cL_hour 27 = .ok (.aload_n 0, 1) := by decide +kernel
theorem dL_hour_28 : decode cL_hour 28 = .ok (.iconst 4, 1) := by decide +kernel
theorem dL_hour_29 : decode cL_hour 29 = .ok (.invokevirtual 13, 3) := by decide +kernel
theorem dL_hour_32 : decode cL_hour 32 = .ok (.istore 5, 2) := by decide +kernel
theorem dL_hour_34 : decode cL_hour 34 = .ok (.iconst 0, 1) := by decide +kernel
theorem dL_hour_35 : decode cL_hour 35 = .ok (.istore 6, 2) := by decide +kernel
theorem dL_hour_37 : decode cL_hour 37 = .ok (.iconst 0, 1) := by decide +kernel
theorem dL_hour_38 : decode cL_hour 38 = .ok (.istore 7, 2) := by decide +kernel
theorem dL_hour_40 : decode cL_hour 40 = .ok (.iconst 0, 1) := by decide +kernel
theorem dL_hour_41 : decode cL_hour 41 = .ok (.istore 8, 2) := by decide +kernel
theorem dL_hour_43 : decode cL_hour 43 = .ok (.iload 8, 2) := by decide +kernel
theorem dL_hour_45 : decode cL_hour 45 = .ok (.aload_n 0, 1) := by decide +kernel
theorem dL_hour_46 : decode cL_hour 46 = .ok (.iconst 1, 1) := by decide +kernel
theorem dL_hour_47 : decode cL_hour 47 = .ok (.invokevirtual 13, 3) := by decide +kernel
theorem dL_hour_50 : decode cL_hour 50 = .ok (.if_icmp .ge 118, 3) := by decide +kernel
theorem dL_hour_53 : decode cL_hour 53 = .ok (.aload_n 0, 1) := by decide +kernel
theorem dL_hour_54 : decode cL_hour 54 = .ok (.iload 8, 2) := by decide +kernel
theorem dL_hour_56 : decode cL_hour 56 = .ok (.invokevirtual 32, 3) := by decide +kernel
theorem dL_hour_59 : decode cL_hour 59 = .ok (.ifCond .ne 7, 3) := by decide +kernel
theorem dL_hour_62 : decode cL_hour 62 = .ok (.iconst 1, 1) := by decide +kernel
theorem dL_hour_63 : decode cL_hour 63 = .ok (.goto 4, 3) := by decide +kernel
theorem dL_hour_66 : decode cL_hour 66 = .ok (.iconst 0, 1) := by decide +kernel
theorem dL_hour_67 : decode cL_hour 67 = .ok (.istore 9, 2) := by decide +kernel
theorem dL_hour_69 : decode cL_hour 69 = .ok (.aload_n 0, 1) := by decide +kernel
theorem dL_hour_70 : decode cL_hour 70 = .ok (.iload 8, 2) := by decide +kernel
