theorem dL_hour_72 : decode cL_hour 72 = .ok (.iconst 2, 1) := by decide +kernel
theorem dL_hour_73 : decode cL_hour 73 = .ok (.invokevirtual 29, 3) := by decide +kernel
theorem dL_hour_76 : decode cL_hour 76 = .ok (.istore 10, 2) := by decide +kernel
theorem dL_hour_78 : decode cL_hour 78 = .ok (.iload 9, 2) := by decide +kernel
theorem dL_hour_80 : decode cL_hour 80 = .ok (.ifCond .eq 34, 3) := by decide +kernel
theorem dL_hour_83 : decode cL_hour 83 = .ok (.aload_n 0, 1) := by decide +kernel
theorem dL_hour_84 : decode cL_hour 84 = .ok (.aload_n 0, 1) := by decide +kernel
theorem dL_hour_85 : decode cL_hour 85 = .ok (.iload 8, 2) := by decide +kernel
theorem dL_hour_87 : decode cL_hour 87 = .ok (.iconst 1, 1) := by decide +kernel
theorem dL_hour_88 : decode cL_hour 88 = .ok (.invokevirtual 29, 3) := by decide +kernel
theorem dL_hour_91 : decode cL_hour 91 = .ok (.iload 10, 2) := by decide +kernel
theorem dL_hour_93 : decode cL_hour 93 = .ok (.iconst 3, 1) := by decide +kernel
theorem dL_hour_94 : decode cL_hour 94 = .ok (.if_icmp .eq 9, 3) := by decide +kernel
theorem dL_hour_97 : decode cL_hour 97 = .ok (.iload 10, 2) := by decide +kernel
theorem dL_hour_99 : decode cL_hour 99 = .ok (.iconst 4, 1) := by decide +kernel
theorem dL_hour_100 : decode cL_hour 100 = .ok (.if_icmp .ne 7, 3) := by decide +kernel
theorem dL_hour_103 : decode cL_hour 103 = .ok (.iconst 4, 1) := by decide +kernel
theorem dL_hour_104 : decode cL_hour 104 = .ok (.goto 4, 3) := by decide +kernel
theorem dL_hour_107 : decode cL_hour 107 = .ok (.iconst 3, 1) := by decide +kernel
theorem dL_hour_108 : decode cL_hour 108 = .ok (.invokevirtual 19, 3) := by decide +kernel
theorem dL_hour_111 : decode cL_hour 111 = .ok (.goto 4, 3) := by decide +kernel
theorem dL_hour_114 : decode cL_hour 114 = .ok (.iconst 0, 1) := by decide +kernel
theorem dL_hour_115 : decode cL_hour 115 = .ok (.istore 11, 2) := by decide +kernel
theorem dL_hour_117 : decode cL_hour 117 = .ok (.iload 6, 2) := by decide +kernel
theorem dL_hour_119 : decode cL_hour 119 = .ok (.iload 11, 2) := by decide +kernel
theorem dL_hour_121 : decode cL_hour 121 = .ok (.iadd, 1) := by decide +kernel
theorem dL_hour_122 : decode cL_hour 122 = .ok (.istore 6, 2) := by decide +kernel
theorem dL_hour_124 : decode cL_hour 124 = .ok (.iload 7, 2) := by decide +kernel
theorem dL_hour_126 : decode cL_hour 126 = .ok (.iload 9, 2) := by decide +kernel
theorem dL_hour_128 : decode cL_hour 128 = .ok (.ifCond .eq 30, 3) := by decide +kernel
theorem dL_hour_131 : decode cL_hour 131 = .ok (.aload_n 0, 1) := by decide +kernel
theorem dL_hour_132 : decode cL_hour 132 = .ok (.iload 8, 2) := by decide +kernel
theorem dL_hour_134 : decode cL_hour 134 = .ok (.iconst 4, 1) := by decide +kernel
theorem dL_hour_135 : decode cL_hour 135 = .ok (.invokevirtual 29, 3) := by decide +kernel
theorem dL_hour_138 : decode cL_hour 138 = .ok (.iload 11, 2) := by decide +kernel
theorem dL_hour_140 : decode cL_hour 140 = .ok (.iadd, 1) := by decide +kernel
theorem dL_hour_141 : decode cL_hour 141 = .ok (.bipush 10, 2) := by decide +kernel
theorem dL_hour_143 : decode cL_hour 143 = .ok (.aload_n 0, 1) := by decide +kernel
theorem dL_hour_144 : decode cL_hour 144 = .ok (.iload 8, 2) := by decide +kernel
theorem dL_hour_146 : decode cL_hour 146 = .ok (.iconst 3, 1) := by decide +kernel
theorem dL_hour_147 : decode cL_hour 147 = .ok (.invokevirtual 29, 3) := by decide +kernel
theorem dL_hour_150 : decode cL_hour 150 = .ok (.imul, 1) := by decide +kernel
theorem dL_hour_151 : decode cL_hour 151 = .ok (.if_icmp .lt 7, 3) := by decide +kernel
theorem dL_hour_154 : decode cL_hour 154 = .ok (.iconst 1, 1) := by decide +kernel
theorem dL_hour_155 : decode cL_hour 155 = .ok (.goto 4, 3) := by decide +kernel
theorem dL_hour_158 : decode cL_hour 158 = .ok (.iconst 0, 1) := by decide +kernel
theorem dL_hour_159 : decode cL_hour 159 = .ok (.iadd, 1) := by decide +kernel
theorem dL_hour_160 : decode cL_hour 160 = .ok (.istore 7, 2) := by decide +kernel
theorem dL_hour_162 : decode cL_hour 162 = .ok (.iinc 8 1, 3) := by decide +kernel
theorem dL_hour_165 : decode cL_hour 165 = .ok (.goto (-122), 3) := by decide +kernel
theorem dL_hour_168 : decode cL_hour 168 = .ok (.aload_n 0, 1) := by decide +kernel
theorem dL_hour_169 : decode cL_hour 169 = .ok (.iconst 1, 1) := by decide +kernel
theorem dL_hour_170 : decode cL_hour 170 = .ok (.iconst 0, 1) := by decide +kernel
theorem dL_hour_171 : decode cL_hour 171 = .ok (.invokevirtual 19, 3) := by decide +kernel
theorem dL_hour_174 : decode cL_hour 174 = .ok (.istore 8, 2) := by decide +kernel
theorem dL_hour_176 : decode cL_hour 176 = .ok (.aload_n 0, 1) := by decide +kernel
theorem dL_hour_177 : decode cL_hour 177 = .ok (.iconst 1, 1) := by decide +kernel
theorem dL_hour_178 : decode cL_hour 178 = .ok (.bipush 7, 2) := by decide +kernel
theorem dL_hour_180 : decode cL_hour 180 = .ok (.invokevirtual 19, 3) := by decide +kernel
theorem dL_hour_183 : decode cL_hour 183 = .ok (.iconst 1, 1) := by decide +kernel
theorem dL_hour_184 : decode cL_hour 184 = .ok (.if_icmp .ne 13, 3) := by decide +kernel
theorem dL_hour_187 : decode cL_hour 187 = .ok (.aload_n 0, 1) := by decide +kernel
theorem dL_hour_188 : decode cL_hour 188 = .ok (.iconst 1, 1) := by decide +kernel
theorem dL_hour_189 : decode cL_hour 189 = .ok (.bipush 6, 2) := by decide +kernel
theorem dL_hour_191 : decode cL_hour 191 = .ok (.invokevirtual 19, 3) := by decide +kernel
theorem dL_hour_194 : decode cL_hour 194 = .ok (.goto 4, 3) := by decide +kernel
theorem dL_hour_197 : decode cL_hour 197 = .ok (.iconst 0, 1) := by decide +kernel
theorem dL_hour_198 : decode cL_hour 198 = .ok (.istore 9, 2) := by decide +kernel
theorem dL_hour_200 : decode cL_hour 200 = .ok (.aload_n 0, 1) := by decide +kernel
theorem dL_hour_201 : decode cL_hour 201 = .ok (.iconst 1, 1) := by decide +kernel
theorem dL_hour_202 : decode cL_hour 202 = .ok (.invokevirtual 66, 3) := by decide +kernel
theorem dL_hour_205 : decode cL_hour 205 = .ok (.istore 10, 2) := by decide +kernel
theorem dL_hour_207 : decode cL_hour 207 = .ok (.iload 8, 2) := by decide +kernel
theorem dL_hour_209 : decode cL_hour 209 = .ok (.iload 9, 2) := by decide +kernel
theorem dL_hour_211 : decode cL_hour 211 = .ok (.iadd, 1) := by decide +kernel
theorem dL_hour_212 : decode cL_hour 212 = .ok (.ifCond .ge 7, 3) := by decide +kernel
theorem dL_hour_215 : decode cL_hour 215 = .ok (.iconst 0, 1) := by decide +kernel
theorem dL_hour_216 : decode cL_hour 216 = .ok (.goto 25, 3) := by decide +kernel
theorem dL_hour_219 : decode cL_hour 219 = .ok (.iload 8, 2) := by decide +kernel
theorem dL_hour_221 : decode cL_hour 221 = .ok (.iload 9, 2) := by decide +kernel
theorem dL_hour_223 : decode cL_hour 223 = .ok (.iadd, 1) := by decide +kernel
theorem dL_hour_224 : decode cL_hour 224 = .ok (.sipush 300, 3) := by decide +kernel
theorem dL_hour_227 : decode cL_hour 227 = .ok (.if_icmp .le 9, 3) := by decide +kernel
theorem dL_hour_230 : decode cL_hour 230 = .ok (.sipush 300, 3) := by decide +kernel
theorem dL_hour_233 : decode cL_hour 233 = .ok (.goto 8, 3) := by decide +kernel
theorem dL_hour_236 : decode cL_hour 236 = .ok (.iload 8, 2) := by decide +kernel
theorem dL_hour_238 : decode cL_hour 238 = .ok (.iload 9, 2) := by decide +kernel
theorem dL_hour_240 : decode cL_hour 240 = .ok (.iadd, 1) := by decide +kernel
theorem dL_hour_241 : decode cL_hour 241 = .ok (.istore 11, 2) := by decide +kernel
theorem dL_hour_243 : decode cL_hour 243 = .ok (.iload 10, 2) := by decide +kernel
theorem dL_hour_245 : decode cL_hour 245 = .ok (.iload 7, 2) := by decide +kernel
theorem dL_hour_247 : decode cL_hour 247 = .ok (.if_icmp .ne 69, 3) := by decide +kernel
theorem dL_hour_250 : decode cL_hour 250 = .ok (.aload_n 0, 1) := by decide +kernel
theorem dL_hour_251 : decode cL_hour 251 = .ok (.iconst 0, 1) := by decide +kernel
theorem dL_hour_252 : decode cL_hour 252 = .ok (.invokevirtual 13, 3) := by decide +kernel
theorem dL_hour_255 : decode cL_hour 255 = .ok (.iload_n 1, 1) := by decide +kernel
theorem dL_hour_256 : decode cL_hour 256 = .ok (.iconst 1, 1) := by decide +kernel
theorem dL_hour_257 : decode cL_hour 257 = .ok (.iadd, 1) := by decide +kernel
theorem dL_hour_258 : decode cL_hour 258 = .ok (.if_icmp .ne 58, 3) := by decide +kernel
theorem dL_hour_261 : decode cL_hour 261 = .ok (.aload_n 0, 1) := by decide +kernel
theorem dL_hour_262 : decode cL_hour 262 = .ok (.bipush 6, 2) := by decide +kernel
theorem dL_hour_264 : decode cL_hour 264 = .ok (.invokevirtual 13, 3) := by decide +kernel
theorem dL_hour_267 : decode cL_hour 267 = .ok (.iload_n 3, 1) := by decide +kernel
theorem dL_hour_268 : decode cL_hour 268 = .ok (.iload_n 2, 1) := by decide +kernel
theorem dL_hour_269 : decode cL_hour 269 = .ok (.iadd, 1) := by decide +kernel
theorem dL_hour_270 : decode cL_hour 270 = .ok (.if_icmp .ne 46, 3) := by decide +kernel
theorem dL_hour_273 : decode cL_hour 273 = .ok (.aload_n 0, 1) := by decide +kernel
theorem dL_hour_274 : decode cL_hour 274 = .ok (.bipush 7, 2) := by decide +kernel
theorem dL_hour_276 : decode cL_hour 276 = .ok (.invokevirtual 13, 3) := by decide +kernel
theorem dL_hour_279 : decode cL_hour 279 = .ok (.iload 4, 2) := by decide +kernel
theorem dL_hour_281 : decode cL_hour 281 = .ok (.iload 6, 2) := by decide +kernel
theorem dL_hour_283 : decode cL_hour 283 = .ok (.iadd, 1) := by decide +kernel
theorem dL_hour_284 : decode cL_hour 284 = .ok (.if_icmp .ne 32, 3) := by decide +kernel
theorem dL_hour_287 : decode cL_hour 287 = .ok (.aload_n 0, 1) := by decide +kernel
theorem dL_hour_288 : decode cL_hour 288 = .ok (.iconst 4, 1) := by decide +kernel
theorem dL_hour_289 : decode cL_hour 289 = .ok (.invokevirtual 13, 3) := by decide +kernel
theorem dL_hour_292 : decode cL_hour 292 = .ok (.iload 5, 2) := by decide +kernel
theorem dL_hour_294 : decode cL_hour 294 = .ok (.iload 7, 2) := by decide +kernel
theorem dL_hour_296 : decode cL_hour 296 = .ok (.iadd, 1) := by decide +kernel
theorem dL_hour_297 : decode cL_hour 297 = .ok (.if_icmp .ne 19, 3) := by decide +kernel
