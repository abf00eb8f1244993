theorem dL_isWhole_178 : decode cL_isWhole 178 = .ok (.ifCond .ge 7, 3) := by decide +kernel
theorem dL_isWhole_181 : decode cL_isWhole 181 = .ok (.iconst 1, 1) := by decide +kernel
theorem dL_isWhole_182 : decode cL_isWhole 182 = .ok (.goto 4, 3) := by decide +kernel
theorem dL_isWhole_185 : decode cL_isWhole 185 = .ok (.iconst 0, 1) := by decide +kernel
theorem dL_isWhole_186 : decode cL_isWhole 186 = .ok (.if_icmp .ne 204, 3) := by decide +kernel
theorem dL_isWhole_189 : decode cL_isWhole 189 = .ok (.iload 9, 2) := by decide +kernel
theorem dL_isWhole_191 : decode cL_isWhole 191 = .ok (.ifCond .lt 16, 3) := by decide +kernel
theorem dL_isWhole_194 : decode cL_isWhole 194 = .ok (.aload_n 0, 1) := by decide +kernel
theorem dL_isWhole_195 : decode cL_isWhole 195 = .ok (.iload 9, 2) := by decide +kernel
theorem dL_isWhole_197 : decode cL_isWhole 197 = .ok (.iload 10, 2) := by decide +kernel
theorem dL_isWhole_199 : decode cL_isWhole 199 = .ok (.invokevirtual 23, 3) := by decide +kernel
theorem dL_isWhole_202 : decode cL_isWhole 202 = .ok (.iload 8, 2) := by decide +kernel
theorem dL_isWhole_204 : decode cL_isWhole 204 = .ok (.if_icmp .ne 186, 3) := by decide +kernel
theorem dL_isWhole_207 : decode cL_isWhole 207 = .ok (.iload 11, 2) := by decide +kernel
theorem dL_isWhole_209 : decode cL_isWhole 209 = .ok (.ifCond .le 181, 3) := by decide +kernel
theorem dL_isWhole_212 : decode cL_isWhole 212 = .ok (.iload 13, 2) := by decide +kernel
theorem dL_isWhole_214 : decode cL_isWhole 214 = .ok (.iload 12, 2) := by decide +kernel
theorem dL_isWhole_216 : decode cL_isWhole 216 = .ok (.bipush 10, 2) := by decide +kernel
theorem dL_isWhole_218 : decode cL_isWhole 218 = .ok (.iload 11, 2) := by decide +kernel
theorem dL_isWhole_220 : decode cL_isWhole 220 = .ok (.imul, 1) := by decide +kernel
theorem dL_isWhole_221 : decode cL_isWhole 221 = .ok (.if_icmp .lt 7, 3) := by decide +kernel
theorem dL_isWhole_224 : decode cL_isWhole 224 = .ok (.iconst 1, 1) := by decide +kernel
theorem dL_isWhole_225 : decode cL_isWhole 225 = .ok (.goto 4, 3) := by decide +kernel
theorem dL_isWhole_228 : decode cL_isWhole 228 = .ok (.iconst 0, 1) := by decide +kernel
theorem dL_isWhole_229 : decode cL_isWhole 229 = .ok (.if_icmp .ne 161, 3) := by decide +kernel
theorem dL_isWhole_232 : decode cL_isWhole 232 = .ok (.iload 12, 2) := by decide +kernel
theorem dL_isWhole_234 : decode cL_isWhole 234 = .ok (.aload_n 0, 1) := by decide +kernel
theorem dL_isWhole_235 : decode cL_isWhole 235 = .ok (.iload 8, 2) := by decide +kernel
theorem dL_isWhole_237 : decode cL_isWhole 237 = .ok (.iconst 5, 1) := by decide +kernel
theorem dL_isWhole_238 : decode cL_isWhole 238 = .ok (.invokevirtual 29, 3) := by decide +kernel
theorem dL_isWhole_241 : decode cL_isWhole 241 = .ok (.if_icmp .lt 149, 3) := by decide +kernel
theorem dL_isWhole_244 : decode cL_isWhole 244 = .ok (.aload_n 0, 1) := by decide +kernel
theorem dL_isWhole_245 : decode cL_isWhole 245 = .ok (.iload 8, 2) := by decide +kernel
theorem dL_isWhole_247 : decode cL_isWhole 247 = .ok (.bipush 6, 2) := by decide +kernel
theorem dL_isWhole_249 : decode cL_isWhole 249 = .ok (.invokevirtual 29, 3) := by decide +kernel
theorem dL_isWhole_252 : decode cL_isWhole 252 = .ok (.iload 12, 2) := by decide +kernel
theorem dL_isWhole_254 : decode cL_isWhole 254 = .ok (.bipush 10, 2) := by decide +kernel
theorem dL_isWhole_256 : decode cL_isWhole 256 = .ok (.idiv, 1) := by decide +kernel
theorem dL_isWhole_257 : decode cL_isWhole 257 = .ok (.if_icmp .ne 133, 3) := by decide +kernel
theorem dL_isWhole_260 : decode cL_isWhole 260 = .ok (.iload 13, 2) := by decide +kernel
theorem dL_isWhole_262 : decode cL_isWhole 262 = .ok (.ifCond .eq 33, 3) := by decide +kernel
theorem dL_isWhole_265 : decode cL_isWhole 265 = .ok (.aload_n 0, 1) := by decide +kernel
theorem dL_isWhole_266 : decode cL_isWhole 266 = .ok (.iload 8, 2) := by decide +kernel
theorem dL_isWhole_268 : decode cL_isWhole 268 = .ok (.bipush 8, 2) := by decide +kernel
theorem dL_isWhole_270 : decode cL_isWhole 270 = .ok (.invokevirtual 29, 3) := by decide +kernel
theorem dL_isWhole_273 : decode cL_isWhole 273 = .ok (.ifCond .le 117, 3) := by decide +kernel
theorem dL_isWhole_276 : decode cL_isWhole 276 = .ok (.aload_n 0, 1) := by decide +kernel
theorem dL_isWhole_277 : decode cL_isWhole 277 = .ok (.iload 8, 2) := by decide +kernel
theorem dL_isWhole_279 : decode cL_isWhole 279 = .ok (.bipush 8, 2) := by decide +kernel
theorem dL_isWhole_281 : decode cL_isWhole 281 = .ok (.invokevirtual 29, 3) := by decide +kernel
theorem dL_isWhole_284 : decode cL_isWhole 284 = .ok (.aload_n 0, 1) := by decide +kernel
theorem dL_isWhole_285 : decode cL_isWhole 285 = .ok (.iconst 0, 1) := by decide +kernel
theorem dL_isWhole_286 : decode cL_isWhole 286 = .ok (.invokevirtual 13, 3) := by decide +kernel
theorem dL_isWhole_289 : decode cL_isWhole 289 = .ok (.if_icmp .gt 101, 3) := by decide +kernel
theorem dL_isWhole_292 : decode cL_isWhole 292 = .ok (.goto 17, 3) := by decide +kernel
theorem dL_isWhole_295 : decode cL_isWhole 295 = .ok (.aload_n 0, 1) := by decide +kernel
theorem dL_isWhole_296 : decode cL_isWhole 296 = .ok (.iload 8, 2) := by decide +kernel
theorem dL_isWhole_298 : decode cL_isWhole 298 = .ok (.bipush 8, 2) := by decide +kernel
theorem dL_isWhole_300 : decode cL_isWhole 300 = .ok (.invokevirtual 29, 3) := by decide +kernel
theorem dL_isWhole_303 : decode cL_isWhole 303 = .ok (.sipush (-1005), 3) := by decide +kernel
theorem dL_isWhole_306 : decode cL_isWhole 306 = .ok (.if_icmp .ne 84, 3) := by decide +kernel
theorem dL_isWhole_309 : decode cL_isWhole 309 = .ok (.aload_n 0, 1) := by decide +kernel
theorem dL_isWhole_310 : decode cL_isWhole 310 = .ok (.iload 8, 2) := by decide +kernel
theorem dL_isWhole_312 : decode cL_isWhole 312 = .ok (.bipush 9, 2) := by decide +kernel
theorem dL_isWhole_314 : decode cL_isWhole 314 = .ok (.invokevirtual 29, 3) := by decide +kernel
theorem dL_isWhole_317 : decode cL_isWhole 317 = .ok (.iconst 1, 1) := by decide +kernel
theorem dL_isWhole_318 : decode cL_isWhole 318 = .ok (.if_icmp .ne 7, 3) := by decide +kernel
theorem dL_isWhole_321 : decode cL_isWhole 321 = .ok (.iconst 1, 1) := by decide +kernel
theorem dL_isWhole_322 : decode cL_isWhole 322 = .ok (.goto 4, 3) := by decide +kernel
theorem dL_isWhole_325 : decode cL_isWhole 325 = .ok (.iconst 0, 1) := by decide +kernel
theorem dL_isWhole_326 : decode cL_isWhole 326 = .ok (.iload 8, 2) := by decide +kernel
theorem dL_isWhole_328 : decode cL_isWhole 328 = .ok (.bipush 10, 2) := by decide +kernel
theorem dL_isWhole_330 : decode cL_isWhole 330 = .ok (.irem, 1) := by decide +kernel
theorem dL_isWhole_331 : decode cL_isWhole 331 = .ok (.bipush 7, 2) := by decide +kernel
theorem dL_isWhole_333 : decode cL_isWhole 333 = .ok (.if_icmp .ne 7, 3) := by decide +kernel
theorem dL_isWhole_336 : decode cL_isWhole 336 = .ok (.iconst 1, 1) := by decide +kernel
theorem dL_isWhole_337 : decode cL_isWhole 337 = .ok (.goto 4, 3) := by decide +kernel
theorem dL_isWhole_340 : decode cL_isWhole 340 = .ok (.iconst 0, 1) := by decide +kernel
theorem dL_isWhole_341 : decode cL_isWhole 341 = .ok (.if_icmp .ne 49, 3) := by decide +kernel
theorem dL_isWhole_344 : decode cL_isWhole 344 = .ok (.aload_n 0, 1) := by decide +kernel
theorem dL_isWhole_345 : decode cL_isWhole 345 = .ok (.iload 8, 2) := by decide +kernel
theorem dL_isWhole_347 : decode cL_isWhole 347 = .ok (.invokevirtual 32, 3) := by decide +kernel
theorem dL_isWhole_350 : decode cL_isWhole 350 = .ok (.iload 13, 2) := by decide +kernel
theorem dL_isWhole_352 : decode cL_isWhole 352 = .ok (.ifCond .eq 7, 3) := by decide +kernel
theorem dL_isWhole_355 : decode cL_isWhole 355 = .ok (.iconst 1, 1) := by decide +kernel
theorem dL_isWhole_356 : decode cL_isWhole 356 = .ok (.goto 27, 3) := by decide +kernel
theorem dL_isWhole_359 : decode cL_isWhole 359 = .ok (.iload 9, 2) := by decide +kernel
theorem dL_isWhole_361 : decode cL_isWhole 361 = .ok (.ifCond .ge 7, 3) := by decide +kernel
theorem dL_isWhole_364 : decode cL_isWhole 364 = .ok (.iconst 2, 1) := by decide +kernel
theorem dL_isWhole_365 : decode cL_isWhole 365 = .ok (.goto 18, 3) := by decide +kernel
theorem dL_isWhole_368 : decode cL_isWhole 368 = .ok (.aload_n 0, 1) := by decide +kernel
theorem dL_isWhole_369 : decode cL_isWhole 369 = .ok (.iload 9, 2) := by decide +kernel
theorem dL_isWhole_371 : decode cL_isWhole 371 = .ok (.iconst 0, 1) := by decide +kernel
theorem dL_isWhole_372 : decode cL_isWhole 372 = .ok (.invokevirtual 19, 3) := by decide +kernel
theorem dL_isWhole_375 : decode cL_isWhole 375 = .ok (.ifCond .ne 7, 3) := by decide +kernel
theorem dL_isWhole_378 : decode cL_isWhole 378 = .ok (.iconst 3, 1) := by decide +kernel
theorem dL_isWhole_379 : decode cL_isWhole 379 = .ok (.goto 4, 3) := by decide +kernel
theorem dL_isWhole_382 : decode cL_isWhole 382 = .ok (.iconst 0, 1) := by decide +kernel
theorem dL_isWhole_383 : decode cL_isWhole 383 = .ok (.if_icmp .ne 7, 3) := by decide +kernel
theorem dL_isWhole_386 : decode cL_isWhole 386 = .ok (.iconst 1, 1) := by decide +kernel
theorem dL_isWhole_387 : decode cL_isWhole 387 = .ok (.goto 4, 3) := by decide +kernel
theorem dL_isWhole_390 : decode cL_isWhole 390 = .ok (.iconst 0, 1) := by decide +kernel
theorem dL_isWhole_391 : decode cL_isWhole 391 = .ok (.istore 7, 2) := by decide +kernel
theorem dL_isWhole_393 : decode cL_isWhole 393 = .ok (.iinc 8 1, 3) := by decide +kernel
theorem dL_isWhole_396 : decode cL_isWhole 396 = .ok (.goto (-375), 3) := by decide +kernel
theorem dL_isWhole_399 : decode cL_isWhole 399 = .ok (.iconst 0, 1) := by decide +kernel
theorem dL_isWhole_400 : decode cL_isWhole 400 = .ok (.istore 8, 2) := by decide +kernel
theorem dL_isWhole_402 : decode cL_isWhole 402 = .ok (.iconst 0, 1) := by decide +kernel
theorem dL_isWhole_403 : decode cL_isWhole 403 = .ok (.istore 9, 2) := by decide +kernel
theorem dL_isWhole_405 : decode cL_isWhole 405 = .ok (.iconst 0, 1) := by decide +kernel
theorem dL_isWhole_406 : decode cL_isWhole 406 = .ok (.istore 10, 2) := by decide +kernel
theorem dL_isWhole_408 : decode cL_isWhole 408 = .ok (.iload 10, 2) := by decide +kernel
theorem dL_isWhole_410 : decode cL_isWhole 410 = .ok (.bipush 6, 2) := by decide +kernel
theorem dL_isWhole_412 : decode cL_isWhole 412 = .ok (.if_icmp .ge 194, 3) := by decide +kernel
theorem dL_isWhole_415 : decode cL_isWhole 415 = .ok (.iload 7, 2) := by decide +kernel
theorem dL_isWhole_417 : decode cL_isWhole 417 = .ok (.ifCond .eq 189, 3) := by decide +kernel
theorem dL_isWhole_420 : decode cL_isWhole 420 = .ok (.aload_n 0, 1) := by decide +kernel
theorem dL_isWhole_421 : decode cL_isWhole 421 = .ok (.iload 10, 2) := by decide +kernel
theorem dL_isWhole_423 : decode cL_isWhole 423 = .ok (.iconst 2, 1) := by decide +kernel
theorem dL_isWhole_424 : decode cL_isWhole 424 = .ok (.invokevirtual 26, 3) := by decide +kernel
