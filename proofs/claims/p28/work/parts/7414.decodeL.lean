theorem dL_act_198 : decode cL_act 198 = .ok (.iconst 0, 1) := by decide +kernel
theorem dL_act_199 : decode cL_act 199 = .ok (.invokevirtual 26, 3) := by decide +kernel
theorem dL_act_202 : decode cL_act 202 = .ok (.iload 5, 2) := by decide +kernel
theorem dL_act_204 : decode cL_act 204 = .ok (.if_icmp .ne 20, 3) := by decide +kernel
theorem dL_act_207 : decode cL_act 207 = .ok (.aload_n 0, 1) := by decide +kernel
theorem dL_act_208 : decode cL_act 208 = .ok (.iload 4, 2) := by decide +kernel
theorem dL_act_210 : decode cL_act 210 = .ok (.iconst 1, 1) := by decide +kernel
theorem dL_act_211 : decode cL_act 211 = .ok (.invokevirtual 26, 3) := by decide +kernel
theorem dL_act_214 : decode cL_act 214 = .ok (.iload 6, 2) := by decide +kernel
theorem dL_act_216 : decode cL_act 216 = .ok (.if_icmp .ne 8, 3) := by decide +kernel
theorem dL_act_219 : decode cL_act 219 = .ok (.iload 9, 2) := by decide +kernel
theorem dL_act_221 : decode cL_act 221 = .ok (.goto 5, 3) := by decide +kernel
theorem dL_act_224 : decode cL_act 224 = .ok (.bipush (-9), 2) := by decide +kernel
theorem dL_act_226 : decode cL_act 226 = .ok (.ireturn, 1) := by decide +kernel
theorem dL_act_227 : decode cL_act 227 = .ok (.iload_n 2, 1) := by decide +kernel
theorem dL_act_228 : decode cL_act 228 = .ok (.bipush 13, 2) := by decide +kernel
theorem dL_act_230 : decode cL_act 230 = .ok (.if_icmp .ne 89, 3) := by decide +kernel
theorem dL_act_233 : decode cL_act 233 = .ok (.iload_n 3, 1) := by decide +kernel
theorem dL_act_234 : decode cL_act 234 = .ok (.iconst 3, 1) := by decide +kernel
theorem dL_act_235 : decode cL_act 235 = .ok (.irem, 1) := by decide +kernel
theorem dL_act_236 : decode cL_act 236 = .ok (.istore 4, 2) := by decide +kernel
theorem dL_act_238 : decode cL_act 238 = .ok (.iload_n 3, 1) := by decide +kernel
theorem dL_act_239 : decode cL_act 239 = .ok (.iconst 3, 1) := by decide +kernel
theorem dL_act_240 : decode cL_act 240 = .ok (.idiv, 1) := by decide +kernel
theorem dL_act_241 : decode cL_act 241 = .ok (.iconst 5, 1) := by decide +kernel
theorem dL_act_242 : decode cL_act 242 = .ok (.irem, 1) := by decide +kernel
theorem dL_act_243 : decode cL_act 243 = .ok (.ifCond .ne 7, 3) := by decide +kernel
theorem dL_act_246 : decode cL_act 246 = .ok (.iconst 0, 1) := by decide +kernel
theorem dL_act_247 : decode cL_act 247 = .ok (.goto 11, 3) := by decide +kernel
theorem dL_act_250 : decode cL_act 250 = .ok (.iload_n 3, 1) := by decide +kernel
theorem dL_act_251 : decode cL_act 251 = .ok (.bipush 15, 2) := by decide +kernel
theorem dL_act_253 : decode cL_act 253 = .ok (.idiv, 1) := by decide +kernel
theorem dL_act_254 : decode cL_act 254 = .ok (.sipush 301, 3) := by decide +kernel
theorem dL_act_257 : decode cL_act 257 = .ok (.irem, 1) := by decide +kernel
theorem dL_act_258 : decode cL_act 258 = .ok (.istore 5, 2) := by decide +kernel
theorem dL_act_260 : decode cL_act 260 = .ok (.aload_n 0, 1) := by decide +kernel
theorem dL_act_261 : decode cL_act 261 = .ok (.iload 4, 2) := by decide +kernel
theorem dL_act_263 : decode cL_act 263 = .ok (.iconst 0, 1) := by decide +kernel
theorem dL_act_264 : decode cL_act 264 = .ok (.invokevirtual 19, 3) := by decide +kernel
theorem dL_act_267 : decode cL_act 267 = .ok (.istore 6, 2) := by decide +kernel
theorem dL_act_269 : decode cL_act 269 = .ok (.aload_n 0, 1) := by decide +kernel
theorem dL_act_270 : decode cL_act 270 = .ok (.iload 4, 2) := by decide +kernel
theorem dL_act_272 : decode cL_act 272 = .ok (.iload 5, 2) := by decide +kernel
theorem dL_act_274 : decode cL_act 274 = .ok (.invokevirtual 57, 3) := by decide +kernel
theorem dL_act_277 : decode cL_act 277 = .ok (.istore 7, 2) := by decide +kernel
theorem dL_act_279 : decode cL_act 279 = .ok (.iload 7, 2) := by decide +kernel
theorem dL_act_281 : decode cL_act 281 = .ok (.iload 6, 2) := by decide +kernel
theorem dL_act_283 : decode cL_act 283 = .ok (.iload 5, 2) := by decide +kernel
theorem dL_act_285 : decode cL_act 285 = .ok (.if_icmp .ne 9, 3) := by decide +kernel
theorem dL_act_288 : decode cL_act 288 = .ok (.sipush (-1005), 3) := by decide +kernel
theorem dL_act_291 : decode cL_act 291 = .ok (.goto 5, 3) := by decide +kernel
theorem dL_act_294 : decode cL_act 294 = .ok (.iload 6, 2) := by decide +kernel
theorem dL_act_296 : decode cL_act 296 = .ok (.if_icmp .ne 20, 3) := by decide +kernel
theorem dL_act_299 : decode cL_act 299 = .ok (.aload_n 0, 1) := by decide +kernel
theorem dL_act_300 : decode cL_act 300 = .ok (.iload 4, 2) := by decide +kernel
theorem dL_act_302 : decode cL_act 302 = .ok (.iconst 0, 1) := by decide +kernel
theorem dL_act_303 : decode cL_act 303 = .ok (.invokevirtual 19, 3) := by decide +kernel
theorem dL_act_306 : decode cL_act 306 = .ok (.iload 5, 2) := by decide +kernel
theorem dL_act_308 : decode cL_act 308 = .ok (.if_icmp .ne 8, 3) := by decide +kernel
theorem dL_act_311 : decode cL_act 311 = .ok (.iload 7, 2) := by decide +kernel
theorem dL_act_313 : decode cL_act 313 = .ok (.goto 5, 3) := by decide +kernel
theorem dL_act_316 : decode cL_act 316 = .ok (.bipush (-9), 2) := by decide +kernel
theorem dL_act_318 : decode cL_act 318 = .ok (.ireturn, 1) := by decide +kernel
theorem dL_act_319 : decode cL_act 319 = .ok (.iload_n 2, 1) := by decide +kernel
theorem dL_act_320 : decode cL_act 320 = .ok (.bipush 14, 2) := by decide +kernel
theorem dL_act_322 : decode cL_act 322 = .ok (.if_icmp .ne 112, 3) := by decide +kernel
theorem dL_act_325 : decode cL_act 325 = .ok (.iload_n 3, 1) := by decide +kernel
theorem dL_act_326 : decode cL_act 326 = .ok (.iconst 3, 1) := by decide +kernel
theorem dL_act_327 : decode cL_act 327 = .ok (.irem, 1) := by decide +kernel
theorem dL_act_328 : decode cL_act 328 = .ok (.istore 4, 2) := by decide +kernel
theorem dL_act_330 : decode cL_act 330 = .ok (.iload_n 3, 1) := by decide +kernel
theorem dL_act_331 : decode cL_act 331 = .ok (.iconst 3, 1) := by decide +kernel
theorem dL_act_332 : decode cL_act 332 = .ok (.idiv, 1) := by decide +kernel
theorem dL_act_333 : decode cL_act 333 = .ok (.bipush 100, 2) := by decide +kernel
theorem dL_act_335 : decode cL_act 335 = .ok (.irem, 1) := by decide +kernel
theorem dL_act_336 : decode cL_act 336 = .ok (.istore 5, 2) := by decide +kernel
theorem dL_act_338 : decode cL_act 338 = .ok (.iload_n 3, 1) := by decide +kernel
theorem dL_act_339 : decode cL_act 339 = .ok (.iconst 5, 1) := by decide +kernel
theorem dL_act_340 : decode cL_act 340 = .ok (.idiv, 1) := by decide +kernel
theorem dL_act_341 : decode cL_act 341 = .ok (.bipush 101, 2) := by decide +kernel
theorem dL_act_343 : decode cL_act 343 = .ok (.irem, 1) := by decide +kernel
theorem dL_act_344 : decode cL_act 344 = .ok (.bipush 50, 2) := by decide +kernel
theorem dL_act_346 : decode cL_act 346 = .ok (.isub, 1) := by decide +kernel
theorem dL_act_347 : decode cL_act 347 = .ok (.istore 6, 2) := by decide +kernel
theorem dL_act_349 : decode cL_act 349 = .ok (.aload_n 0, 1) := by decide +kernel
theorem dL_act_350 : decode cL_act 350 = .ok (.iload 4, 2) := by decide +kernel
theorem dL_act_352 : decode cL_act 352 = .ok (.iconst 5, 1) := by decide +kernel
theorem dL_act_353 : decode cL_act 353 = .ok (.invokevirtual 19, 3) := by decide +kernel
theorem dL_act_356 : decode cL_act 356 = .ok (.istore 7, 2) := by decide +kernel
theorem dL_act_358 : decode cL_act 358 = .ok (.aload_n 0, 1) := by decide +kernel
theorem dL_act_359 : decode cL_act 359 = .ok (.iload 4, 2) := by decide +kernel
theorem dL_act_361 : decode cL_act 361 = .ok (.iload 5, 2) := by decide +kernel
theorem dL_act_363 : decode cL_act 363 = .ok (.iload 6, 2) := by decide +kernel
theorem dL_act_365 : decode cL_act 365 = .ok (.invokevirtual 60, 3) := by decide +kernel
theorem dL_act_368 : decode cL_act 368 = .ok (.istore 8, 2) := by decide +kernel
theorem dL_act_370 : decode cL_act 370 = .ok (.iload 8, 2) := by decide +kernel
theorem dL_act_372 : decode cL_act 372 = .ok (.iload 7, 2) := by decide +kernel
theorem dL_act_374 : decode cL_act 374 = .ok (.if_icmp .ne 57, 3) := by decide +kernel
theorem dL_act_377 : decode cL_act 377 = .ok (.aload_n 0, 1) := by decide +kernel
theorem dL_act_378 : decode cL_act 378 = .ok (.iload 4, 2) := by decide +kernel
theorem dL_act_380 : decode cL_act 380 = .ok (.iconst 5, 1) := by decide +kernel
theorem dL_act_381 : decode cL_act 381 = .ok (.invokevirtual 19, 3) := by decide +kernel
theorem dL_act_384 : decode cL_act 384 = .ok (.iload 5, 2) := by decide +kernel
theorem dL_act_386 : decode cL_act 386 = .ok (.if_icmp .ne 45, 3) := by decide +kernel
theorem dL_act_389 : decode cL_act 389 = .ok (.aload_n 0, 1) := by decide +kernel
theorem dL_act_390 : decode cL_act 390 = .ok (.iload 4, 2) := by decide +kernel
theorem dL_act_392 : decode cL_act 392 = .ok (.bipush 6, 2) := by decide +kernel
theorem dL_act_394 : decode cL_act 394 = .ok (.invokevirtual 19, 3) := by decide +kernel
theorem dL_act_397 : decode cL_act 397 = .ok (.iload 6, 2) := by decide +kernel
theorem dL_act_399 : decode cL_act 399 = .ok (.if_icmp .ne 32, 3) := by decide +kernel
theorem dL_act_402 : decode cL_act 402 = .ok (.aload_n 0, 1) := by decide +kernel
theorem dL_act_403 : decode cL_act 403 = .ok (.iload 4, 2) := by decide +kernel
theorem dL_act_405 : decode cL_act 405 = .ok (.bipush 7, 2) := by decide +kernel
theorem dL_act_407 : decode cL_act 407 = .ok (.invokevirtual 19, 3) := by decide +kernel
theorem dL_act_410 : decode cL_act 410 = .ok (.iload 5, 2) := by decide +kernel
theorem dL_act_412 : decode cL_act 412 = .ok (.ifCond .ne 9, 3) := by decide +kernel
theorem dL_act_415 : decode cL_act 415 = .ok (.sipush (-1005), 3) := by decide +kernel
theorem dL_act_418 : decode cL_act 418 = .ok (.goto 5, 3) := by decide +kernel
theorem dL_act_421 : decode cL_act 421 = .ok (.iload 5, 2) := by decide +kernel
theorem dL_act_423 : decode cL_act 423 = .ok (.if_icmp .ne 8, 3) := by decide +kernel
