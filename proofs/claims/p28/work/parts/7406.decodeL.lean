theorem dL_refusesAny_262 : decode cL_refusesAny 262 = .ok (.aload_n 0, 1) := by decide +kernel
theorem dL_refusesAny_263 : decode cL_refusesAny 263 = .ok (.iconst 0, 1) := by decide +kernel
theorem dL_refusesAny_264 : decode cL_refusesAny 264 = .ok (.iload 4, 2) := by decide +kernel
theorem dL_refusesAny_266 : decode cL_refusesAny 266 = .ok (.invokevirtual 50, 3) := by decide +kernel
theorem dL_refusesAny_269 : decode cL_refusesAny 269 = .ok (.sipush (-1001), 3) := by decide +kernel
theorem dL_refusesAny_272 : decode cL_refusesAny 272 = .ok (.if_icmp .ne 110, 3) := by decide +kernel
theorem dL_refusesAny_275 : decode cL_refusesAny 275 = .ok (.aload_n 0, 1) := by decide +kernel
theorem dL_refusesAny_276 : decode cL_refusesAny 276 = .ok (.iconst 2, 1) := by decide +kernel
theorem dL_refusesAny_277 : decode cL_refusesAny 277 = .ok (.iconst 2, 1) := by decide +kernel
theorem dL_refusesAny_278 : decode cL_refusesAny 278 = .ok (.invokevirtual 23, 3) := by decide +kernel
theorem dL_refusesAny_281 : decode cL_refusesAny 281 = .ok (.ifCond .ge 15, 3) := by decide +kernel
theorem dL_refusesAny_284 : decode cL_refusesAny 284 = .ok (.aload_n 0, 1) := by decide +kernel
theorem dL_refusesAny_285 : decode cL_refusesAny 285 = .ok (.iconst 2, 1) := by decide +kernel
theorem dL_refusesAny_286 : decode cL_refusesAny 286 = .ok (.iconst 2, 1) := by decide +kernel
theorem dL_refusesAny_287 : decode cL_refusesAny 287 = .ok (.invokevirtual 50, 3) := by decide +kernel
theorem dL_refusesAny_290 : decode cL_refusesAny 290 = .ok (.sipush (-1005), 3) := by decide +kernel
theorem dL_refusesAny_293 : decode cL_refusesAny 293 = .ok (.if_icmp .ne 89, 3) := by decide +kernel
theorem dL_refusesAny_296 : decode cL_refusesAny 296 = .ok (.aload_n 0, 1) := by decide +kernel
theorem dL_refusesAny_297 : decode cL_refusesAny 297 = .ok (.iload_n 3, 1) := by decide +kernel
theorem dL_refusesAny_298 : decode cL_refusesAny 298 = .ok (.iconst 0, 1) := by decide +kernel
theorem dL_refusesAny_299 : decode cL_refusesAny 299 = .ok (.iconst 0, 1) := by decide +kernel
theorem dL_refusesAny_300 : decode cL_refusesAny 300 = .ok (.iconst 0, 1) := by decide +kernel
theorem dL_refusesAny_301 : decode cL_refusesAny 301 = .ok (.invokevirtual 53, 3) := by decide +kernel
theorem dL_refusesAny_304 : decode cL_refusesAny 304 = .ok (.sipush (-1001), 3) := by decide +kernel
theorem dL_refusesAny_307 : decode cL_refusesAny 307 = .ok (.if_icmp .ne 75, 3) := by decide +kernel
theorem dL_refusesAny_310 : decode cL_refusesAny 310 = .ok (.aload_n 0, 1) := by decide +kernel
theorem dL_refusesAny_311 : decode cL_refusesAny 311 = .ok (.iconst 0, 1) := by decide +kernel
theorem dL_refusesAny_312 : decode cL_refusesAny 312 = .ok (.iload 4, 2) := by decide +kernel
theorem dL_refusesAny_314 : decode cL_refusesAny 314 = .ok (.iconst 0, 1) := by decide +kernel
theorem dL_refusesAny_315 : decode cL_refusesAny 315 = .ok (.iconst 0, 1) := by decide +kernel
theorem dL_refusesAny_316 : decode cL_refusesAny 316 = .ok (.invokevirtual 53, 3) := by decide +kernel
theorem dL_refusesAny_319 : decode cL_refusesAny 319 = .ok (.sipush (-1001), 3) := by decide +kernel
theorem dL_refusesAny_322 : decode cL_refusesAny 322 = .ok (.if_icmp .ne 60, 3) := by decide +kernel
theorem dL_refusesAny_325 : decode cL_refusesAny 325 = .ok (.aload_n 0, 1) := by decide +kernel
theorem dL_refusesAny_326 : decode cL_refusesAny 326 = .ok (.iconst 0, 1) := by decide +kernel
theorem dL_refusesAny_327 : decode cL_refusesAny 327 = .ok (.iconst 0, 1) := by decide +kernel
theorem dL_refusesAny_328 : decode cL_refusesAny 328 = .ok (.iload_n 3, 1) := by decide +kernel
theorem dL_refusesAny_329 : decode cL_refusesAny 329 = .ok (.iconst 0, 1) := by decide +kernel
theorem dL_refusesAny_330 : decode cL_refusesAny 330 = .ok (.invokevirtual 53, 3) := by decide +kernel
theorem dL_refusesAny_333 : decode cL_refusesAny 333 = .ok (.sipush (-1001), 3) := by decide +kernel
theorem dL_refusesAny_336 : decode cL_refusesAny 336 = .ok (.if_icmp .ne 46, 3) := by decide +kernel
theorem dL_refusesAny_339 : decode cL_refusesAny 339 = .ok (.aload_n 0, 1) := by decide +kernel
theorem dL_refusesAny_340 : decode cL_refusesAny 340 = .ok (.iconst 0, 1) := by decide +kernel
theorem dL_refusesAny_341 : decode cL_refusesAny 341 = .ok (.iconst 0, 1) := by decide +kernel
theorem dL_refusesAny_342 : decode cL_refusesAny 342 = .ok (.iconst 0, 1) := by decide +kernel
theorem dL_refusesAny_343 : decode cL_refusesAny 343 = .ok (.iload 4, 2) := by decide +kernel
theorem dL_refusesAny_345 : decode cL_refusesAny 345 = .ok (.invokevirtual 53, 3) := by decide +kernel
theorem dL_refusesAny_348 : decode cL_refusesAny 348 = .ok (.sipush (-1001), 3) := by decide +kernel
theorem dL_refusesAny_351 : decode cL_refusesAny 351 = .ok (.if_icmp .ne 31, 3) := by decide +kernel
theorem dL_refusesAny_354 : decode cL_refusesAny 354 = .ok (.aload_n 0, 1) := by decide +kernel
theorem dL_refusesAny_355 : decode cL_refusesAny 355 = .ok (.iload_n 1, 1) := by decide +kernel
theorem dL_refusesAny_356 : decode cL_refusesAny 356 = .ok (.iconst 3, 1) := by decide +kernel
theorem dL_refusesAny_357 : decode cL_refusesAny 357 = .ok (.irem, 1) := by decide +kernel
theorem dL_refusesAny_358 : decode cL_refusesAny 358 = .ok (.iload_n 1, 1) := by decide +kernel
theorem dL_refusesAny_359 : decode cL_refusesAny 359 = .ok (.bipush 8, 2) := by decide +kernel
theorem dL_refusesAny_361 : decode cL_refusesAny 361 = .ok (.irem, 1) := by decide +kernel
theorem dL_refusesAny_362 : decode cL_refusesAny 362 = .ok (.iload_n 1, 1) := by decide +kernel
theorem dL_refusesAny_363 : decode cL_refusesAny 363 = .ok (.iconst 3, 1) := by decide +kernel
theorem dL_refusesAny_364 : decode cL_refusesAny 364 = .ok (.irem, 1) := by decide +kernel
theorem dL_refusesAny_365 : decode cL_refusesAny 365 = .ok (.iload_n 1, 1) := by decide +kernel
theorem dL_refusesAny_366 : decode cL_refusesAny 366 = .ok (.bipush 8, 2) := by decide +kernel
theorem dL_refusesAny_368 : decode cL_refusesAny 368 = .ok (.irem, 1) := by decide +kernel
theorem dL_refusesAny_369 : decode cL_refusesAny 369 = .ok (.invokevirtual 53, 3) := by decide +kernel
theorem dL_refusesAny_372 : decode cL_refusesAny 372 = .ok (.sipush (-1005), 3) := by decide +kernel
theorem dL_refusesAny_375 : decode cL_refusesAny 375 = .ok (.if_icmp .ne 7, 3) := by decide +kernel
theorem dL_refusesAny_378 : decode cL_refusesAny 378 = .ok (.iconst 1, 1) := by decide +kernel
theorem dL_refusesAny_379 : decode cL_refusesAny 379 = .ok (.goto 4, 3) := by decide +kernel
theorem dL_refusesAny_382 : decode cL_refusesAny 382 = .ok (.iconst 0, 1) := by decide +kernel
theorem dL_refusesAny_383 : decode cL_refusesAny 383 = .ok (.istore 5, 2) := by decide +kernel
theorem dL_refusesAny_385 : decode cL_refusesAny 385 = .ok (.iload 5, 2) := by decide +kernel
theorem dL_refusesAny_387 : decode cL_refusesAny 387 = .ok (.ifCond .eq 248, 3) := by decide +kernel
theorem dL_refusesAny_390 : decode cL_refusesAny 390 = .ok (.aload_n 0, 1) := by decide +kernel
theorem dL_refusesAny_391 : decode cL_refusesAny 391 = .ok (.iload_n 3, 1) := by decide +kernel
theorem dL_refusesAny_392 : decode cL_refusesAny 392 = .ok (.sipush 999, 3) := by decide +kernel
theorem dL_refusesAny_395 : decode cL_refusesAny 395 = .ok (.invokevirtual 57, 3) := by decide +kernel
theorem dL_refusesAny_398 : decode cL_refusesAny 398 = .ok (.sipush (-1001), 3) := by decide +kernel
theorem dL_refusesAny_401 : decode cL_refusesAny 401 = .ok (.if_icmp .ne 234, 3) := by decide +kernel
theorem dL_refusesAny_404 : decode cL_refusesAny 404 = .ok (.aload_n 0, 1) := by decide +kernel
theorem dL_refusesAny_405 : decode cL_refusesAny 405 = .ok (.iconst 0, 1) := by decide +kernel
theorem dL_refusesAny_406 : decode cL_refusesAny 406 = .ok (.iload_n 1, 1) := by decide +kernel
theorem dL_refusesAny_407 : decode cL_refusesAny 407 = .ok (.iconst 2, 1) := by decide +kernel
theorem dL_refusesAny_408 : decode cL_refusesAny 408 = .ok (.irem, 1) := by decide +kernel
theorem dL_refusesAny_409 : decode cL_refusesAny 409 = .ok (.ifCond .ne 7, 3) := by decide +kernel
theorem dL_refusesAny_412 : decode cL_refusesAny 412 = .ok (.iconst (-1), 1) := by decide +kernel
theorem dL_refusesAny_413 : decode cL_refusesAny 413 = .ok (.goto 6, 3) := by decide +kernel
theorem dL_refusesAny_416 : decode cL_refusesAny 416 = .ok (.sipush 301, 3) := by decide +kernel
theorem dL_refusesAny_419 : decode cL_refusesAny 419 = .ok (.invokevirtual 57, 3) := by decide +kernel
theorem dL_refusesAny_422 : decode cL_refusesAny 422 = .ok (.sipush (-1002), 3) := by decide +kernel
theorem dL_refusesAny_425 : decode cL_refusesAny 425 = .ok (.if_icmp .ne 210, 3) := by decide +kernel
theorem dL_refusesAny_428 : decode cL_refusesAny 428 = .ok (.aload_n 0, 1) := by decide +kernel
theorem dL_refusesAny_429 : decode cL_refusesAny 429 = .ok (.iload_n 1, 1) := by decide +kernel
theorem dL_refusesAny_430 : decode cL_refusesAny 430 = .ok (.iconst 3, 1) := by decide +kernel
theorem dL_refusesAny_431 : decode cL_refusesAny 431 = .ok (.irem, 1) := by decide +kernel
theorem dL_refusesAny_432 : decode cL_refusesAny 432 = .ok (.aload_n 0, 1) := by decide +kernel
theorem dL_refusesAny_433 : decode cL_refusesAny 433 = .ok (.iload_n 1, 1) := by decide +kernel
theorem dL_refusesAny_434 : decode cL_refusesAny 434 = .ok (.iconst 3, 1) := by decide +kernel
theorem dL_refusesAny_435 : decode cL_refusesAny 435 = .ok (.irem, 1) := by decide +kernel
theorem dL_refusesAny_436 : decode cL_refusesAny 436 = .ok (.iconst 0, 1) := by decide +kernel
theorem dL_refusesAny_437 : decode cL_refusesAny 437 = .ok (.invokevirtual 19, 3) := by decide +kernel
theorem dL_refusesAny_440 : decode cL_refusesAny 440 = .ok (.invokevirtual 57, 3) := by decide +kernel
theorem dL_refusesAny_443 : decode cL_refusesAny 443 = .ok (.sipush (-1005), 3) := by decide +kernel
theorem dL_refusesAny_446 : decode cL_refusesAny 446 = .ok (.if_icmp .ne 189, 3) := by decide +kernel
theorem dL_refusesAny_449 : decode cL_refusesAny 449 = .ok (.aload_n 0, 1) := by decide +kernel
theorem dL_refusesAny_450 : decode cL_refusesAny 450 = .ok (.iload_n 3, 1) := by decide +kernel
theorem dL_refusesAny_451 : decode cL_refusesAny 451 = .ok (.sipush 999, 3) := by decide +kernel
theorem dL_refusesAny_454 : decode cL_refusesAny 454 = .ok (.iconst 0, 1) := by decide +kernel
theorem dL_refusesAny_455 : decode cL_refusesAny 455 = .ok (.invokevirtual 60, 3) := by decide +kernel
theorem dL_refusesAny_458 : decode cL_refusesAny 458 = .ok (.sipush (-1001), 3) := by decide +kernel
theorem dL_refusesAny_461 : decode cL_refusesAny 461 = .ok (.if_icmp .ne 174, 3) := by decide +kernel
theorem dL_refusesAny_464 : decode cL_refusesAny 464 = .ok (.aload_n 0, 1) := by decide +kernel
theorem dL_refusesAny_465 : decode cL_refusesAny 465 = .ok (.iconst 0, 1) := by decide +kernel
theorem dL_refusesAny_466 : decode cL_refusesAny 466 = .ok (.iload_n 1, 1) := by decide +kernel
theorem dL_refusesAny_467 : decode cL_refusesAny 467 = .ok (.iconst 2, 1) := by decide +kernel
theorem dL_refusesAny_468 : decode cL_refusesAny 468 = .ok (.irem, 1) := by decide +kernel
theorem dL_refusesAny_469 : decode cL_refusesAny 469 = .ok (.ifCond .ne 7, 3) := by decide +kernel
theorem dL_refusesAny_472 : decode cL_refusesAny 472 = .ok (.iconst (-1), 1) := by decide +kernel
theorem dL_refusesAny_473 : decode cL_refusesAny 473 = .ok (.goto 5, 3) := by decide +kernel
theorem dL_refusesAny_476 : decode cL_refusesAny 476 = .ok (.bipush 100, 2) := by decide +kernel
theorem dL_refusesAny_478 : decode cL_refusesAny 478 = .ok (.iconst 0, 1) := by decide +kernel
theorem dL_refusesAny_479 : decode cL_refusesAny 479 = .ok (.invokevirtual 60, 3) := by decide +kernel
