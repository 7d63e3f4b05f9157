theorem d_Law_law_312 : decode b_Law_law 312 = .ok (.iadd, 1) := by decide +kernel
theorem d_Law_law_313 : decode b_Law_law 313 = .ok (.iaload, 1) := by decide +kernel
theorem d_Law_law_314 : decode b_Law_law 314 = .ok (.aload_n 0, 1) := by decide +kernel
theorem d_Law_law_315 : decode b_Law_law 315 = .ok (.iload 4, 2) := by decide +kernel
theorem d_Law_law_317 : decode b_Law_law 317 = .ok (.iconst 2, 1) := by decide +kernel
theorem d_Law_law_318 : decode b_Law_law 318 = .ok (.iadd, 1) := by decide +kernel
theorem d_Law_law_319 : decode b_Law_law 319 = .ok (.iaload, 1) := by decide +kernel
theorem d_Law_law_320 : decode b_Law_law 320 = .ok (.aload_n 3, 1) := by decide +kernel
theorem d_Law_law_321 : decode b_Law_law 321 = .ok (.invokestatic 68, 3) := by decide +kernel
theorem d_Law_law_324 : decode b_Law_law 324 = .ok (.istore 5, 2) := by decide +kernel
theorem d_Law_law_326 : decode b_Law_law 326 = .ok (.aload_n 2, 1) := by decide +kernel
theorem d_Law_law_327 : decode b_Law_law 327 = .ok (.aload_n 0, 1) := by decide +kernel
theorem d_Law_law_328 : decode b_Law_law 328 = .ok (.iload 4, 2) := by decide +kernel
theorem d_Law_law_330 : decode b_Law_law 330 = .ok (.iconst 1, 1) := by decide +kernel
theorem d_Law_law_331 : decode b_Law_law 331 = .ok (.iadd, 1) := by decide +kernel
theorem d_Law_law_332 : decode b_Law_law 332 = .ok (.iaload, 1) := by decide +kernel
theorem d_Law_law_333 : decode b_Law_law 333 = .ok (.aload_n 0, 1) := by decide +kernel
theorem d_Law_law_334 : decode b_Law_law 334 = .ok (.iload 4, 2) := by decide +kernel
theorem d_Law_law_336 : decode b_Law_law 336 = .ok (.iconst 2, 1) := by decide +kernel
theorem d_Law_law_337 : decode b_Law_law 337 = .ok (.iadd, 1) := by decide +kernel
theorem d_Law_law_338 : decode b_Law_law 338 = .ok (.iaload, 1) := by decide +kernel
theorem d_Law_law_339 : decode b_Law_law 339 = .ok (.invokevirtual 71, 3) := by decide +kernel
theorem d_Law_law_342 : decode b_Law_law 342 = .ok (.istore 6, 2) := by decide +kernel
theorem d_Law_law_344 : decode b_Law_law 344 = .ok (.aload_n 2, 1) := by decide +kernel
theorem d_Law_law_345 : decode b_Law_law 345 = .ok (.invokevirtual 48, 3) := by decide +kernel
theorem d_Law_law_348 : decode b_Law_law 348 = .ok (.iload 5, 2) := by decide +kernel
theorem d_Law_law_350 : decode b_Law_law 350 = .ok (.if_icmp .eq 5, 3) := by decide +kernel
theorem d_Law_law_355 : decode b_Law_law 355 = .ok (.iload 5, 2) := by decide +kernel
theorem d_Law_law_357 : decode b_Law_law 357 = .ok (.ifCond .ne 15, 3) := by decide +kernel
theorem d_Law_law_372 : decode b_Law_law 372 = .ok (.goto 220, 3) := by decide +kernel
theorem d_Law_law_375 : decode b_Law_law 375 = .ok (.aload_n 1, 1) := by decide +kernel
theorem d_Law_law_376 : decode b_Law_law 376 = .ok (.aload_n 0, 1) := by decide +kernel
theorem d_Law_law_377 : decode b_Law_law 377 = .ok (.iload 4, 2) := by decide +kernel
theorem d_Law_law_379 : decode b_Law_law 379 = .ok (.iconst 1, 1) := by decide +kernel
theorem d_Law_law_380 : decode b_Law_law 380 = .ok (.iadd, 1) := by decide +kernel
theorem d_Law_law_381 : decode b_Law_law 381 = .ok (.iaload, 1) := by decide +kernel
theorem d_Law_law_382 : decode b_Law_law 382 = .ok (.aload_n 0, 1) := by decide +kernel
theorem d_Law_law_383 : decode b_Law_law 383 = .ok (.iload 4, 2) := by decide +kernel
theorem d_Law_law_385 : decode b_Law_law 385 = .ok (.iconst 2, 1) := by decide +kernel
theorem d_Law_law_386 : decode b_Law_law 386 = .ok (.iadd, 1) := by decide +kernel
theorem d_Law_law_387 : decode b_Law_law 387 = .ok (.iaload, 1) := by decide +kernel
theorem d_Law_law_388 : decode b_Law_law 388 = .ok (.aload_n 3, 1) := by decide +kernel
theorem d_Law_law_389 : decode b_Law_law 389 = .ok (.invokestatic 72, 3) := by decide +kernel
theorem d_Law_law_392 : decode b_Law_law 392 = .ok (.istore 5, 2) := by decide +kernel
theorem d_Law_law_394 : decode b_Law_law 394 = .ok (.aload_n 2, 1) := by decide +kernel
theorem d_Law_law_395 : decode b_Law_law 395 = .ok (.aload_n 0, 1) := by decide +kernel
theorem d_Law_law_396 : decode b_Law_law 396 = .ok (.iload 4, 2) := by decide +kernel
theorem d_Law_law_398 : decode b_Law_law 398 = .ok (.iconst 1, 1) := by decide +kernel
theorem d_Law_law_399 : decode b_Law_law 399 = .ok (.iadd, 1) := by decide +kernel
theorem d_Law_law_400 : decode b_Law_law 400 = .ok (.iaload, 1) := by decide +kernel
theorem d_Law_law_401 : decode b_Law_law 401 = .ok (.aload_n 0, 1) := by decide +kernel
theorem d_Law_law_402 : decode b_Law_law 402 = .ok (.iload 4, 2) := by decide +kernel
theorem d_Law_law_404 : decode b_Law_law 404 = .ok (.iconst 2, 1) := by decide +kernel
theorem d_Law_law_405 : decode b_Law_law 405 = .ok (.iadd, 1) := by decide +kernel
theorem d_Law_law_406 : decode b_Law_law 406 = .ok (.iaload, 1) := by decide +kernel
theorem d_Law_law_407 : decode b_Law_law 407 = .ok (.invokevirtual 74, 3) := by decide +kernel
theorem d_Law_law_410 : decode b_Law_law 410 = .ok (.istore 6, 2) := by decide +kernel
theorem d_Law_law_412 : decode b_Law_law 412 = .ok (.aload_n 2, 1) := by decide +kernel
theorem d_Law_law_413 : decode b_Law_law 413 = .ok (.invokevirtual 48, 3) := by decide +kernel
theorem d_Law_law_416 : decode b_Law_law 416 = .ok (.iload 5, 2) := by decide +kernel
