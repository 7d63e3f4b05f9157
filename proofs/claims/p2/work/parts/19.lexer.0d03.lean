theorem d_Lex_wordKind_269 : decode b_Lex_wordKind 269 = .ok (.invokevirtual 101, 3) := by decide +kernel
theorem d_Lex_wordKind_272 : decode b_Lex_wordKind 272 = .ok (.ifCond .eq 8, 3) := by decide +kernel
theorem d_Lex_wordKind_275 : decode b_Lex_wordKind 275 = .ok (.bipush 16, 2) := by decide +kernel
theorem d_Lex_wordKind_277 : decode b_Lex_wordKind 277 = .ok (.goto 4, 3) := by decide +kernel
theorem d_Lex_wordKind_280 : decode b_Lex_wordKind 280 = .ok (.iconst 2, 1) := by decide +kernel
theorem d_Lex_wordKind_281 : decode b_Lex_wordKind 281 = .ok (.ireturn, 1) := by decide +kernel
theorem d_Lex_wordKind_282 : decode b_Lex_wordKind 282 = .ok (.aload_n 0, 1) := by decide +kernel
theorem d_Lex_wordKind_283 : decode b_Lex_wordKind 283 = .ok (.ldc 117, 2) := by decide +kernel
theorem d_Lex_wordKind_285 : decode b_Lex_wordKind 285 = .ok (.invokevirtual 101, 3) := by decide +kernel
theorem d_Lex_wordKind_288 : decode b_Lex_wordKind 288 = .ok (.ifCond .eq 8, 3) := by decide +kernel
theorem d_Lex_wordKind_291 : decode b_Lex_wordKind 291 = .ok (.bipush 14, 2) := by decide +kernel
theorem d_Lex_wordKind_293 : decode b_Lex_wordKind 293 = .ok (.goto 4, 3) := by decide +kernel
theorem d_Lex_wordKind_296 : decode b_Lex_wordKind 296 = .ok (.iconst 2, 1) := by decide +kernel
theorem d_Lex_wordKind_297 : decode b_Lex_wordKind 297 = .ok (.ireturn, 1) := by decide +kernel
theorem d_Lex_wordKind_298 : decode b_Lex_wordKind 298 = .ok (.aload_n 0, 1) := by decide +kernel
theorem d_Lex_wordKind_299 : decode b_Lex_wordKind 299 = .ok (.ldc 119, 2) := by decide +kernel
theorem d_Lex_wordKind_301 : decode b_Lex_wordKind 301 = .ok (.invokevirtual 101, 3) := by decide +kernel
theorem d_Lex_wordKind_304 : decode b_Lex_wordKind 304 = .ok (.ifCond .eq 8, 3) := by decide +kernel
theorem d_Lex_wordKind_307 : decode b_Lex_wordKind 307 = .ok (.bipush 15, 2) := by decide +kernel
theorem d_Lex_wordKind_309 : decode b_Lex_wordKind 309 = .ok (.goto 4, 3) := by decide +kernel
theorem d_Lex_wordKind_312 : decode b_Lex_wordKind 312 = .ok (.iconst 2, 1) := by decide +kernel
theorem d_Lex_wordKind_313 : decode b_Lex_wordKind 313 = .ok (.ireturn, 1) := by decide +kernel
theorem d_Lex_wordKind_314 : decode b_Lex_wordKind 314 = .ok (.aload_n 0, 1) := by decide +kernel
theorem d_Lex_wordKind_315 : decode b_Lex_wordKind 315 = .ok (.ldc 121, 2) := by decide +kernel
theorem d_Lex_wordKind_317 : decode b_Lex_wordKind 317 = .ok (.invokevirtual 101, 3) := by decide +kernel
theorem d_Lex_wordKind_320 : decode b_Lex_wordKind 320 = .ok (.ifCond .eq 6, 3) := by decide +kernel
theorem d_Lex_wordKind_323 : decode b_Lex_wordKind 323 = .ok (.bipush 13, 2) := by decide +kernel
theorem d_Lex_wordKind_325 : decode b_Lex_wordKind 325 = .ok (.ireturn, 1) := by decide +kernel
theorem d_Lex_wordKind_326 : decode b_Lex_wordKind 326 = .ok (.aload_n 0, 1) := by decide +kernel
theorem d_Lex_wordKind_327 : decode b_Lex_wordKind 327 = .ok (.ldc 123, 2) := by decide +kernel
theorem d_Lex_wordKind_329 : decode b_Lex_wordKind 329 = .ok (.invokevirtual 101, 3) := by decide +kernel
theorem d_Lex_wordKind_332 : decode b_Lex_wordKind 332 = .ok (.ifCond .eq 8, 3) := by decide +kernel
theorem d_Lex_wordKind_335 : decode b_Lex_wordKind 335 = .ok (.bipush 7, 2) := by decide +kernel
theorem d_Lex_wordKind_337 : decode b_Lex_wordKind 337 = .ok (.goto 4, 3) := by decide +kernel
theorem d_Lex_wordKind_340 : decode b_Lex_wordKind 340 = .ok (.iconst 2, 1) := by decide +kernel
theorem d_Lex_wordKind_341 : decode b_Lex_wordKind 341 = .ok (.ireturn, 1) := by decide +kernel
theorem d_Lex_wordKind_342 : decode b_Lex_wordKind 342 = .ok (.aload_n 0, 1) := by decide +kernel
theorem d_Lex_wordKind_343 : decode b_Lex_wordKind 343 = .ok (.ldc 125, 2) := by decide +kernel
theorem d_Lex_wordKind_345 : decode b_Lex_wordKind 345 = .ok (.invokevirtual 101, 3) := by decide +kernel
theorem d_Lex_wordKind_348 : decode b_Lex_wordKind 348 = .ok (.ifCond .eq 6, 3) := by decide +kernel
theorem d_Lex_wordKind_351 : decode b_Lex_wordKind 351 = .ok (.bipush 10, 2) := by decide +kernel
theorem d_Lex_wordKind_353 : decode b_Lex_wordKind 353 = .ok (.ireturn, 1) := by decide +kernel
theorem d_Lex_wordKind_354 : decode b_Lex_wordKind 354 = .ok (.aload_n 0, 1) := by decide +kernel
theorem d_Lex_wordKind_355 : decode b_Lex_wordKind 355 = .ok (.ldc 127, 2) := by decide +kernel
theorem d_Lex_wordKind_357 : decode b_Lex_wordKind 357 = .ok (.invokevirtual 101, 3) := by decide +kernel
theorem d_Lex_wordKind_360 : decode b_Lex_wordKind 360 = .ok (.ifCond .eq 8, 3) := by decide +kernel
theorem d_Lex_wordKind_363 : decode b_Lex_wordKind 363 = .ok (.bipush 11, 2) := by decide +kernel
theorem d_Lex_wordKind_365 : decode b_Lex_wordKind 365 = .ok (.goto 4, 3) := by decide +kernel
theorem d_Lex_wordKind_368 : decode b_Lex_wordKind 368 = .ok (.iconst 2, 1) := by decide +kernel
theorem d_Lex_wordKind_369 : decode b_Lex_wordKind 369 = .ok (.ireturn, 1) := by decide +kernel
theorem d_Lex_wordKind_370 : decode b_Lex_wordKind 370 = .ok (.iconst 2, 1) := by decide +kernel
theorem d_Lex_wordKind_371 : decode b_Lex_wordKind 371 = .ok (.ireturn, 1) := by decide +kernel
theorem d_Lex_scanWord_0 : decode b_Lex_scanWord 0 = .ok (.aload_n 0, 1) := by decide +kernel
theorem d_Lex_scanWord_1 : decode b_Lex_scanWord 1 = .ok (.getfield 28, 3) := by decide +kernel
theorem d_Lex_scanWord_4 : decode b_Lex_scanWord 4 = .ok (.aload_n 0, 1) := by decide +kernel
theorem d_Lex_scanWord_5 : decode b_Lex_scanWord 5 = .ok (.getfield 9, 3) := by decide +kernel
theorem d_Lex_scanWord_8 : decode b_Lex_scanWord 8 = .ok (.invokevirtual 73, 3) := by decide +kernel
theorem d_Lex_scanWord_11 : decode b_Lex_scanWord 11 = .ok (.if_icmp .ge 33, 3) := by decide +kernel
theorem d_Lex_scanWord_14 : decode b_Lex_scanWord 14 = .ok (.aload_n 0, 1) := by decide +kernel
theorem d_Lex_scanWord_15 : decode b_Lex_scanWord 15 = .ok (.getfield 9, 3) := by decide +kernel
