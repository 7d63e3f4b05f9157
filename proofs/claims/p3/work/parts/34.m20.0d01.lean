theorem d_Mod_inductive_135 : decode b_Mod_inductive 135 = .ok (.aload_n 0, 1) := by decide +kernel
theorem d_Mod_inductive_136 : decode b_Mod_inductive 136 = .ok (.iconst 0, 1) := by decide +kernel
theorem d_Mod_inductive_137 : decode b_Mod_inductive 137 = .ok (.invokevirtual 399, 3) := by decide +kernel
theorem d_Mod_inductive_140 : decode b_Mod_inductive 140 = .ok (.iastore, 1) := by decide +kernel
theorem d_Mod_inductive_141 : decode b_Mod_inductive 141 = .ok (.goto (-48), 3) := by decide +kernel
theorem d_Mod_inductive_144 : decode b_Mod_inductive 144 = .ok (.aload_n 0, 1) := by decide +kernel
theorem d_Mod_inductive_145 : decode b_Mod_inductive 145 = .ok (.bipush 125, 2) := by decide +kernel
theorem d_Mod_inductive_147 : decode b_Mod_inductive 147 = .ok (.invokevirtual 405, 3) := by decide +kernel
theorem d_Mod_inductive_150 : decode b_Mod_inductive 150 = .ok (.aload_n 0, 1) := by decide +kernel
theorem d_Mod_inductive_151 : decode b_Mod_inductive 151 = .ok (.bipush 46, 2) := by decide +kernel
theorem d_Mod_inductive_153 : decode b_Mod_inductive 153 = .ok (.invokevirtual 405, 3) := by decide +kernel
theorem d_Mod_inductive_156 : decode b_Mod_inductive 156 = .ok (.aload_n 0, 1) := by decide +kernel
theorem d_Mod_inductive_157 : decode b_Mod_inductive 157 = .ok (.getfield 68, 3) := by decide +kernel
theorem d_Mod_inductive_160 : decode b_Mod_inductive 160 = .ok (.iload 4, 2) := by decide +kernel
theorem d_Mod_inductive_162 : decode b_Mod_inductive 162 = .ok (.iaload, 1) := by decide +kernel
theorem d_Mod_inductive_163 : decode b_Mod_inductive 163 = .ok (.istore 6, 2) := by decide +kernel
theorem d_Mod_inductive_165 : decode b_Mod_inductive 165 = .ok (.iconst 0, 1) := by decide +kernel
theorem d_Mod_inductive_166 : decode b_Mod_inductive 166 = .ok (.istore 7, 2) := by decide +kernel
theorem d_Mod_inductive_168 : decode b_Mod_inductive 168 = .ok (.iload 7, 2) := by decide +kernel
theorem d_Mod_inductive_170 : decode b_Mod_inductive 170 = .ok (.iload 5, 2) := by decide +kernel
theorem d_Mod_inductive_172 : decode b_Mod_inductive 172 = .ok (.if_icmp .ge 26, 3) := by decide +kernel
theorem d_Mod_inductive_175 : decode b_Mod_inductive 175 = .ok (.iload 6, 2) := by decide +kernel
theorem d_Mod_inductive_177 : decode b_Mod_inductive 177 = .ok (.aload_n 0, 1) := by decide +kernel
theorem d_Mod_inductive_178 : decode b_Mod_inductive 178 = .ok (.getfield 68, 3) := by decide +kernel
theorem d_Mod_inductive_181 : decode b_Mod_inductive 181 = .ok (.aload_n 0, 1) := by decide +kernel
theorem d_Mod_inductive_182 : decode b_Mod_inductive 182 = .ok (.getfield 211, 3) := by decide +kernel
theorem d_Mod_inductive_185 : decode b_Mod_inductive 185 = .ok (.iload 7, 2) := by decide +kernel
theorem d_Mod_inductive_187 : decode b_Mod_inductive 187 = .ok (.iaload, 1) := by decide +kernel
theorem d_Mod_inductive_188 : decode b_Mod_inductive 188 = .ok (.iaload, 1) := by decide +kernel
theorem d_Mod_inductive_189 : decode b_Mod_inductive 189 = .ok (.iadd, 1) := by decide +kernel
theorem d_Mod_inductive_190 : decode b_Mod_inductive 190 = .ok (.istore 6, 2) := by decide +kernel
theorem d_Mod_inductive_192 : decode b_Mod_inductive 192 = .ok (.iinc 7 1, 3) := by decide +kernel
theorem d_Mod_inductive_195 : decode b_Mod_inductive 195 = .ok (.goto (-27), 3) := by decide +kernel
theorem d_Mod_inductive_198 : decode b_Mod_inductive 198 = .ok (.aload_n 0, 1) := by decide +kernel
theorem d_Mod_inductive_199 : decode b_Mod_inductive 199 = .ok (.iload 6, 2) := by decide +kernel
theorem d_Mod_inductive_201 : decode b_Mod_inductive 201 = .ok (.invokevirtual 519, 3) := by decide +kernel
theorem d_Mod_inductive_204 : decode b_Mod_inductive 204 = .ok (.iload_n 3, 1) := by decide +kernel
theorem d_Mod_inductive_205 : decode b_Mod_inductive 205 = .ok (.istore 7, 2) := by decide +kernel
theorem d_Mod_inductive_207 : decode b_Mod_inductive 207 = .ok (.iconst 0, 1) := by decide +kernel
theorem d_Mod_inductive_208 : decode b_Mod_inductive 208 = .ok (.istore 8, 2) := by decide +kernel
theorem d_Mod_inductive_210 : decode b_Mod_inductive 210 = .ok (.aload_n 0, 1) := by decide +kernel
theorem d_Mod_inductive_211 : decode b_Mod_inductive 211 = .ok (.getfield 55, 3) := by decide +kernel
theorem d_Mod_inductive_214 : decode b_Mod_inductive 214 = .ok (.iload 7, 2) := by decide +kernel
theorem d_Mod_inductive_216 : decode b_Mod_inductive 216 = .ok (.baload, 1) := by decide +kernel
theorem d_Mod_inductive_217 : decode b_Mod_inductive 217 = .ok (.bipush 6, 2) := by decide +kernel
theorem d_Mod_inductive_219 : decode b_Mod_inductive 219 = .ok (.if_icmp .ne 18, 3) := by decide +kernel
theorem d_Mod_inductive_222 : decode b_Mod_inductive 222 = .ok (.iinc 8 1, 3) := by decide +kernel
theorem d_Mod_inductive_225 : decode b_Mod_inductive 225 = .ok (.aload_n 0, 1) := by decide +kernel
theorem d_Mod_inductive_226 : decode b_Mod_inductive 226 = .ok (.getfield 62, 3) := by decide +kernel
theorem d_Mod_inductive_229 : decode b_Mod_inductive 229 = .ok (.iload 7, 2) := by decide +kernel
theorem d_Mod_inductive_231 : decode b_Mod_inductive 231 = .ok (.iaload, 1) := by decide +kernel
theorem d_Mod_inductive_232 : decode b_Mod_inductive 232 = .ok (.istore 7, 2) := by decide +kernel
theorem d_Mod_inductive_234 : decode b_Mod_inductive 234 = .ok (.goto (-24), 3) := by decide +kernel
theorem d_Mod_inductive_237 : decode b_Mod_inductive 237 = .ok (.aload_n 0, 1) := by decide +kernel
theorem d_Mod_inductive_238 : decode b_Mod_inductive 238 = .ok (.getfield 55, 3) := by decide +kernel
theorem d_Mod_inductive_241 : decode b_Mod_inductive 241 = .ok (.iload 7, 2) := by decide +kernel
theorem d_Mod_inductive_243 : decode b_Mod_inductive 243 = .ok (.baload, 1) := by decide +kernel
theorem d_Mod_inductive_244 : decode b_Mod_inductive 244 = .ok (.ifCond .eq 9, 3) := by decide +kernel
theorem d_Mod_inductive_247 : decode b_Mod_inductive 247 = .ok (.bipush 8, 2) := by decide +kernel
theorem d_Mod_inductive_249 : decode b_Mod_inductive 249 = .ok (.invokestatic 323, 3) := by decide +kernel
theorem d_Mod_inductive_252 : decode b_Mod_inductive 252 = .ok (.athrow, 1) := by decide +kernel
theorem d_Mod_inductive_253 : decode b_Mod_inductive 253 = .ok (.aload_n 0, 1) := by decide +kernel
theorem d_Mod_inductive_254 : decode b_Mod_inductive 254 = .ok (.iload 4, 2) := by decide +kernel
theorem d_Mod_inductive_256 : decode b_Mod_inductive 256 = .ok (.iconst 0, 1) := by decide +kernel
theorem d_Mod_inductive_257 : decode b_Mod_inductive 257 = .ok (.iconst 0, 1) := by decide +kernel
theorem d_Mod_inductive_258 : decode b_Mod_inductive 258 = .ok (.invokevirtual 513, 3) := by decide +kernel
theorem d_Mod_inductive_261 : decode b_Mod_inductive 261 = .ok (.istore 9, 2) := by decide +kernel
theorem d_Mod_inductive_263 : decode b_Mod_inductive 263 = .ok (.aload_n 0, 1) := by decide +kernel
theorem d_Mod_inductive_264 : decode b_Mod_inductive 264 = .ok (.iload 9, 2) := by decide +kernel
theorem d_Mod_inductive_266 : decode b_Mod_inductive 266 = .ok (.iconst 0, 1) := by decide +kernel
theorem d_Mod_inductive_267 : decode b_Mod_inductive 267 = .ok (.invokevirtual 477, 3) := by decide +kernel
theorem d_Mod_inductive_270 : decode b_Mod_inductive 270 = .ok (.pop, 1) := by decide +kernel
theorem d_Mod_inductive_271 : decode b_Mod_inductive 271 = .ok (.aload_n 0, 1) := by decide +kernel
theorem d_Mod_inductive_272 : decode b_Mod_inductive 272 = .ok (.getfield 107, 3) := by decide +kernel
theorem d_Mod_inductive_275 : decode b_Mod_inductive 275 = .ok (.iload_n 1, 1) := by decide +kernel
theorem d_Mod_inductive_276 : decode b_Mod_inductive 276 = .ok (.iconst 3, 1) := by decide +kernel
theorem d_Mod_inductive_277 : decode b_Mod_inductive 277 = .ok (.iastore, 1) := by decide +kernel
theorem d_Mod_inductive_278 : decode b_Mod_inductive 278 = .ok (.aload_n 0, 1) := by decide +kernel
theorem d_Mod_inductive_279 : decode b_Mod_inductive 279 = .ok (.getfield 110, 3) := by decide +kernel
theorem d_Mod_inductive_282 : decode b_Mod_inductive 282 = .ok (.iload_n 1, 1) := by decide +kernel
theorem d_Mod_inductive_283 : decode b_Mod_inductive 283 = .ok (.iload 9, 2) := by decide +kernel
theorem d_Mod_inductive_285 : decode b_Mod_inductive 285 = .ok (.iastore, 1) := by decide +kernel
theorem d_Mod_inductive_286 : decode b_Mod_inductive 286 = .ok (.aload_n 0, 1) := by decide +kernel
theorem d_Mod_inductive_287 : decode b_Mod_inductive 287 = .ok (.getfield 116, 3) := by decide +kernel
theorem d_Mod_inductive_290 : decode b_Mod_inductive 290 = .ok (.iload_n 1, 1) := by decide +kernel
theorem d_Mod_inductive_291 : decode b_Mod_inductive 291 = .ok (.iload_n 2, 1) := by decide +kernel
theorem d_Mod_inductive_292 : decode b_Mod_inductive 292 = .ok (.iastore, 1) := by decide +kernel
theorem d_Mod_inductive_293 : decode b_Mod_inductive 293 = .ok (.aload_n 0, 1) := by decide +kernel
theorem d_Mod_inductive_294 : decode b_Mod_inductive 294 = .ok (.getfield 119, 3) := by decide +kernel
theorem d_Mod_inductive_297 : decode b_Mod_inductive 297 = .ok (.iload_n 1, 1) := by decide +kernel
theorem d_Mod_inductive_298 : decode b_Mod_inductive 298 = .ok (.iload 8, 2) := by decide +kernel
theorem d_Mod_inductive_300 : decode b_Mod_inductive 300 = .ok (.iastore, 1) := by decide +kernel
theorem d_Mod_inductive_301 : decode b_Mod_inductive 301 = .ok (.aload_n 0, 1) := by decide +kernel
theorem d_Mod_inductive_302 : decode b_Mod_inductive 302 = .ok (.getfield 122, 3) := by decide +kernel
theorem d_Mod_inductive_305 : decode b_Mod_inductive 305 = .ok (.iload_n 1, 1) := by decide +kernel
theorem d_Mod_inductive_306 : decode b_Mod_inductive 306 = .ok (.iload 5, 2) := by decide +kernel
theorem d_Mod_inductive_308 : decode b_Mod_inductive 308 = .ok (.iastore, 1) := by decide +kernel
theorem d_Mod_inductive_309 : decode b_Mod_inductive 309 = .ok (.aload_n 0, 1) := by decide +kernel
theorem d_Mod_inductive_310 : decode b_Mod_inductive 310 = .ok (.getfield 125, 3) := by decide +kernel
theorem d_Mod_inductive_313 : decode b_Mod_inductive 313 = .ok (.iload_n 1, 1) := by decide +kernel
theorem d_Mod_inductive_314 : decode b_Mod_inductive 314 = .ok (.iconst 0, 1) := by decide +kernel
theorem d_Mod_inductive_315 : decode b_Mod_inductive 315 = .ok (.iastore, 1) := by decide +kernel
theorem d_Mod_inductive_316 : decode b_Mod_inductive 316 = .ok (.aload_n 0, 1) := by decide +kernel
theorem d_Mod_inductive_317 : decode b_Mod_inductive 317 = .ok (.getfield 128, 3) := by decide +kernel
theorem d_Mod_inductive_320 : decode b_Mod_inductive 320 = .ok (.iload_n 1, 1) := by decide +kernel
theorem d_Mod_inductive_321 : decode b_Mod_inductive 321 = .ok (.iconst 0, 1) := by decide +kernel
theorem d_Mod_inductive_322 : decode b_Mod_inductive 322 = .ok (.iastore, 1) := by decide +kernel
theorem d_Mod_inductive_323 : decode b_Mod_inductive 323 = .ok (.aload_n 0, 1) := by decide +kernel
theorem d_Mod_inductive_324 : decode b_Mod_inductive 324 = .ok (.getfield 113, 3) := by decide +kernel
theorem d_Mod_inductive_327 : decode b_Mod_inductive 327 = .ok (.iload_n 1, 1) := by decide +kernel
theorem d_Mod_inductive_328 : decode b_Mod_inductive 328 = .ok (.iconst (-1), 1) := by decide +kernel
theorem d_Mod_inductive_329 : decode b_Mod_inductive 329 = .ok (.iastore, 1) := by decide +kernel
theorem d_Mod_inductive_330 : decode b_Mod_inductive 330 = .ok (.iconst 0, 1) := by decide +kernel
theorem d_Mod_inductive_331 : decode b_Mod_inductive 331 = .ok (.istore 10, 2) := by decide +kernel
theorem d_Mod_inductive_333 : decode b_Mod_inductive 333 = .ok (.iload 10, 2) := by decide +kernel
theorem d_Mod_inductive_335 : decode b_Mod_inductive 335 = .ok (.iload_n 2, 1) := by decide +kernel
theorem d_Mod_inductive_336 : decode b_Mod_inductive 336 = .ok (.if_icmp .ge 40, 3) := by decide +kernel
theorem d_Mod_inductive_339 : decode b_Mod_inductive 339 = .ok (.aload_n 0, 1) := by decide +kernel
theorem d_Mod_inductive_340 : decode b_Mod_inductive 340 = .ok (.getfield 208, 3) := by decide +kernel
theorem d_Mod_inductive_343 : decode b_Mod_inductive 343 = .ok (.iload 10, 2) := by decide +kernel
theorem d_Mod_inductive_345 : decode b_Mod_inductive 345 = .ok (.aload_n 0, 1) := by decide +kernel
theorem d_Mod_inductive_346 : decode b_Mod_inductive 346 = .ok (.getfield 58, 3) := by decide +kernel
theorem d_Mod_inductive_349 : decode b_Mod_inductive 349 = .ok (.aload_n 0, 1) := by decide +kernel
theorem d_Mod_inductive_350 : decode b_Mod_inductive 350 = .ok (.aload_n 0, 1) := by decide +kernel
theorem d_Mod_inductive_351 : decode b_Mod_inductive 351 = .ok (.aload_n 0, 1) := by decide +kernel
theorem d_Mod_inductive_352 : decode b_Mod_inductive 352 = .ok (.getfield 162, 3) := by decide +kernel
theorem d_Mod_inductive_355 : decode b_Mod_inductive 355 = .ok (.iload 10, 2) := by decide +kernel
theorem d_Mod_inductive_357 : decode b_Mod_inductive 357 = .ok (.iaload, 1) := by decide +kernel
theorem d_Mod_inductive_358 : decode b_Mod_inductive 358 = .ok (.iload 10, 2) := by decide +kernel
theorem d_Mod_inductive_360 : decode b_Mod_inductive 360 = .ok (.iload 10, 2) := by decide +kernel
theorem d_Mod_inductive_362 : decode b_Mod_inductive 362 = .ok (.invokevirtual 513, 3) := by decide +kernel
theorem d_Mod_inductive_365 : decode b_Mod_inductive 365 = .ok (.invokevirtual 468, 3) := by decide +kernel
theorem d_Mod_inductive_368 : decode b_Mod_inductive 368 = .ok (.iaload, 1) := by decide +kernel
theorem d_Mod_inductive_369 : decode b_Mod_inductive 369 = .ok (.iastore, 1) := by decide +kernel
theorem d_Mod_inductive_370 : decode b_Mod_inductive 370 = .ok (.iinc 10 1, 3) := by decide +kernel
theorem d_Mod_inductive_373 : decode b_Mod_inductive 373 = .ok (.goto (-40), 3) := by decide +kernel
theorem d_Mod_inductive_376 : decode b_Mod_inductive 376 = .ok (.aload_n 0, 1) := by decide +kernel
theorem d_Mod_inductive_377 : decode b_Mod_inductive 377 = .ok (.iconst 0, 1) := by decide +kernel
theorem d_Mod_inductive_378 : decode b_Mod_inductive 378 = .ok (.putfield 232, 3) := by decide +kernel
theorem d_Mod_inductive_381 : decode b_Mod_inductive 381 = .ok (.iconst 0, 1) := by decide +kernel
theorem d_Mod_inductive_382 : decode b_Mod_inductive 382 = .ok (.istore 10, 2) := by decide +kernel
theorem d_Mod_inductive_384 : decode b_Mod_inductive 384 = .ok (.iload 10, 2) := by decide +kernel
theorem d_Mod_inductive_386 : decode b_Mod_inductive 386 = .ok (.iload 5, 2) := by decide +kernel
theorem d_Mod_inductive_388 : decode b_Mod_inductive 388 = .ok (.if_icmp .ge 32, 3) := by decide +kernel
theorem d_Mod_inductive_391 : decode b_Mod_inductive 391 = .ok (.aload_n 0, 1) := by decide +kernel
theorem d_Mod_inductive_392 : decode b_Mod_inductive 392 = .ok (.iload_n 1, 1) := by decide +kernel
theorem d_Mod_inductive_393 : decode b_Mod_inductive 393 = .ok (.iload_n 1, 1) := by decide +kernel
theorem d_Mod_inductive_394 : decode b_Mod_inductive 394 = .ok (.iconst 1, 1) := by decide +kernel
theorem d_Mod_inductive_395 : decode b_Mod_inductive 395 = .ok (.iadd, 1) := by decide +kernel
theorem d_Mod_inductive_396 : decode b_Mod_inductive 396 = .ok (.iload 10, 2) := by decide +kernel
theorem d_Mod_inductive_398 : decode b_Mod_inductive 398 = .ok (.iadd, 1) := by decide +kernel
theorem d_Mod_inductive_399 : decode b_Mod_inductive 399 = .ok (.iload 10, 2) := by decide +kernel
theorem d_Mod_inductive_401 : decode b_Mod_inductive 401 = .ok (.aload_n 0, 1) := by decide +kernel
theorem d_Mod_inductive_402 : decode b_Mod_inductive 402 = .ok (.getfield 58, 3) := by decide +kernel
theorem d_Mod_inductive_405 : decode b_Mod_inductive 405 = .ok (.iload 7, 2) := by decide +kernel
theorem d_Mod_inductive_407 : decode b_Mod_inductive 407 = .ok (.iaload, 1) := by decide +kernel
theorem d_Mod_inductive_408 : decode b_Mod_inductive 408 = .ok (.iload_n 2, 1) := by decide +kernel
theorem d_Mod_inductive_409 : decode b_Mod_inductive 409 = .ok (.iload 8, 2) := by decide +kernel
theorem d_Mod_inductive_411 : decode b_Mod_inductive 411 = .ok (.invokevirtual 537, 3) := by decide +kernel
theorem d_Mod_inductive_414 : decode b_Mod_inductive 414 = .ok (.iinc 10 1, 3) := by decide +kernel
theorem d_Mod_inductive_417 : decode b_Mod_inductive 417 = .ok (.goto (-33), 3) := by decide +kernel
theorem d_Mod_inductive_420 : decode b_Mod_inductive 420 = .ok (.aload_n 0, 1) := by decide +kernel
theorem d_Mod_inductive_421 : decode b_Mod_inductive 421 = .ok (.getfield 143, 3) := by decide +kernel
theorem d_Mod_inductive_424 : decode b_Mod_inductive 424 = .ok (.iload_n 1, 1) := by decide +kernel
theorem d_Mod_inductive_425 : decode b_Mod_inductive 425 = .ok (.aload_n 0, 1) := by decide +kernel
theorem d_Mod_inductive_426 : decode b_Mod_inductive 426 = .ok (.getfield 58, 3) := by decide +kernel
theorem d_Mod_inductive_429 : decode b_Mod_inductive 429 = .ok (.iload 7, 2) := by decide +kernel
theorem d_Mod_inductive_431 : decode b_Mod_inductive 431 = .ok (.iaload, 1) := by decide +kernel
theorem d_Mod_inductive_432 : decode b_Mod_inductive 432 = .ok (.ifCond .ne 26, 3) := by decide +kernel
theorem d_Mod_inductive_435 : decode b_Mod_inductive 435 = .ok (.iload 5, 2) := by decide +kernel
theorem d_Mod_inductive_437 : decode b_Mod_inductive 437 = .ok (.ifCond .eq 21, 3) := by decide +kernel
theorem d_Mod_inductive_440 : decode b_Mod_inductive 440 = .ok (.iload 5, 2) := by decide +kernel
theorem d_Mod_inductive_442 : decode b_Mod_inductive 442 = .ok (.iconst 1, 1) := by decide +kernel
theorem d_Mod_inductive_443 : decode b_Mod_inductive 443 = .ok (.if_icmp .ne 19, 3) := by decide +kernel
theorem d_Mod_inductive_446 : decode b_Mod_inductive 446 = .ok (.aload_n 0, 1) := by decide +kernel
theorem d_Mod_inductive_447 : decode b_Mod_inductive 447 = .ok (.iload_n 1, 1) := by decide +kernel
theorem d_Mod_inductive_448 : decode b_Mod_inductive 448 = .ok (.iconst 1, 1) := by decide +kernel
theorem d_Mod_inductive_449 : decode b_Mod_inductive 449 = .ok (.iadd, 1) := by decide +kernel
theorem d_Mod_inductive_450 : decode b_Mod_inductive 450 = .ok (.iload 8, 2) := by decide +kernel
theorem d_Mod_inductive_452 : decode b_Mod_inductive 452 = .ok (.invokevirtual 541, 3) := by decide +kernel
theorem d_Mod_inductive_455 : decode b_Mod_inductive 455 = .ok (.ifCond .eq 7, 3) := by decide +kernel
theorem d_Mod_inductive_458 : decode b_Mod_inductive 458 = .ok (.iconst 1, 1) := by decide +kernel
theorem d_Mod_inductive_459 : decode b_Mod_inductive 459 = .ok (.goto 4, 3) := by decide +kernel
theorem d_Mod_inductive_462 : decode b_Mod_inductive 462 = .ok (.iconst 0, 1) := by decide +kernel
theorem d_Mod_inductive_463 : decode b_Mod_inductive 463 = .ok (.bastore, 1) := by decide +kernel
theorem d_Mod_inductive_464 : decode b_Mod_inductive 464 = .ok (.aload_n 0, 1) := by decide +kernel
theorem d_Mod_inductive_465 : decode b_Mod_inductive 465 = .ok (.iload_n 1, 1) := by decide +kernel
theorem d_Mod_inductive_466 : decode b_Mod_inductive 466 = .ok (.iload_n 3, 1) := by decide +kernel
theorem d_Mod_inductive_467 : decode b_Mod_inductive 467 = .ok (.iload_n 2, 1) := by decide +kernel
theorem d_Mod_inductive_468 : decode b_Mod_inductive 468 = .ok (.iload 8, 2) := by decide +kernel
theorem d_Mod_inductive_470 : decode b_Mod_inductive 470 = .ok (.iload 5, 2) := by decide +kernel
theorem d_Mod_inductive_472 : decode b_Mod_inductive 472 = .ok (.iload 9, 2) := by decide +kernel
theorem d_Mod_inductive_474 : decode b_Mod_inductive 474 = .ok (.invokevirtual 544, 3) := by decide +kernel
theorem d_Mod_inductive_477 : decode b_Mod_inductive 477 = .ok (.return_, 1) := by decide +kernel
