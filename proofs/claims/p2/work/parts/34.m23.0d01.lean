theorem d_Mod_made_74 : decode b_Mod_made 74 = .ok (.iconst 0, 1) := by decide +kernel
theorem d_Mod_made_75 : decode b_Mod_made 75 = .ok (.iload_n 3, 1) := by decide +kernel
theorem d_Mod_made_76 : decode b_Mod_made 76 = .ok (.iload 4, 2) := by decide +kernel
theorem d_Mod_made_78 : decode b_Mod_made 78 = .ok (.iadd, 1) := by decide +kernel
theorem d_Mod_made_79 : decode b_Mod_made 79 = .ok (.invokevirtual 555, 3) := by decide +kernel
theorem d_Mod_made_82 : decode b_Mod_made 82 = .ok (.istore 8, 2) := by decide +kernel
theorem d_Mod_made_84 : decode b_Mod_made 84 = .ok (.aload_n 0, 1) := by decide +kernel
theorem d_Mod_made_85 : decode b_Mod_made 85 = .ok (.iconst 0, 1) := by decide +kernel
theorem d_Mod_made_86 : decode b_Mod_made 86 = .ok (.putfield 238, 3) := by decide +kernel
theorem d_Mod_made_89 : decode b_Mod_made 89 = .ok (.iconst 0, 1) := by decide +kernel
theorem d_Mod_made_90 : decode b_Mod_made 90 = .ok (.istore 9, 2) := by decide +kernel
theorem d_Mod_made_92 : decode b_Mod_made 92 = .ok (.iload 9, 2) := by decide +kernel
theorem d_Mod_made_94 : decode b_Mod_made 94 = .ok (.iload 4, 2) := by decide +kernel
theorem d_Mod_made_96 : decode b_Mod_made 96 = .ok (.if_icmp .ge 34, 3) := by decide +kernel
theorem d_Mod_made_99 : decode b_Mod_made 99 = .ok (.aload_n 0, 1) := by decide +kernel
theorem d_Mod_made_100 : decode b_Mod_made 100 = .ok (.getfield 235, 3) := by decide +kernel
theorem d_Mod_made_103 : decode b_Mod_made 103 = .ok (.aload_n 0, 1) := by decide +kernel
theorem d_Mod_made_104 : decode b_Mod_made 104 = .ok (.dup, 1) := by decide +kernel
theorem d_Mod_made_105 : decode b_Mod_made 105 = .ok (.getfield 238, 3) := by decide +kernel
theorem d_Mod_made_108 : decode b_Mod_made 108 = .ok (.dup_x1, 1) := by decide +kernel
theorem d_Mod_made_109 : decode b_Mod_made 109 = .ok (.iconst 1, 1) := by decide +kernel
theorem d_Mod_made_110 : decode b_Mod_made 110 = .ok (.iadd, 1) := by decide +kernel
theorem d_Mod_made_111 : decode b_Mod_made 111 = .ok (.putfield 238, 3) := by decide +kernel
theorem d_Mod_made_114 : decode b_Mod_made 114 = .ok (.aload_n 0, 1) := by decide +kernel
theorem d_Mod_made_115 : decode b_Mod_made 115 = .ok (.getfield 208, 3) := by decide +kernel
theorem d_Mod_made_118 : decode b_Mod_made 118 = .ok (.iload_n 3, 1) := by decide +kernel
theorem d_Mod_made_119 : decode b_Mod_made 119 = .ok (.iload 9, 2) := by decide +kernel
theorem d_Mod_made_121 : decode b_Mod_made 121 = .ok (.iadd, 1) := by decide +kernel
theorem d_Mod_made_122 : decode b_Mod_made 122 = .ok (.iaload, 1) := by decide +kernel
theorem d_Mod_made_123 : decode b_Mod_made 123 = .ok (.iastore, 1) := by decide +kernel
theorem d_Mod_made_124 : decode b_Mod_made 124 = .ok (.iinc 9 1, 3) := by decide +kernel
theorem d_Mod_made_127 : decode b_Mod_made 127 = .ok (.goto (-35), 3) := by decide +kernel
theorem d_Mod_made_130 : decode b_Mod_made 130 = .ok (.aload_n 0, 1) := by decide +kernel
theorem d_Mod_made_131 : decode b_Mod_made 131 = .ok (.aload_n 0, 1) := by decide +kernel
theorem d_Mod_made_132 : decode b_Mod_made 132 = .ok (.bipush 6, 2) := by decide +kernel
theorem d_Mod_made_134 : decode b_Mod_made 134 = .ok (.iconst 0, 1) := by decide +kernel
theorem d_Mod_made_135 : decode b_Mod_made 135 = .ok (.aload_n 0, 1) := by decide +kernel
theorem d_Mod_made_136 : decode b_Mod_made 136 = .ok (.bipush 6, 2) := by decide +kernel
theorem d_Mod_made_138 : decode b_Mod_made 138 = .ok (.iload 8, 2) := by decide +kernel
theorem d_Mod_made_140 : decode b_Mod_made 140 = .ok (.aload_n 0, 1) := by decide +kernel
theorem d_Mod_made_141 : decode b_Mod_made 141 = .ok (.iconst (-1), 1) := by decide +kernel
theorem d_Mod_made_142 : decode b_Mod_made 142 = .ok (.invokevirtual 356, 3) := by decide +kernel
theorem d_Mod_made_145 : decode b_Mod_made 145 = .ok (.iconst 0, 1) := by decide +kernel
theorem d_Mod_made_146 : decode b_Mod_made 146 = .ok (.invokevirtual 336, 3) := by decide +kernel
theorem d_Mod_made_149 : decode b_Mod_made 149 = .ok (.invokevirtual 558, 3) := by decide +kernel
theorem d_Mod_made_152 : decode b_Mod_made 152 = .ok (.invokevirtual 468, 3) := by decide +kernel
theorem d_Mod_made_155 : decode b_Mod_made 155 = .ok (.istore 9, 2) := by decide +kernel
theorem d_Mod_made_157 : decode b_Mod_made 157 = .ok (.iconst 0, 1) := by decide +kernel
theorem d_Mod_made_158 : decode b_Mod_made 158 = .ok (.istore 10, 2) := by decide +kernel
theorem d_Mod_made_160 : decode b_Mod_made 160 = .ok (.iload 10, 2) := by decide +kernel
theorem d_Mod_made_162 : decode b_Mod_made 162 = .ok (.iload 5, 2) := by decide +kernel
theorem d_Mod_made_164 : decode b_Mod_made 164 = .ok (.if_icmp .ge 48, 3) := by decide +kernel
theorem d_Mod_made_167 : decode b_Mod_made 167 = .ok (.aload_n 0, 1) := by decide +kernel
theorem d_Mod_made_168 : decode b_Mod_made 168 = .ok (.aload_n 0, 1) := by decide +kernel
theorem d_Mod_made_169 : decode b_Mod_made 169 = .ok (.getfield 244, 3) := by decide +kernel
theorem d_Mod_made_172 : decode b_Mod_made 172 = .ok (.iload 10, 2) := by decide +kernel
theorem d_Mod_made_174 : decode b_Mod_made 174 = .ok (.iaload, 1) := by decide +kernel
theorem d_Mod_made_175 : decode b_Mod_made 175 = .ok (.invokevirtual 434, 3) := by decide +kernel
theorem d_Mod_made_178 : decode b_Mod_made 178 = .ok (.aload_n 0, 1) := by decide +kernel
theorem d_Mod_made_179 : decode b_Mod_made 179 = .ok (.getfield 241, 3) := by decide +kernel
theorem d_Mod_made_182 : decode b_Mod_made 182 = .ok (.iload 10, 2) := by decide +kernel
theorem d_Mod_made_184 : decode b_Mod_made 184 = .ok (.aload_n 0, 1) := by decide +kernel
theorem d_Mod_made_185 : decode b_Mod_made 185 = .ok (.getfield 58, 3) := by decide +kernel
theorem d_Mod_made_188 : decode b_Mod_made 188 = .ok (.aload_n 0, 1) := by decide +kernel
theorem d_Mod_made_189 : decode b_Mod_made 189 = .ok (.aload_n 0, 1) := by decide +kernel
theorem d_Mod_made_190 : decode b_Mod_made 190 = .ok (.iload_n 1, 1) := by decide +kernel
theorem d_Mod_made_191 : decode b_Mod_made 191 = .ok (.iload 10, 2) := by decide +kernel
theorem d_Mod_made_193 : decode b_Mod_made 193 = .ok (.iload_n 3, 1) := by decide +kernel
theorem d_Mod_made_194 : decode b_Mod_made 194 = .ok (.iload 4, 2) := by decide +kernel
theorem d_Mod_made_196 : decode b_Mod_made 196 = .ok (.iload 9, 2) := by decide +kernel
theorem d_Mod_made_198 : decode b_Mod_made 198 = .ok (.invokevirtual 561, 3) := by decide +kernel
theorem d_Mod_made_201 : decode b_Mod_made 201 = .ok (.invokevirtual 468, 3) := by decide +kernel
theorem d_Mod_made_204 : decode b_Mod_made 204 = .ok (.iaload, 1) := by decide +kernel
theorem d_Mod_made_205 : decode b_Mod_made 205 = .ok (.iastore, 1) := by decide +kernel
theorem d_Mod_made_206 : decode b_Mod_made 206 = .ok (.iinc 10 1, 3) := by decide +kernel
theorem d_Mod_made_209 : decode b_Mod_made 209 = .ok (.goto (-49), 3) := by decide +kernel
theorem d_Mod_made_212 : decode b_Mod_made 212 = .ok (.aload_n 0, 1) := by decide +kernel
theorem d_Mod_made_213 : decode b_Mod_made 213 = .ok (.iload 8, 2) := by decide +kernel
theorem d_Mod_made_215 : decode b_Mod_made 215 = .ok (.invokevirtual 468, 3) := by decide +kernel
theorem d_Mod_made_218 : decode b_Mod_made 218 = .ok (.istore 10, 2) := by decide +kernel
theorem d_Mod_made_220 : decode b_Mod_made 220 = .ok (.aload_n 0, 1) := by decide +kernel
theorem d_Mod_made_221 : decode b_Mod_made 221 = .ok (.iconst 0, 1) := by decide +kernel
theorem d_Mod_made_222 : decode b_Mod_made 222 = .ok (.putfield 238, 3) := by decide +kernel
theorem d_Mod_made_225 : decode b_Mod_made 225 = .ok (.aload_n 0, 1) := by decide +kernel
theorem d_Mod_made_226 : decode b_Mod_made 226 = .ok (.iload_n 3, 1) := by decide +kernel
theorem d_Mod_made_227 : decode b_Mod_made 227 = .ok (.iload 9, 2) := by decide +kernel
theorem d_Mod_made_229 : decode b_Mod_made 229 = .ok (.iload 5, 2) := by decide +kernel
theorem d_Mod_made_231 : decode b_Mod_made 231 = .ok (.invokevirtual 564, 3) := by decide +kernel
theorem d_Mod_made_234 : decode b_Mod_made 234 = .ok (.iconst 0, 1) := by decide +kernel
theorem d_Mod_made_235 : decode b_Mod_made 235 = .ok (.istore 11, 2) := by decide +kernel
theorem d_Mod_made_237 : decode b_Mod_made 237 = .ok (.iload 11, 2) := by decide +kernel
theorem d_Mod_made_239 : decode b_Mod_made 239 = .ok (.iload 4, 2) := by decide +kernel
theorem d_Mod_made_241 : decode b_Mod_made 241 = .ok (.if_icmp .ge 34, 3) := by decide +kernel
theorem d_Mod_made_244 : decode b_Mod_made 244 = .ok (.aload_n 0, 1) := by decide +kernel
theorem d_Mod_made_245 : decode b_Mod_made 245 = .ok (.getfield 235, 3) := by decide +kernel
theorem d_Mod_made_248 : decode b_Mod_made 248 = .ok (.aload_n 0, 1) := by decide +kernel
theorem d_Mod_made_249 : decode b_Mod_made 249 = .ok (.dup, 1) := by decide +kernel
theorem d_Mod_made_250 : decode b_Mod_made 250 = .ok (.getfield 238, 3) := by decide +kernel
theorem d_Mod_made_253 : decode b_Mod_made 253 = .ok (.dup_x1, 1) := by decide +kernel
theorem d_Mod_made_254 : decode b_Mod_made 254 = .ok (.iconst 1, 1) := by decide +kernel
theorem d_Mod_made_255 : decode b_Mod_made 255 = .ok (.iadd, 1) := by decide +kernel
theorem d_Mod_made_256 : decode b_Mod_made 256 = .ok (.putfield 238, 3) := by decide +kernel
theorem d_Mod_made_259 : decode b_Mod_made 259 = .ok (.aload_n 0, 1) := by decide +kernel
theorem d_Mod_made_260 : decode b_Mod_made 260 = .ok (.getfield 208, 3) := by decide +kernel
theorem d_Mod_made_263 : decode b_Mod_made 263 = .ok (.iload_n 3, 1) := by decide +kernel
theorem d_Mod_made_264 : decode b_Mod_made 264 = .ok (.iload 11, 2) := by decide +kernel
theorem d_Mod_made_266 : decode b_Mod_made 266 = .ok (.iadd, 1) := by decide +kernel
theorem d_Mod_made_267 : decode b_Mod_made 267 = .ok (.iaload, 1) := by decide +kernel
theorem d_Mod_made_268 : decode b_Mod_made 268 = .ok (.iastore, 1) := by decide +kernel
theorem d_Mod_made_269 : decode b_Mod_made 269 = .ok (.iinc 11 1, 3) := by decide +kernel
theorem d_Mod_made_272 : decode b_Mod_made 272 = .ok (.goto (-35), 3) := by decide +kernel
theorem d_Mod_made_275 : decode b_Mod_made 275 = .ok (.aload_n 0, 1) := by decide +kernel
theorem d_Mod_made_276 : decode b_Mod_made 276 = .ok (.getfield 235, 3) := by decide +kernel
theorem d_Mod_made_279 : decode b_Mod_made 279 = .ok (.aload_n 0, 1) := by decide +kernel
theorem d_Mod_made_280 : decode b_Mod_made 280 = .ok (.dup, 1) := by decide +kernel
theorem d_Mod_made_281 : decode b_Mod_made 281 = .ok (.getfield 238, 3) := by decide +kernel
theorem d_Mod_made_284 : decode b_Mod_made 284 = .ok (.dup_x1, 1) := by decide +kernel
theorem d_Mod_made_285 : decode b_Mod_made 285 = .ok (.iconst 1, 1) := by decide +kernel
theorem d_Mod_made_286 : decode b_Mod_made 286 = .ok (.iadd, 1) := by decide +kernel
theorem d_Mod_made_287 : decode b_Mod_made 287 = .ok (.putfield 238, 3) := by decide +kernel
theorem d_Mod_made_290 : decode b_Mod_made 290 = .ok (.aload_n 0, 1) := by decide +kernel
theorem d_Mod_made_291 : decode b_Mod_made 291 = .ok (.getfield 58, 3) := by decide +kernel
theorem d_Mod_made_294 : decode b_Mod_made 294 = .ok (.iload 10, 2) := by decide +kernel
theorem d_Mod_made_296 : decode b_Mod_made 296 = .ok (.iaload, 1) := by decide +kernel
theorem d_Mod_made_297 : decode b_Mod_made 297 = .ok (.iastore, 1) := by decide +kernel
theorem d_Mod_made_298 : decode b_Mod_made 298 = .ok (.aload_n 0, 1) := by decide +kernel
theorem d_Mod_made_299 : decode b_Mod_made 299 = .ok (.aload_n 0, 1) := by decide +kernel
theorem d_Mod_made_300 : decode b_Mod_made 300 = .ok (.bipush 6, 2) := by decide +kernel
theorem d_Mod_made_302 : decode b_Mod_made 302 = .ok (.iconst 0, 1) := by decide +kernel
theorem d_Mod_made_303 : decode b_Mod_made 303 = .ok (.aload_n 0, 1) := by decide +kernel
theorem d_Mod_made_304 : decode b_Mod_made 304 = .ok (.aload_n 0, 1) := by decide +kernel
theorem d_Mod_made_305 : decode b_Mod_made 305 = .ok (.iload 9, 2) := by decide +kernel
theorem d_Mod_made_307 : decode b_Mod_made 307 = .ok (.iload_n 3, 1) := by decide +kernel
theorem d_Mod_made_308 : decode b_Mod_made 308 = .ok (.iload 4, 2) := by decide +kernel
theorem d_Mod_made_310 : decode b_Mod_made 310 = .ok (.invokevirtual 555, 3) := by decide +kernel
theorem d_Mod_made_313 : decode b_Mod_made 313 = .ok (.iload 10, 2) := by decide +kernel
theorem d_Mod_made_315 : decode b_Mod_made 315 = .ok (.invokevirtual 350, 3) := by decide +kernel
theorem d_Mod_made_318 : decode b_Mod_made 318 = .ok (.invokevirtual 558, 3) := by decide +kernel
theorem d_Mod_made_321 : decode b_Mod_made 321 = .ok (.invokevirtual 402, 3) := by decide +kernel
theorem d_Mod_made_324 : decode b_Mod_made 324 = .ok (.istore 11, 2) := by decide +kernel
theorem d_Mod_made_326 : decode b_Mod_made 326 = .ok (.aload_n 0, 1) := by decide +kernel
theorem d_Mod_made_327 : decode b_Mod_made 327 = .ok (.getfield 68, 3) := by decide +kernel
theorem d_Mod_made_330 : decode b_Mod_made 330 = .ok (.iload 6, 2) := by decide +kernel
theorem d_Mod_made_332 : decode b_Mod_made 332 = .ok (.iaload, 1) := by decide +kernel
theorem d_Mod_made_333 : decode b_Mod_made 333 = .ok (.aload_n 0, 1) := by decide +kernel
theorem d_Mod_made_334 : decode b_Mod_made 334 = .ok (.getfield 68, 3) := by decide +kernel
theorem d_Mod_made_337 : decode b_Mod_made 337 = .ok (.iload 11, 2) := by decide +kernel
theorem d_Mod_made_339 : decode b_Mod_made 339 = .ok (.iaload, 1) := by decide +kernel
theorem d_Mod_made_340 : decode b_Mod_made 340 = .ok (.iadd, 1) := by decide +kernel
theorem d_Mod_made_341 : decode b_Mod_made 341 = .ok (.istore 12, 2) := by decide +kernel
theorem d_Mod_made_343 : decode b_Mod_made 343 = .ok (.iconst 0, 1) := by decide +kernel
theorem d_Mod_made_344 : decode b_Mod_made 344 = .ok (.istore 13, 2) := by decide +kernel
theorem d_Mod_made_346 : decode b_Mod_made 346 = .ok (.iload 13, 2) := by decide +kernel
theorem d_Mod_made_348 : decode b_Mod_made 348 = .ok (.iload 5, 2) := by decide +kernel
theorem d_Mod_made_350 : decode b_Mod_made 350 = .ok (.if_icmp .ge 32, 3) := by decide +kernel
theorem d_Mod_made_353 : decode b_Mod_made 353 = .ok (.ldc_w 327, 3) := by decide +kernel
theorem d_Mod_made_356 : decode b_Mod_made 356 = .ok (.iload 12, 2) := by decide +kernel
theorem d_Mod_made_358 : decode b_Mod_made 358 = .ok (.aload_n 0, 1) := by decide +kernel
theorem d_Mod_made_359 : decode b_Mod_made 359 = .ok (.getfield 68, 3) := by decide +kernel
theorem d_Mod_made_362 : decode b_Mod_made 362 = .ok (.aload_n 0, 1) := by decide +kernel
theorem d_Mod_made_363 : decode b_Mod_made 363 = .ok (.getfield 214, 3) := by decide +kernel
theorem d_Mod_made_366 : decode b_Mod_made 366 = .ok (.iload 13, 2) := by decide +kernel
theorem d_Mod_made_368 : decode b_Mod_made 368 = .ok (.iaload, 1) := by decide +kernel
theorem d_Mod_made_369 : decode b_Mod_made 369 = .ok (.iaload, 1) := by decide +kernel
theorem d_Mod_made_370 : decode b_Mod_made 370 = .ok (.iadd, 1) := by decide +kernel
theorem d_Mod_made_371 : decode b_Mod_made 371 = .ok (.invokestatic 328, 3) := by decide +kernel
theorem d_Mod_made_374 : decode b_Mod_made 374 = .ok (.istore 12, 2) := by decide +kernel
theorem d_Mod_made_376 : decode b_Mod_made 376 = .ok (.iinc 13 1, 3) := by decide +kernel
theorem d_Mod_made_379 : decode b_Mod_made 379 = .ok (.goto (-33), 3) := by decide +kernel
theorem d_Mod_made_382 : decode b_Mod_made 382 = .ok (.aload_n 0, 1) := by decide +kernel
theorem d_Mod_made_383 : decode b_Mod_made 383 = .ok (.iload 12, 2) := by decide +kernel
theorem d_Mod_made_385 : decode b_Mod_made 385 = .ok (.invokevirtual 525, 3) := by decide +kernel
theorem d_Mod_made_388 : decode b_Mod_made 388 = .ok (.aload_n 0, 1) := by decide +kernel
theorem d_Mod_made_389 : decode b_Mod_made 389 = .ok (.getfield 110, 3) := by decide +kernel
theorem d_Mod_made_392 : decode b_Mod_made 392 = .ok (.iload_n 1, 1) := by decide +kernel
theorem d_Mod_made_393 : decode b_Mod_made 393 = .ok (.aload_n 0, 1) := by decide +kernel
theorem d_Mod_made_394 : decode b_Mod_made 394 = .ok (.iload 6, 2) := by decide +kernel
theorem d_Mod_made_396 : decode b_Mod_made 396 = .ok (.invokevirtual 528, 3) := by decide +kernel
theorem d_Mod_made_399 : decode b_Mod_made 399 = .ok (.iastore, 1) := by decide +kernel
theorem d_Mod_made_400 : decode b_Mod_made 400 = .ok (.aload_n 0, 1) := by decide +kernel
theorem d_Mod_made_401 : decode b_Mod_made 401 = .ok (.getfield 134, 3) := by decide +kernel
theorem d_Mod_made_404 : decode b_Mod_made 404 = .ok (.iload_n 1, 1) := by decide +kernel
theorem d_Mod_made_405 : decode b_Mod_made 405 = .ok (.aload_n 0, 1) := by decide +kernel
theorem d_Mod_made_406 : decode b_Mod_made 406 = .ok (.iload 11, 2) := by decide +kernel
theorem d_Mod_made_408 : decode b_Mod_made 408 = .ok (.invokevirtual 528, 3) := by decide +kernel
theorem d_Mod_made_411 : decode b_Mod_made 411 = .ok (.iastore, 1) := by decide +kernel
theorem d_Mod_made_412 : decode b_Mod_made 412 = .ok (.iconst 0, 1) := by decide +kernel
theorem d_Mod_made_413 : decode b_Mod_made 413 = .ok (.istore 13, 2) := by decide +kernel
theorem d_Mod_made_415 : decode b_Mod_made 415 = .ok (.iload 13, 2) := by decide +kernel
theorem d_Mod_made_417 : decode b_Mod_made 417 = .ok (.iload 5, 2) := by decide +kernel
theorem d_Mod_made_419 : decode b_Mod_made 419 = .ok (.if_icmp .ge 31, 3) := by decide +kernel
theorem d_Mod_made_422 : decode b_Mod_made 422 = .ok (.aload_n 0, 1) := by decide +kernel
theorem d_Mod_made_423 : decode b_Mod_made 423 = .ok (.getfield 110, 3) := by decide +kernel
theorem d_Mod_made_426 : decode b_Mod_made 426 = .ok (.iload_n 1, 1) := by decide +kernel
theorem d_Mod_made_427 : decode b_Mod_made 427 = .ok (.iconst 1, 1) := by decide +kernel
theorem d_Mod_made_428 : decode b_Mod_made 428 = .ok (.iadd, 1) := by decide +kernel
theorem d_Mod_made_429 : decode b_Mod_made 429 = .ok (.iload 13, 2) := by decide +kernel
theorem d_Mod_made_431 : decode b_Mod_made 431 = .ok (.iadd, 1) := by decide +kernel
theorem d_Mod_made_432 : decode b_Mod_made 432 = .ok (.aload_n 0, 1) := by decide +kernel
theorem d_Mod_made_433 : decode b_Mod_made 433 = .ok (.aload_n 0, 1) := by decide +kernel
theorem d_Mod_made_434 : decode b_Mod_made 434 = .ok (.getfield 214, 3) := by decide +kernel
theorem d_Mod_made_437 : decode b_Mod_made 437 = .ok (.iload 13, 2) := by decide +kernel
theorem d_Mod_made_439 : decode b_Mod_made 439 = .ok (.iaload, 1) := by decide +kernel
theorem d_Mod_made_440 : decode b_Mod_made 440 = .ok (.invokevirtual 528, 3) := by decide +kernel
theorem d_Mod_made_443 : decode b_Mod_made 443 = .ok (.iastore, 1) := by decide +kernel
theorem d_Mod_made_444 : decode b_Mod_made 444 = .ok (.iinc 13 1, 3) := by decide +kernel
theorem d_Mod_made_447 : decode b_Mod_made 447 = .ok (.goto (-32), 3) := by decide +kernel
theorem d_Mod_made_450 : decode b_Mod_made 450 = .ok (.aload_n 0, 1) := by decide +kernel
theorem d_Mod_made_451 : decode b_Mod_made 451 = .ok (.getfield 74, 3) := by decide +kernel
theorem d_Mod_made_454 : decode b_Mod_made 454 = .ok (.istore 13, 2) := by decide +kernel
theorem d_Mod_made_456 : decode b_Mod_made 456 = .ok (.iconst 0, 1) := by decide +kernel
theorem d_Mod_made_457 : decode b_Mod_made 457 = .ok (.istore 14, 2) := by decide +kernel
theorem d_Mod_made_459 : decode b_Mod_made 459 = .ok (.iload 14, 2) := by decide +kernel
theorem d_Mod_made_461 : decode b_Mod_made 461 = .ok (.iload 5, 2) := by decide +kernel
theorem d_Mod_made_463 : decode b_Mod_made 463 = .ok (.if_icmp .ge 63, 3) := by decide +kernel
theorem d_Mod_made_466 : decode b_Mod_made 466 = .ok (.aload_n 0, 1) := by decide +kernel
theorem d_Mod_made_467 : decode b_Mod_made 467 = .ok (.aload_n 0, 1) := by decide +kernel
theorem d_Mod_made_468 : decode b_Mod_made 468 = .ok (.iload_n 1, 1) := by decide +kernel
theorem d_Mod_made_469 : decode b_Mod_made 469 = .ok (.iload 14, 2) := by decide +kernel
theorem d_Mod_made_471 : decode b_Mod_made 471 = .ok (.iload_n 3, 1) := by decide +kernel
theorem d_Mod_made_472 : decode b_Mod_made 472 = .ok (.iload 4, 2) := by decide +kernel
theorem d_Mod_made_474 : decode b_Mod_made 474 = .ok (.iload 9, 2) := by decide +kernel
theorem d_Mod_made_476 : decode b_Mod_made 476 = .ok (.iload 5, 2) := by decide +kernel
theorem d_Mod_made_478 : decode b_Mod_made 478 = .ok (.invokevirtual 567, 3) := by decide +kernel
theorem d_Mod_made_481 : decode b_Mod_made 481 = .ok (.invokevirtual 402, 3) := by decide +kernel
theorem d_Mod_made_484 : decode b_Mod_made 484 = .ok (.istore 15, 2) := by decide +kernel
theorem d_Mod_made_486 : decode b_Mod_made 486 = .ok (.aload_n 0, 1) := by decide +kernel
theorem d_Mod_made_487 : decode b_Mod_made 487 = .ok (.aload_n 0, 1) := by decide +kernel
theorem d_Mod_made_488 : decode b_Mod_made 488 = .ok (.getfield 68, 3) := by decide +kernel
theorem d_Mod_made_491 : decode b_Mod_made 491 = .ok (.iload 15, 2) := by decide +kernel
theorem d_Mod_made_493 : decode b_Mod_made 493 = .ok (.iaload, 1) := by decide +kernel
theorem d_Mod_made_494 : decode b_Mod_made 494 = .ok (.invokevirtual 525, 3) := by decide +kernel
theorem d_Mod_made_497 : decode b_Mod_made 497 = .ok (.aload_n 0, 1) := by decide +kernel
theorem d_Mod_made_498 : decode b_Mod_made 498 = .ok (.getfield 137, 3) := by decide +kernel
theorem d_Mod_made_501 : decode b_Mod_made 501 = .ok (.iload_n 1, 1) := by decide +kernel
theorem d_Mod_made_502 : decode b_Mod_made 502 = .ok (.iconst 1, 1) := by decide +kernel
theorem d_Mod_made_503 : decode b_Mod_made 503 = .ok (.iadd, 1) := by decide +kernel
theorem d_Mod_made_504 : decode b_Mod_made 504 = .ok (.iload 14, 2) := by decide +kernel
theorem d_Mod_made_506 : decode b_Mod_made 506 = .ok (.iadd, 1) := by decide +kernel
theorem d_Mod_made_507 : decode b_Mod_made 507 = .ok (.aload_n 0, 1) := by decide +kernel
theorem d_Mod_made_508 : decode b_Mod_made 508 = .ok (.iload 15, 2) := by decide +kernel
theorem d_Mod_made_510 : decode b_Mod_made 510 = .ok (.invokevirtual 528, 3) := by decide +kernel
theorem d_Mod_made_513 : decode b_Mod_made 513 = .ok (.iastore, 1) := by decide +kernel
theorem d_Mod_made_514 : decode b_Mod_made 514 = .ok (.aload_n 0, 1) := by decide +kernel
theorem d_Mod_made_515 : decode b_Mod_made 515 = .ok (.iload 13, 2) := by decide +kernel
theorem d_Mod_made_517 : decode b_Mod_made 517 = .ok (.putfield 74, 3) := by decide +kernel
theorem d_Mod_made_520 : decode b_Mod_made 520 = .ok (.iinc 14 1, 3) := by decide +kernel
theorem d_Mod_made_523 : decode b_Mod_made 523 = .ok (.goto (-64), 3) := by decide +kernel
theorem d_Mod_made_526 : decode b_Mod_made 526 = .ok (.return_, 1) := by decide +kernel
theorem d_Mod_inductive_0 : decode b_Mod_inductive 0 = .ok (.aload_n 0, 1) := by decide +kernel
theorem d_Mod_inductive_1 : decode b_Mod_inductive 1 = .ok (.invokevirtual 281, 3) := by decide +kernel
theorem d_Mod_inductive_4 : decode b_Mod_inductive 4 = .ok (.aload_n 0, 1) := by decide +kernel
theorem d_Mod_inductive_5 : decode b_Mod_inductive 5 = .ok (.invokevirtual 516, 3) := by decide +kernel
theorem d_Mod_inductive_8 : decode b_Mod_inductive 8 = .ok (.aload_n 0, 1) := by decide +kernel
theorem d_Mod_inductive_9 : decode b_Mod_inductive 9 = .ok (.getfield 104, 3) := by decide +kernel
theorem d_Mod_inductive_12 : decode b_Mod_inductive 12 = .ok (.istore_n 1, 1) := by decide +kernel
theorem d_Mod_inductive_13 : decode b_Mod_inductive 13 = .ok (.aload_n 0, 1) := by decide +kernel
theorem d_Mod_inductive_14 : decode b_Mod_inductive 14 = .ok (.invokevirtual 273, 3) := by decide +kernel
theorem d_Mod_inductive_17 : decode b_Mod_inductive 17 = .ok (.bipush 40, 2) := by decide +kernel
theorem d_Mod_inductive_19 : decode b_Mod_inductive 19 = .ok (.if_icmp .ne 11, 3) := by decide +kernel
theorem d_Mod_inductive_22 : decode b_Mod_inductive 22 = .ok (.aload_n 0, 1) := by decide +kernel
theorem d_Mod_inductive_23 : decode b_Mod_inductive 23 = .ok (.iconst 0, 1) := by decide +kernel
theorem d_Mod_inductive_24 : decode b_Mod_inductive 24 = .ok (.invokevirtual 409, 3) := by decide +kernel
theorem d_Mod_inductive_27 : decode b_Mod_inductive 27 = .ok (.goto 4, 3) := by decide +kernel
theorem d_Mod_inductive_30 : decode b_Mod_inductive 30 = .ok (.iconst 0, 1) := by decide +kernel
theorem d_Mod_inductive_31 : decode b_Mod_inductive 31 = .ok (.istore_n 2, 1) := by decide +kernel
theorem d_Mod_inductive_32 : decode b_Mod_inductive 32 = .ok (.aload_n 0, 1) := by decide +kernel
theorem d_Mod_inductive_33 : decode b_Mod_inductive 33 = .ok (.bipush 58, 2) := by decide +kernel
theorem d_Mod_inductive_35 : decode b_Mod_inductive 35 = .ok (.invokevirtual 405, 3) := by decide +kernel
theorem d_Mod_inductive_38 : decode b_Mod_inductive 38 = .ok (.aload_n 0, 1) := by decide +kernel
theorem d_Mod_inductive_39 : decode b_Mod_inductive 39 = .ok (.iconst 0, 1) := by decide +kernel
theorem d_Mod_inductive_40 : decode b_Mod_inductive 40 = .ok (.invokevirtual 399, 3) := by decide +kernel
theorem d_Mod_inductive_43 : decode b_Mod_inductive 43 = .ok (.istore_n 3, 1) := by decide +kernel
theorem d_Mod_inductive_44 : decode b_Mod_inductive 44 = .ok (.aload_n 0, 1) := by decide +kernel
theorem d_Mod_inductive_45 : decode b_Mod_inductive 45 = .ok (.sipush 300, 3) := by decide +kernel
theorem d_Mod_inductive_48 : decode b_Mod_inductive 48 = .ok (.invokevirtual 405, 3) := by decide +kernel
theorem d_Mod_inductive_51 : decode b_Mod_inductive 51 = .ok (.aload_n 0, 1) := by decide +kernel
theorem d_Mod_inductive_52 : decode b_Mod_inductive 52 = .ok (.bipush 123, 2) := by decide +kernel
theorem d_Mod_inductive_54 : decode b_Mod_inductive 54 = .ok (.invokevirtual 405, 3) := by decide +kernel
theorem d_Mod_inductive_57 : decode b_Mod_inductive 57 = .ok (.aload_n 0, 1) := by decide +kernel
theorem d_Mod_inductive_58 : decode b_Mod_inductive 58 = .ok (.iload_n 2, 1) := by decide +kernel
theorem d_Mod_inductive_59 : decode b_Mod_inductive 59 = .ok (.iload_n 3, 1) := by decide +kernel
theorem d_Mod_inductive_60 : decode b_Mod_inductive 60 = .ok (.invokevirtual 534, 3) := by decide +kernel
theorem d_Mod_inductive_63 : decode b_Mod_inductive 63 = .ok (.istore 4, 2) := by decide +kernel
theorem d_Mod_inductive_65 : decode b_Mod_inductive 65 = .ok (.aload_n 0, 1) := by decide +kernel
theorem d_Mod_inductive_66 : decode b_Mod_inductive 66 = .ok (.getfield 107, 3) := by decide +kernel
theorem d_Mod_inductive_69 : decode b_Mod_inductive 69 = .ok (.iload_n 1, 1) := by decide +kernel
theorem d_Mod_inductive_70 : decode b_Mod_inductive 70 = .ok (.iconst (-1), 1) := by decide +kernel
theorem d_Mod_inductive_71 : decode b_Mod_inductive 71 = .ok (.iastore, 1) := by decide +kernel
theorem d_Mod_inductive_72 : decode b_Mod_inductive 72 = .ok (.aload_n 0, 1) := by decide +kernel
theorem d_Mod_inductive_73 : decode b_Mod_inductive 73 = .ok (.dup, 1) := by decide +kernel
theorem d_Mod_inductive_74 : decode b_Mod_inductive 74 = .ok (.getfield 104, 3) := by decide +kernel
theorem d_Mod_inductive_77 : decode b_Mod_inductive 77 = .ok (.iconst 1, 1) := by decide +kernel
theorem d_Mod_inductive_78 : decode b_Mod_inductive 78 = .ok (.iadd, 1) := by decide +kernel
theorem d_Mod_inductive_79 : decode b_Mod_inductive 79 = .ok (.putfield 104, 3) := by decide +kernel
theorem d_Mod_inductive_82 : decode b_Mod_inductive 82 = .ok (.aload_n 0, 1) := by decide +kernel
theorem d_Mod_inductive_83 : decode b_Mod_inductive 83 = .ok (.aload_n 0, 1) := by decide +kernel
theorem d_Mod_inductive_84 : decode b_Mod_inductive 84 = .ok (.getfield 104, 3) := by decide +kernel
theorem d_Mod_inductive_87 : decode b_Mod_inductive 87 = .ok (.putfield 205, 3) := by decide +kernel
theorem d_Mod_inductive_90 : decode b_Mod_inductive 90 = .ok (.iconst 0, 1) := by decide +kernel
theorem d_Mod_inductive_91 : decode b_Mod_inductive 91 = .ok (.istore 5, 2) := by decide +kernel
theorem d_Mod_inductive_93 : decode b_Mod_inductive 93 = .ok (.aload_n 0, 1) := by decide +kernel
theorem d_Mod_inductive_94 : decode b_Mod_inductive 94 = .ok (.invokevirtual 273, 3) := by decide +kernel
theorem d_Mod_inductive_97 : decode b_Mod_inductive 97 = .ok (.bipush 124, 2) := by decide +kernel
theorem d_Mod_inductive_99 : decode b_Mod_inductive 99 = .ok (.if_icmp .ne 45, 3) := by decide +kernel
theorem d_Mod_inductive_102 : decode b_Mod_inductive 102 = .ok (.aload_n 0, 1) := by decide +kernel
theorem d_Mod_inductive_103 : decode b_Mod_inductive 103 = .ok (.invokevirtual 281, 3) := by decide +kernel
theorem d_Mod_inductive_106 : decode b_Mod_inductive 106 = .ok (.aload_n 0, 1) := by decide +kernel
theorem d_Mod_inductive_107 : decode b_Mod_inductive 107 = .ok (.invokevirtual 516, 3) := by decide +kernel
theorem d_Mod_inductive_110 : decode b_Mod_inductive 110 = .ok (.aload_n 0, 1) := by decide +kernel
theorem d_Mod_inductive_111 : decode b_Mod_inductive 111 = .ok (.dup, 1) := by decide +kernel
theorem d_Mod_inductive_112 : decode b_Mod_inductive 112 = .ok (.getfield 104, 3) := by decide +kernel
theorem d_Mod_inductive_115 : decode b_Mod_inductive 115 = .ok (.iconst 1, 1) := by decide +kernel
theorem d_Mod_inductive_116 : decode b_Mod_inductive 116 = .ok (.iadd, 1) := by decide +kernel
theorem d_Mod_inductive_117 : decode b_Mod_inductive 117 = .ok (.putfield 104, 3) := by decide +kernel
theorem d_Mod_inductive_120 : decode b_Mod_inductive 120 = .ok (.aload_n 0, 1) := by decide +kernel
theorem d_Mod_inductive_121 : decode b_Mod_inductive 121 = .ok (.bipush 58, 2) := by decide +kernel
theorem d_Mod_inductive_123 : decode b_Mod_inductive 123 = .ok (.invokevirtual 405, 3) := by decide +kernel
theorem d_Mod_inductive_126 : decode b_Mod_inductive 126 = .ok (.aload_n 0, 1) := by decide +kernel
theorem d_Mod_inductive_127 : decode b_Mod_inductive 127 = .ok (.getfield 211, 3) := by decide +kernel
theorem d_Mod_inductive_130 : decode b_Mod_inductive 130 = .ok (.iload 5, 2) := by decide +kernel
theorem d_Mod_inductive_132 : decode b_Mod_inductive 132 = .ok (.iinc 5 1, 3) := by decide +kernel
theorem d_Mod_inductive_135 : decode b_Mod_inductive 135 = .ok (.aload_n 0, 1) := by decide +kernel
theorem d_Mod_inductive_136 : decode b_Mod_inductive 136 = .ok (.iconst 0, 1) := by decide +kernel
theorem d_Mod_inductive_137 : decode b_Mod_inductive 137 = .ok (.invokevirtual 399, 3) := by decide +kernel
theorem d_Mod_inductive_140 : decode b_Mod_inductive 140 = .ok (.iastore, 1) := by decide +kernel
theorem d_Mod_inductive_141 : decode b_Mod_inductive 141 = .ok (.goto (-48), 3) := by decide +kernel
theorem d_Mod_inductive_144 : decode b_Mod_inductive 144 = .ok (.aload_n 0, 1) := by decide +kernel
theorem d_Mod_inductive_145 : decode b_Mod_inductive 145 = .ok (.bipush 125, 2) := by decide +kernel
theorem d_Mod_inductive_147 : decode b_Mod_inductive 147 = .ok (.invokevirtual 405, 3) := by decide +kernel
theorem d_Mod_inductive_150 : decode b_Mod_inductive 150 = .ok (.aload_n 0, 1) := by decide +kernel
theorem d_Mod_inductive_151 : decode b_Mod_inductive 151 = .ok (.bipush 46, 2) := by decide +kernel
theorem d_Mod_inductive_153 : decode b_Mod_inductive 153 = .ok (.invokevirtual 405, 3) := by decide +kernel
theorem d_Mod_inductive_156 : decode b_Mod_inductive 156 = .ok (.aload_n 0, 1) := by decide +kernel
theorem d_Mod_inductive_157 : decode b_Mod_inductive 157 = .ok (.getfield 68, 3) := by decide +kernel
theorem d_Mod_inductive_160 : decode b_Mod_inductive 160 = .ok (.iload 4, 2) := by decide +kernel
theorem d_Mod_inductive_162 : decode b_Mod_inductive 162 = .ok (.iaload, 1) := by decide +kernel
theorem d_Mod_inductive_163 : decode b_Mod_inductive 163 = .ok (.istore 6, 2) := by decide +kernel
theorem d_Mod_inductive_165 : decode b_Mod_inductive 165 = .ok (.iconst 0, 1) := by decide +kernel
theorem d_Mod_inductive_166 : decode b_Mod_inductive 166 = .ok (.istore 7, 2) := by decide +kernel
theorem d_Mod_inductive_168 : decode b_Mod_inductive 168 = .ok (.iload 7, 2) := by decide +kernel
theorem d_Mod_inductive_170 : decode b_Mod_inductive 170 = .ok (.iload 5, 2) := by decide +kernel
theorem d_Mod_inductive_172 : decode b_Mod_inductive 172 = .ok (.if_icmp .ge 26, 3) := by decide +kernel
theorem d_Mod_inductive_175 : decode b_Mod_inductive 175 = .ok (.iload 6, 2) := by decide +kernel
theorem d_Mod_inductive_177 : decode b_Mod_inductive 177 = .ok (.aload_n 0, 1) := by decide +kernel
theorem d_Mod_inductive_178 : decode b_Mod_inductive 178 = .ok (.getfield 68, 3) := by decide +kernel
theorem d_Mod_inductive_181 : decode b_Mod_inductive 181 = .ok (.aload_n 0, 1) := by decide +kernel
theorem d_Mod_inductive_182 : decode b_Mod_inductive 182 = .ok (.getfield 211, 3) := by decide +kernel
theorem d_Mod_inductive_185 : decode b_Mod_inductive 185 = .ok (.iload 7, 2) := by decide +kernel
theorem d_Mod_inductive_187 : decode b_Mod_inductive 187 = .ok (.iaload, 1) := by decide +kernel
theorem d_Mod_inductive_188 : decode b_Mod_inductive 188 = .ok (.iaload, 1) := by decide +kernel
theorem d_Mod_inductive_189 : decode b_Mod_inductive 189 = .ok (.iadd, 1) := by decide +kernel
theorem d_Mod_inductive_190 : decode b_Mod_inductive 190 = .ok (.istore 6, 2) := by decide +kernel
theorem d_Mod_inductive_192 : decode b_Mod_inductive 192 = .ok (.iinc 7 1, 3) := by decide +kernel
theorem d_Mod_inductive_195 : decode b_Mod_inductive 195 = .ok (.goto (-27), 3) := by decide +kernel
theorem d_Mod_inductive_198 : decode b_Mod_inductive 198 = .ok (.aload_n 0, 1) := by decide +kernel
theorem d_Mod_inductive_199 : decode b_Mod_inductive 199 = .ok (.iload 6, 2) := by decide +kernel
theorem d_Mod_inductive_201 : decode b_Mod_inductive 201 = .ok (.invokevirtual 519, 3) := by decide +kernel
theorem d_Mod_inductive_204 : decode b_Mod_inductive 204 = .ok (.iload_n 3, 1) := by decide +kernel
theorem d_Mod_inductive_205 : decode b_Mod_inductive 205 = .ok (.istore 7, 2) := by decide +kernel
theorem d_Mod_inductive_207 : decode b_Mod_inductive 207 = .ok (.iconst 0, 1) := by decide +kernel
theorem d_Mod_inductive_208 : decode b_Mod_inductive 208 = .ok (.istore 8, 2) := by decide +kernel
theorem d_Mod_inductive_210 : decode b_Mod_inductive 210 = .ok (.aload_n 0, 1) := by decide +kernel
theorem d_Mod_inductive_211 : decode b_Mod_inductive 211 = .ok (.getfield 55, 3) := by decide +kernel
theorem d_Mod_inductive_214 : decode b_Mod_inductive 214 = .ok (.iload 7, 2) := by decide +kernel
theorem d_Mod_inductive_216 : decode b_Mod_inductive 216 = .ok (.baload, 1) := by decide +kernel
theorem d_Mod_inductive_217 : decode b_Mod_inductive 217 = .ok (.bipush 6, 2) := by decide +kernel
theorem d_Mod_inductive_219 : decode b_Mod_inductive 219 = .ok (.if_icmp .ne 18, 3) := by decide +kernel
theorem d_Mod_inductive_222 : decode b_Mod_inductive 222 = .ok (.iinc 8 1, 3) := by decide +kernel
theorem d_Mod_inductive_225 : decode b_Mod_inductive 225 = .ok (.aload_n 0, 1) := by decide +kernel
theorem d_Mod_inductive_226 : decode b_Mod_inductive 226 = .ok (.getfield 62, 3) := by decide +kernel
theorem d_Mod_inductive_229 : decode b_Mod_inductive 229 = .ok (.iload 7, 2) := by decide +kernel
theorem d_Mod_inductive_231 : decode b_Mod_inductive 231 = .ok (.iaload, 1) := by decide +kernel
theorem d_Mod_inductive_232 : decode b_Mod_inductive 232 = .ok (.istore 7, 2) := by decide +kernel
theorem d_Mod_inductive_234 : decode b_Mod_inductive 234 = .ok (.goto (-24), 3) := by decide +kernel
theorem d_Mod_inductive_237 : decode b_Mod_inductive 237 = .ok (.aload_n 0, 1) := by decide +kernel
theorem d_Mod_inductive_238 : decode b_Mod_inductive 238 = .ok (.getfield 55, 3) := by decide +kernel
theorem d_Mod_inductive_241 : decode b_Mod_inductive 241 = .ok (.iload 7, 2) := by decide +kernel
theorem d_Mod_inductive_243 : decode b_Mod_inductive 243 = .ok (.baload, 1) := by decide +kernel
theorem d_Mod_inductive_244 : decode b_Mod_inductive 244 = .ok (.ifCond .eq 9, 3) := by decide +kernel
theorem d_Mod_inductive_247 : decode b_Mod_inductive 247 = .ok (.bipush 8, 2) := by decide +kernel
theorem d_Mod_inductive_249 : decode b_Mod_inductive 249 = .ok (.invokestatic 323, 3) := by decide +kernel
theorem d_Mod_inductive_252 : decode b_Mod_inductive 252 = .ok (.athrow, 1) := by decide +kernel
theorem d_Mod_inductive_253 : decode b_Mod_inductive 253 = .ok (.aload_n 0, 1) := by decide +kernel
theorem d_Mod_inductive_254 : decode b_Mod_inductive 254 = .ok (.iload 4, 2) := by decide +kernel
theorem d_Mod_inductive_256 : decode b_Mod_inductive 256 = .ok (.iconst 0, 1) := by decide +kernel
theorem d_Mod_inductive_257 : decode b_Mod_inductive 257 = .ok (.iconst 0, 1) := by decide +kernel
theorem d_Mod_inductive_258 : decode b_Mod_inductive 258 = .ok (.invokevirtual 513, 3) := by decide +kernel
theorem d_Mod_inductive_261 : decode b_Mod_inductive 261 = .ok (.istore 9, 2) := by decide +kernel
theorem d_Mod_inductive_263 : decode b_Mod_inductive 263 = .ok (.aload_n 0, 1) := by decide +kernel
theorem d_Mod_inductive_264 : decode b_Mod_inductive 264 = .ok (.iload 9, 2) := by decide +kernel
theorem d_Mod_inductive_266 : decode b_Mod_inductive 266 = .ok (.iconst 0, 1) := by decide +kernel
theorem d_Mod_inductive_267 : decode b_Mod_inductive 267 = .ok (.invokevirtual 477, 3) := by decide +kernel
theorem d_Mod_inductive_270 : decode b_Mod_inductive 270 = .ok (.pop, 1) := by decide +kernel
theorem d_Mod_inductive_271 : decode b_Mod_inductive 271 = .ok (.aload_n 0, 1) := by decide +kernel
theorem d_Mod_inductive_272 : decode b_Mod_inductive 272 = .ok (.getfield 107, 3) := by decide +kernel
theorem d_Mod_inductive_275 : decode b_Mod_inductive 275 = .ok (.iload_n 1, 1) := by decide +kernel
theorem d_Mod_inductive_276 : decode b_Mod_inductive 276 = .ok (.iconst 3, 1) := by decide +kernel
theorem d_Mod_inductive_277 : decode b_Mod_inductive 277 = .ok (.iastore, 1) := by decide +kernel
theorem d_Mod_inductive_278 : decode b_Mod_inductive 278 = .ok (.aload_n 0, 1) := by decide +kernel
theorem d_Mod_inductive_279 : decode b_Mod_inductive 279 = .ok (.getfield 110, 3) := by decide +kernel
theorem d_Mod_inductive_282 : decode b_Mod_inductive 282 = .ok (.iload_n 1, 1) := by decide +kernel
theorem d_Mod_inductive_283 : decode b_Mod_inductive 283 = .ok (.iload 9, 2) := by decide +kernel
theorem d_Mod_inductive_285 : decode b_Mod_inductive 285 = .ok (.iastore, 1) := by decide +kernel
theorem d_Mod_inductive_286 : decode b_Mod_inductive 286 = .ok (.aload_n 0, 1) := by decide +kernel
theorem d_Mod_inductive_287 : decode b_Mod_inductive 287 = .ok (.getfield 116, 3) := by decide +kernel
theorem d_Mod_inductive_290 : decode b_Mod_inductive 290 = .ok (.iload_n 1, 1) := by decide +kernel
theorem d_Mod_inductive_291 : decode b_Mod_inductive 291 = .ok (.iload_n 2, 1) := by decide +kernel
theorem d_Mod_inductive_292 : decode b_Mod_inductive 292 = .ok (.iastore, 1) := by decide +kernel
theorem d_Mod_inductive_293 : decode b_Mod_inductive 293 = .ok (.aload_n 0, 1) := by decide +kernel
theorem d_Mod_inductive_294 : decode b_Mod_inductive 294 = .ok (.getfield 119, 3) := by decide +kernel
theorem d_Mod_inductive_297 : decode b_Mod_inductive 297 = .ok (.iload_n 1, 1) := by decide +kernel
theorem d_Mod_inductive_298 : decode b_Mod_inductive 298 = .ok (.iload 8, 2) := by decide +kernel
theorem d_Mod_inductive_300 : decode b_Mod_inductive 300 = .ok (.iastore, 1) := by decide +kernel
theorem d_Mod_inductive_301 : decode b_Mod_inductive 301 = .ok (.aload_n 0, 1) := by decide +kernel
theorem d_Mod_inductive_302 : decode b_Mod_inductive 302 = .ok (.getfield 122, 3) := by decide +kernel
theorem d_Mod_inductive_305 : decode b_Mod_inductive 305 = .ok (.iload_n 1, 1) := by decide +kernel
theorem d_Mod_inductive_306 : decode b_Mod_inductive 306 = .ok (.iload 5, 2) := by decide +kernel
theorem d_Mod_inductive_308 : decode b_Mod_inductive 308 = .ok (.iastore, 1) := by decide +kernel
theorem d_Mod_inductive_309 : decode b_Mod_inductive 309 = .ok (.aload_n 0, 1) := by decide +kernel
theorem d_Mod_inductive_310 : decode b_Mod_inductive 310 = .ok (.getfield 125, 3) := by decide +kernel
theorem d_Mod_inductive_313 : decode b_Mod_inductive 313 = .ok (.iload_n 1, 1) := by decide +kernel
theorem d_Mod_inductive_314 : decode b_Mod_inductive 314 = .ok (.iconst 0, 1) := by decide +kernel
theorem d_Mod_inductive_315 : decode b_Mod_inductive 315 = .ok (.iastore, 1) := by decide +kernel
theorem d_Mod_inductive_316 : decode b_Mod_inductive 316 = .ok (.aload_n 0, 1) := by decide +kernel
theorem d_Mod_inductive_317 : decode b_Mod_inductive 317 = .ok (.getfield 128, 3) := by decide +kernel
theorem d_Mod_inductive_320 : decode b_Mod_inductive 320 = .ok (.iload_n 1, 1) := by decide +kernel
theorem d_Mod_inductive_321 : decode b_Mod_inductive 321 = .ok (.iconst 0, 1) := by decide +kernel
theorem d_Mod_inductive_322 : decode b_Mod_inductive 322 = .ok (.iastore, 1) := by decide +kernel
theorem d_Mod_inductive_323 : decode b_Mod_inductive 323 = .ok (.aload_n 0, 1) := by decide +kernel
theorem d_Mod_inductive_324 : decode b_Mod_inductive 324 = .ok (.getfield 113, 3) := by decide +kernel
theorem d_Mod_inductive_327 : decode b_Mod_inductive 327 = .ok (.iload_n 1, 1) := by decide +kernel
theorem d_Mod_inductive_328 : decode b_Mod_inductive 328 = .ok (.iconst (-1), 1) := by decide +kernel
theorem d_Mod_inductive_329 : decode b_Mod_inductive 329 = .ok (.iastore, 1) := by decide +kernel
theorem d_Mod_inductive_330 : decode b_Mod_inductive 330 = .ok (.iconst 0, 1) := by decide +kernel
theorem d_Mod_inductive_331 : decode b_Mod_inductive 331 = .ok (.istore 10, 2) := by decide +kernel
theorem d_Mod_inductive_333 : decode b_Mod_inductive 333 = .ok (.iload 10, 2) := by decide +kernel
theorem d_Mod_inductive_335 : decode b_Mod_inductive 335 = .ok (.iload_n 2, 1) := by decide +kernel
theorem d_Mod_inductive_336 : decode b_Mod_inductive 336 = .ok (.if_icmp .ge 40, 3) := by decide +kernel
theorem d_Mod_inductive_339 : decode b_Mod_inductive 339 = .ok (.aload_n 0, 1) := by decide +kernel
theorem d_Mod_inductive_340 : decode b_Mod_inductive 340 = .ok (.getfield 208, 3) := by decide +kernel
theorem d_Mod_inductive_343 : decode b_Mod_inductive 343 = .ok (.iload 10, 2) := by decide +kernel
theorem d_Mod_inductive_345 : decode b_Mod_inductive 345 = .ok (.aload_n 0, 1) := by decide +kernel
theorem d_Mod_inductive_346 : decode b_Mod_inductive 346 = .ok (.getfield 58, 3) := by decide +kernel
theorem d_Mod_inductive_349 : decode b_Mod_inductive 349 = .ok (.aload_n 0, 1) := by decide +kernel
theorem d_Mod_inductive_350 : decode b_Mod_inductive 350 = .ok (.aload_n 0, 1) := by decide +kernel
theorem d_Mod_inductive_351 : decode b_Mod_inductive 351 = .ok (.aload_n 0, 1) := by decide +kernel
theorem d_Mod_inductive_352 : decode b_Mod_inductive 352 = .ok (.getfield 162, 3) := by decide +kernel
theorem d_Mod_inductive_355 : decode b_Mod_inductive 355 = .ok (.iload 10, 2) := by decide +kernel
theorem d_Mod_inductive_357 : decode b_Mod_inductive 357 = .ok (.iaload, 1) := by decide +kernel
theorem d_Mod_inductive_358 : decode b_Mod_inductive 358 = .ok (.iload 10, 2) := by decide +kernel
theorem d_Mod_inductive_360 : decode b_Mod_inductive 360 = .ok (.iload 10, 2) := by decide +kernel
theorem d_Mod_inductive_362 : decode b_Mod_inductive 362 = .ok (.invokevirtual 513, 3) := by decide +kernel
theorem d_Mod_inductive_365 : decode b_Mod_inductive 365 = .ok (.invokevirtual 468, 3) := by decide +kernel
theorem d_Mod_inductive_368 : decode b_Mod_inductive 368 = .ok (.iaload, 1) := by decide +kernel
theorem d_Mod_inductive_369 : decode b_Mod_inductive 369 = .ok (.iastore, 1) := by decide +kernel
theorem d_Mod_inductive_370 : decode b_Mod_inductive 370 = .ok (.iinc 10 1, 3) := by decide +kernel
theorem d_Mod_inductive_373 : decode b_Mod_inductive 373 = .ok (.goto (-40), 3) := by decide +kernel
theorem d_Mod_inductive_376 : decode b_Mod_inductive 376 = .ok (.aload_n 0, 1) := by decide +kernel
theorem d_Mod_inductive_377 : decode b_Mod_inductive 377 = .ok (.iconst 0, 1) := by decide +kernel
theorem d_Mod_inductive_378 : decode b_Mod_inductive 378 = .ok (.putfield 232, 3) := by decide +kernel
theorem d_Mod_inductive_381 : decode b_Mod_inductive 381 = .ok (.iconst 0, 1) := by decide +kernel
theorem d_Mod_inductive_382 : decode b_Mod_inductive 382 = .ok (.istore 10, 2) := by decide +kernel
theorem d_Mod_inductive_384 : decode b_Mod_inductive 384 = .ok (.iload 10, 2) := by decide +kernel
theorem d_Mod_inductive_386 : decode b_Mod_inductive 386 = .ok (.iload 5, 2) := by decide +kernel
theorem d_Mod_inductive_388 : decode b_Mod_inductive 388 = .ok (.if_icmp .ge 32, 3) := by decide +kernel
theorem d_Mod_inductive_391 : decode b_Mod_inductive 391 = .ok (.aload_n 0, 1) := by decide +kernel
theorem d_Mod_inductive_392 : decode b_Mod_inductive 392 = .ok (.iload_n 1, 1) := by decide +kernel
theorem d_Mod_inductive_393 : decode b_Mod_inductive 393 = .ok (.iload_n 1, 1) := by decide +kernel
theorem d_Mod_inductive_394 : decode b_Mod_inductive 394 = .ok (.iconst 1, 1) := by decide +kernel
theorem d_Mod_inductive_395 : decode b_Mod_inductive 395 = .ok (.iadd, 1) := by decide +kernel
theorem d_Mod_inductive_396 : decode b_Mod_inductive 396 = .ok (.iload 10, 2) := by decide +kernel
theorem d_Mod_inductive_398 : decode b_Mod_inductive 398 = .ok (.iadd, 1) := by decide +kernel
theorem d_Mod_inductive_399 : decode b_Mod_inductive 399 = .ok (.iload 10, 2) := by decide +kernel
theorem d_Mod_inductive_401 : decode b_Mod_inductive 401 = .ok (.aload_n 0, 1) := by decide +kernel
theorem d_Mod_inductive_402 : decode b_Mod_inductive 402 = .ok (.getfield 58, 3) := by decide +kernel
theorem d_Mod_inductive_405 : decode b_Mod_inductive 405 = .ok (.iload 7, 2) := by decide +kernel
theorem d_Mod_inductive_407 : decode b_Mod_inductive 407 = .ok (.iaload, 1) := by decide +kernel
theorem d_Mod_inductive_408 : decode b_Mod_inductive 408 = .ok (.iload_n 2, 1) := by decide +kernel
theorem d_Mod_inductive_409 : decode b_Mod_inductive 409 = .ok (.iload 8, 2) := by decide +kernel
theorem d_Mod_inductive_411 : decode b_Mod_inductive 411 = .ok (.invokevirtual 537, 3) := by decide +kernel
theorem d_Mod_inductive_414 : decode b_Mod_inductive 414 = .ok (.iinc 10 1, 3) := by decide +kernel
theorem d_Mod_inductive_417 : decode b_Mod_inductive 417 = .ok (.goto (-33), 3) := by decide +kernel
theorem d_Mod_inductive_420 : decode b_Mod_inductive 420 = .ok (.aload_n 0, 1) := by decide +kernel
theorem d_Mod_inductive_421 : decode b_Mod_inductive 421 = .ok (.getfield 143, 3) := by decide +kernel
theorem d_Mod_inductive_424 : decode b_Mod_inductive 424 = .ok (.iload_n 1, 1) := by decide +kernel
theorem d_Mod_inductive_425 : decode b_Mod_inductive 425 = .ok (.aload_n 0, 1) := by decide +kernel
theorem d_Mod_inductive_426 : decode b_Mod_inductive 426 = .ok (.getfield 58, 3) := by decide +kernel
theorem d_Mod_inductive_429 : decode b_Mod_inductive 429 = .ok (.iload 7, 2) := by decide +kernel
theorem d_Mod_inductive_431 : decode b_Mod_inductive 431 = .ok (.iaload, 1) := by decide +kernel
theorem d_Mod_inductive_432 : decode b_Mod_inductive 432 = .ok (.ifCond .ne 26, 3) := by decide +kernel
theorem d_Mod_inductive_435 : decode b_Mod_inductive 435 = .ok (.iload 5, 2) := by decide +kernel
theorem d_Mod_inductive_437 : decode b_Mod_inductive 437 = .ok (.ifCond .eq 21, 3) := by decide +kernel
theorem d_Mod_inductive_440 : decode b_Mod_inductive 440 = .ok (.iload 5, 2) := by decide +kernel
theorem d_Mod_inductive_442 : decode b_Mod_inductive 442 = .ok (.iconst 1, 1) := by decide +kernel
theorem d_Mod_inductive_443 : decode b_Mod_inductive 443 = .ok (.if_icmp .ne 19, 3) := by decide +kernel
theorem d_Mod_inductive_446 : decode b_Mod_inductive 446 = .ok (.aload_n 0, 1) := by decide +kernel
theorem d_Mod_inductive_447 : decode b_Mod_inductive 447 = .ok (.iload_n 1, 1) := by decide +kernel
theorem d_Mod_inductive_448 : decode b_Mod_inductive 448 = .ok (.iconst 1, 1) := by decide +kernel
theorem d_Mod_inductive_449 : decode b_Mod_inductive 449 = .ok (.iadd, 1) := by decide +kernel
theorem d_Mod_inductive_450 : decode b_Mod_inductive 450 = .ok (.iload 8, 2) := by decide +kernel
theorem d_Mod_inductive_452 : decode b_Mod_inductive 452 = .ok (.invokevirtual 541, 3) := by decide +kernel
theorem d_Mod_inductive_455 : decode b_Mod_inductive 455 = .ok (.ifCond .eq 7, 3) := by decide +kernel
theorem d_Mod_inductive_458 : decode b_Mod_inductive 458 = .ok (.iconst 1, 1) := by decide +kernel
theorem d_Mod_inductive_459 : decode b_Mod_inductive 459 = .ok (.goto 4, 3) := by decide +kernel
theorem d_Mod_inductive_462 : decode b_Mod_inductive 462 = .ok (.iconst 0, 1) := by decide +kernel
theorem d_Mod_inductive_463 : decode b_Mod_inductive 463 = .ok (.bastore, 1) := by decide +kernel
theorem d_Mod_inductive_464 : decode b_Mod_inductive 464 = .ok (.aload_n 0, 1) := by decide +kernel
theorem d_Mod_inductive_465 : decode b_Mod_inductive 465 = .ok (.iload_n 1, 1) := by decide +kernel
theorem d_Mod_inductive_466 : decode b_Mod_inductive 466 = .ok (.iload_n 3, 1) := by decide +kernel
theorem d_Mod_inductive_467 : decode b_Mod_inductive 467 = .ok (.iload_n 2, 1) := by decide +kernel
theorem d_Mod_inductive_468 : decode b_Mod_inductive 468 = .ok (.iload 8, 2) := by decide +kernel
theorem d_Mod_inductive_470 : decode b_Mod_inductive 470 = .ok (.iload 5, 2) := by decide +kernel
theorem d_Mod_inductive_472 : decode b_Mod_inductive 472 = .ok (.iload 9, 2) := by decide +kernel
theorem d_Mod_inductive_474 : decode b_Mod_inductive 474 = .ok (.invokevirtual 544, 3) := by decide +kernel
theorem d_Mod_inductive_477 : decode b_Mod_inductive 477 = .ok (.return_, 1) := by decide +kernel
