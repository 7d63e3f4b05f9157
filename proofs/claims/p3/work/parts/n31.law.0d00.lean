theorem d_Law_law_96 : decode b_Law_law 96 = .ok (.aload_n 1, 1) := by decide +kernel
theorem d_Law_law_97 : decode b_Law_law 97 = .ok (.aload_n 0, 1) := by decide +kernel
theorem d_Law_law_98 : decode b_Law_law 98 = .ok (.iload 4, 2) := by decide +kernel
theorem d_Law_law_100 : decode b_Law_law 100 = .ok (.iconst 1, 1) := by decide +kernel
theorem d_Law_law_101 : decode b_Law_law 101 = .ok (.iadd, 1) := by decide +kernel
theorem d_Law_law_102 : decode b_Law_law 102 = .ok (.iaload, 1) := by decide +kernel
theorem d_Law_law_103 : decode b_Law_law 103 = .ok (.aload_n 0, 1) := by decide +kernel
theorem d_Law_law_104 : decode b_Law_law 104 = .ok (.iload 4, 2) := by decide +kernel
theorem d_Law_law_106 : decode b_Law_law 106 = .ok (.iconst 2, 1) := by decide +kernel
theorem d_Law_law_107 : decode b_Law_law 107 = .ok (.iadd, 1) := by decide +kernel
theorem d_Law_law_108 : decode b_Law_law 108 = .ok (.iaload, 1) := by decide +kernel
theorem d_Law_law_109 : decode b_Law_law 109 = .ok (.aload_n 0, 1) := by decide +kernel
theorem d_Law_law_110 : decode b_Law_law 110 = .ok (.iload 4, 2) := by decide +kernel
theorem d_Law_law_112 : decode b_Law_law 112 = .ok (.iconst 3, 1) := by decide +kernel
theorem d_Law_law_113 : decode b_Law_law 113 = .ok (.iadd, 1) := by decide +kernel
theorem d_Law_law_114 : decode b_Law_law 114 = .ok (.iaload, 1) := by decide +kernel
theorem d_Law_law_115 : decode b_Law_law 115 = .ok (.aload_n 0, 1) := by decide +kernel
theorem d_Law_law_116 : decode b_Law_law 116 = .ok (.iload 4, 2) := by decide +kernel
theorem d_Law_law_118 : decode b_Law_law 118 = .ok (.iconst 4, 1) := by decide +kernel
theorem d_Law_law_119 : decode b_Law_law 119 = .ok (.iadd, 1) := by decide +kernel
theorem d_Law_law_120 : decode b_Law_law 120 = .ok (.iaload, 1) := by decide +kernel
theorem d_Law_law_121 : decode b_Law_law 121 = .ok (.aload_n 0, 1) := by decide +kernel
theorem d_Law_law_122 : decode b_Law_law 122 = .ok (.iload 4, 2) := by decide +kernel
theorem d_Law_law_124 : decode b_Law_law 124 = .ok (.iconst 5, 1) := by decide +kernel
theorem d_Law_law_125 : decode b_Law_law 125 = .ok (.iadd, 1) := by decide +kernel
theorem d_Law_law_126 : decode b_Law_law 126 = .ok (.iaload, 1) := by decide +kernel
theorem d_Law_law_127 : decode b_Law_law 127 = .ok (.aload_n 3, 1) := by decide +kernel
theorem d_Law_law_131 : decode b_Law_law 131 = .ok (.istore 5, 2) := by decide +kernel
theorem d_Law_law_133 : decode b_Law_law 133 = .ok (.aload_n 2, 1) := by decide +kernel
theorem d_Law_law_134 : decode b_Law_law 134 = .ok (.aload_n 0, 1) := by decide +kernel
theorem d_Law_law_135 : decode b_Law_law 135 = .ok (.iload 4, 2) := by decide +kernel
theorem d_Law_law_137 : decode b_Law_law 137 = .ok (.iconst 1, 1) := by decide +kernel
theorem d_Law_law_138 : decode b_Law_law 138 = .ok (.iadd, 1) := by decide +kernel
theorem d_Law_law_139 : decode b_Law_law 139 = .ok (.iaload, 1) := by decide +kernel
theorem d_Law_law_140 : decode b_Law_law 140 = .ok (.aload_n 0, 1) := by decide +kernel
theorem d_Law_law_141 : decode b_Law_law 141 = .ok (.iload 4, 2) := by decide +kernel
theorem d_Law_law_143 : decode b_Law_law 143 = .ok (.iconst 2, 1) := by decide +kernel
theorem d_Law_law_144 : decode b_Law_law 144 = .ok (.iadd, 1) := by decide +kernel
theorem d_Law_law_145 : decode b_Law_law 145 = .ok (.iaload, 1) := by decide +kernel
theorem d_Law_law_146 : decode b_Law_law 146 = .ok (.aload_n 0, 1) := by decide +kernel
theorem d_Law_law_147 : decode b_Law_law 147 = .ok (.iload 4, 2) := by decide +kernel
theorem d_Law_law_149 : decode b_Law_law 149 = .ok (.iconst 3, 1) := by decide +kernel
theorem d_Law_law_150 : decode b_Law_law 150 = .ok (.iadd, 1) := by decide +kernel
theorem d_Law_law_151 : decode b_Law_law 151 = .ok (.iaload, 1) := by decide +kernel
theorem d_Law_law_152 : decode b_Law_law 152 = .ok (.aload_n 0, 1) := by decide +kernel
theorem d_Law_law_153 : decode b_Law_law 153 = .ok (.iload 4, 2) := by decide +kernel
theorem d_Law_law_155 : decode b_Law_law 155 = .ok (.iconst 4, 1) := by decide +kernel
theorem d_Law_law_156 : decode b_Law_law 156 = .ok (.iadd, 1) := by decide +kernel
theorem d_Law_law_157 : decode b_Law_law 157 = .ok (.iaload, 1) := by decide +kernel
theorem d_Law_law_158 : decode b_Law_law 158 = .ok (.aload_n 0, 1) := by decide +kernel
theorem d_Law_law_159 : decode b_Law_law 159 = .ok (.iload 4, 2) := by decide +kernel
theorem d_Law_law_161 : decode b_Law_law 161 = .ok (.iconst 5, 1) := by decide +kernel
theorem d_Law_law_162 : decode b_Law_law 162 = .ok (.iadd, 1) := by decide +kernel
theorem d_Law_law_163 : decode b_Law_law 163 = .ok (.iaload, 1) := by decide +kernel
theorem d_Law_law_128 : decode b_Law_law 128 = .ok (.invokestatic 42, 3) := by decide +kernel
theorem d_Law_law_164 : decode b_Law_law 164 = .ok (.invokevirtual 47, 3) := by decide +kernel
theorem d_Law_law_167 : decode b_Law_law 167 = .ok (.istore 6, 2) := by decide +kernel
theorem d_Law_law_169 : decode b_Law_law 169 = .ok (.goto 283, 3) := by decide +kernel
theorem d_Law_law_172 : decode b_Law_law 172 = .ok (.aload_n 1, 1) := by decide +kernel
theorem d_Law_law_173 : decode b_Law_law 173 = .ok (.aload_n 0, 1) := by decide +kernel
theorem d_Law_law_174 : decode b_Law_law 174 = .ok (.iload 4, 2) := by decide +kernel
theorem d_Law_law_176 : decode b_Law_law 176 = .ok (.iconst 1, 1) := by decide +kernel
theorem d_Law_law_177 : decode b_Law_law 177 = .ok (.iadd, 1) := by decide +kernel
theorem d_Law_law_178 : decode b_Law_law 178 = .ok (.iaload, 1) := by decide +kernel
theorem d_Law_law_179 : decode b_Law_law 179 = .ok (.aload_n 3, 1) := by decide +kernel
theorem d_Law_law_183 : decode b_Law_law 183 = .ok (.istore 5, 2) := by decide +kernel
theorem d_Law_law_185 : decode b_Law_law 185 = .ok (.aload_n 2, 1) := by decide +kernel
theorem d_Law_law_186 : decode b_Law_law 186 = .ok (.aload_n 0, 1) := by decide +kernel
theorem d_Law_law_187 : decode b_Law_law 187 = .ok (.iload 4, 2) := by decide +kernel
theorem d_Law_law_189 : decode b_Law_law 189 = .ok (.iconst 1, 1) := by decide +kernel
theorem d_Law_law_190 : decode b_Law_law 190 = .ok (.iadd, 1) := by decide +kernel
theorem d_Law_law_191 : decode b_Law_law 191 = .ok (.iaload, 1) := by decide +kernel
theorem d_Law_law_192 : decode b_Law_law 192 = .ok (.invokevirtual 51, 3) := by decide +kernel
theorem d_Law_law_195 : decode b_Law_law 195 = .ok (.istore 6, 2) := by decide +kernel
theorem d_Law_law_197 : decode b_Law_law 197 = .ok (.aload_n 2, 1) := by decide +kernel
theorem d_Law_law_180 : decode b_Law_law 180 = .ok (.invokestatic 48, 3) := by decide +kernel
theorem d_Law_law_198 : decode b_Law_law 198 = .ok (.invokevirtual 52, 3) := by decide +kernel
theorem d_Law_law_201 : decode b_Law_law 201 = .ok (.iload 5, 2) := by decide +kernel
theorem d_Law_law_203 : decode b_Law_law 203 = .ok (.if_icmp .eq 5, 3) := by decide +kernel
theorem d_Law_law_208 : decode b_Law_law 208 = .ok (.iload 5, 2) := by decide +kernel
theorem d_Law_law_210 : decode b_Law_law 210 = .ok (.ifCond .ne 15, 3) := by decide +kernel
theorem d_Law_law_213 : decode b_Law_law 213 = .ok (.aload_n 3, 1) := by decide +kernel
theorem d_Law_law_214 : decode b_Law_law 214 = .ok (.iconst 0, 1) := by decide +kernel
theorem d_Law_law_215 : decode b_Law_law 215 = .ok (.laload, 1) := by decide +kernel
theorem d_Law_law_216 : decode b_Law_law 216 = .ok (.iload 6, 2) := by decide +kernel
theorem d_Law_law_218 : decode b_Law_law 218 = .ok (.i2l, 1) := by decide +kernel
theorem d_Law_law_219 : decode b_Law_law 219 = .ok (.lcmp, 1) := by decide +kernel
theorem d_Law_law_220 : decode b_Law_law 220 = .ok (.ifCond .eq 5, 3) := by decide +kernel
theorem d_Law_law_225 : decode b_Law_law 225 = .ok (.goto 227, 3) := by decide +kernel
theorem d_Law_law_279 : decode b_Law_law 279 = .ok (.aload_n 1, 1) := by decide +kernel
theorem d_Law_law_280 : decode b_Law_law 280 = .ok (.aload_n 0, 1) := by decide +kernel
theorem d_Law_law_281 : decode b_Law_law 281 = .ok (.iload 4, 2) := by decide +kernel
theorem d_Law_law_283 : decode b_Law_law 283 = .ok (.iconst 1, 1) := by decide +kernel
theorem d_Law_law_284 : decode b_Law_law 284 = .ok (.iadd, 1) := by decide +kernel
theorem d_Law_law_285 : decode b_Law_law 285 = .ok (.iaload, 1) := by decide +kernel
theorem d_Law_law_286 : decode b_Law_law 286 = .ok (.aload_n 0, 1) := by decide +kernel
theorem d_Law_law_287 : decode b_Law_law 287 = .ok (.iload 4, 2) := by decide +kernel
theorem d_Law_law_289 : decode b_Law_law 289 = .ok (.iconst 2, 1) := by decide +kernel
theorem d_Law_law_290 : decode b_Law_law 290 = .ok (.iadd, 1) := by decide +kernel
theorem d_Law_law_291 : decode b_Law_law 291 = .ok (.iaload, 1) := by decide +kernel
theorem d_Law_law_292 : decode b_Law_law 292 = .ok (.aload_n 3, 1) := by decide +kernel
theorem d_Law_law_296 : decode b_Law_law 296 = .ok (.istore 5, 2) := by decide +kernel
theorem d_Law_law_298 : decode b_Law_law 298 = .ok (.aload_n 2, 1) := by decide +kernel
theorem d_Law_law_299 : decode b_Law_law 299 = .ok (.aload_n 0, 1) := by decide +kernel
theorem d_Law_law_300 : decode b_Law_law 300 = .ok (.iload 4, 2) := by decide +kernel
theorem d_Law_law_302 : decode b_Law_law 302 = .ok (.iconst 1, 1) := by decide +kernel
theorem d_Law_law_303 : decode b_Law_law 303 = .ok (.iadd, 1) := by decide +kernel
theorem d_Law_law_304 : decode b_Law_law 304 = .ok (.iaload, 1) := by decide +kernel
theorem d_Law_law_305 : decode b_Law_law 305 = .ok (.aload_n 0, 1) := by decide +kernel
theorem d_Law_law_306 : decode b_Law_law 306 = .ok (.iload 4, 2) := by decide +kernel
theorem d_Law_law_308 : decode b_Law_law 308 = .ok (.iconst 2, 1) := by decide +kernel
theorem d_Law_law_309 : decode b_Law_law 309 = .ok (.iadd, 1) := by decide +kernel
theorem d_Law_law_310 : decode b_Law_law 310 = .ok (.iaload, 1) := by decide +kernel
theorem d_Law_law_293 : decode b_Law_law 293 = .ok (.invokestatic 68, 3) := by decide +kernel
theorem d_Law_law_311 : decode b_Law_law 311 = .ok (.invokevirtual 71, 3) := by decide +kernel
theorem d_Law_law_314 : decode b_Law_law 314 = .ok (.istore 6, 2) := by decide +kernel
theorem d_Law_law_316 : decode b_Law_law 316 = .ok (.goto 136, 3) := by decide +kernel
theorem d_Law_law_319 : decode b_Law_law 319 = .ok (.aload_n 1, 1) := by decide +kernel
theorem d_Law_law_320 : decode b_Law_law 320 = .ok (.aload_n 0, 1) := by decide +kernel
theorem d_Law_law_321 : decode b_Law_law 321 = .ok (.iload 4, 2) := by decide +kernel
theorem d_Law_law_323 : decode b_Law_law 323 = .ok (.iconst 1, 1) := by decide +kernel
theorem d_Law_law_324 : decode b_Law_law 324 = .ok (.iadd, 1) := by decide +kernel
theorem d_Law_law_325 : decode b_Law_law 325 = .ok (.iaload, 1) := by decide +kernel
theorem d_Law_law_326 : decode b_Law_law 326 = .ok (.aload_n 0, 1) := by decide +kernel
theorem d_Law_law_327 : decode b_Law_law 327 = .ok (.iload 4, 2) := by decide +kernel
theorem d_Law_law_329 : decode b_Law_law 329 = .ok (.iconst 2, 1) := by decide +kernel
theorem d_Law_law_330 : decode b_Law_law 330 = .ok (.iadd, 1) := by decide +kernel
theorem d_Law_law_331 : decode b_Law_law 331 = .ok (.iaload, 1) := by decide +kernel
theorem d_Law_law_332 : decode b_Law_law 332 = .ok (.aload_n 3, 1) := by decide +kernel
theorem d_Law_law_336 : decode b_Law_law 336 = .ok (.istore 5, 2) := by decide +kernel
theorem d_Law_law_338 : decode b_Law_law 338 = .ok (.aload_n 2, 1) := by decide +kernel
theorem d_Law_law_339 : decode b_Law_law 339 = .ok (.aload_n 0, 1) := by decide +kernel
theorem d_Law_law_340 : decode b_Law_law 340 = .ok (.iload 4, 2) := by decide +kernel
theorem d_Law_law_342 : decode b_Law_law 342 = .ok (.iconst 1, 1) := by decide +kernel
theorem d_Law_law_343 : decode b_Law_law 343 = .ok (.iadd, 1) := by decide +kernel
theorem d_Law_law_344 : decode b_Law_law 344 = .ok (.iaload, 1) := by decide +kernel
theorem d_Law_law_345 : decode b_Law_law 345 = .ok (.aload_n 0, 1) := by decide +kernel
theorem d_Law_law_346 : decode b_Law_law 346 = .ok (.iload 4, 2) := by decide +kernel
theorem d_Law_law_348 : decode b_Law_law 348 = .ok (.iconst 2, 1) := by decide +kernel
theorem d_Law_law_349 : decode b_Law_law 349 = .ok (.iadd, 1) := by decide +kernel
theorem d_Law_law_350 : decode b_Law_law 350 = .ok (.iaload, 1) := by decide +kernel
theorem d_Law_law_333 : decode b_Law_law 333 = .ok (.invokestatic 72, 3) := by decide +kernel
theorem d_Law_law_351 : decode b_Law_law 351 = .ok (.invokevirtual 74, 3) := by decide +kernel
theorem d_Law_law_354 : decode b_Law_law 354 = .ok (.istore 6, 2) := by decide +kernel
theorem d_Law_law_356 : decode b_Law_law 356 = .ok (.goto 96, 3) := by decide +kernel
theorem d_Law_law_359 : decode b_Law_law 359 = .ok (.aload_n 1, 1) := by decide +kernel
theorem d_Law_law_360 : decode b_Law_law 360 = .ok (.aload_n 0, 1) := by decide +kernel
theorem d_Law_law_361 : decode b_Law_law 361 = .ok (.iload 4, 2) := by decide +kernel
theorem d_Law_law_363 : decode b_Law_law 363 = .ok (.iconst 1, 1) := by decide +kernel
theorem d_Law_law_364 : decode b_Law_law 364 = .ok (.iadd, 1) := by decide +kernel
theorem d_Law_law_365 : decode b_Law_law 365 = .ok (.iaload, 1) := by decide +kernel
theorem d_Law_law_366 : decode b_Law_law 366 = .ok (.aload_n 0, 1) := by decide +kernel
theorem d_Law_law_367 : decode b_Law_law 367 = .ok (.iload 4, 2) := by decide +kernel
theorem d_Law_law_369 : decode b_Law_law 369 = .ok (.iconst 2, 1) := by decide +kernel
theorem d_Law_law_370 : decode b_Law_law 370 = .ok (.iadd, 1) := by decide +kernel
theorem d_Law_law_371 : decode b_Law_law 371 = .ok (.iaload, 1) := by decide +kernel
theorem d_Law_law_372 : decode b_Law_law 372 = .ok (.aload_n 3, 1) := by decide +kernel
theorem d_Law_law_376 : decode b_Law_law 376 = .ok (.istore 5, 2) := by decide +kernel
theorem d_Law_law_378 : decode b_Law_law 378 = .ok (.aload_n 2, 1) := by decide +kernel
theorem d_Law_law_379 : decode b_Law_law 379 = .ok (.aload_n 0, 1) := by decide +kernel
theorem d_Law_law_380 : decode b_Law_law 380 = .ok (.iload 4, 2) := by decide +kernel
theorem d_Law_law_382 : decode b_Law_law 382 = .ok (.iconst 1, 1) := by decide +kernel
theorem d_Law_law_383 : decode b_Law_law 383 = .ok (.iadd, 1) := by decide +kernel
theorem d_Law_law_384 : decode b_Law_law 384 = .ok (.iaload, 1) := by decide +kernel
theorem d_Law_law_385 : decode b_Law_law 385 = .ok (.aload_n 0, 1) := by decide +kernel
theorem d_Law_law_386 : decode b_Law_law 386 = .ok (.iload 4, 2) := by decide +kernel
theorem d_Law_law_388 : decode b_Law_law 388 = .ok (.iconst 2, 1) := by decide +kernel
theorem d_Law_law_389 : decode b_Law_law 389 = .ok (.iadd, 1) := by decide +kernel
theorem d_Law_law_390 : decode b_Law_law 390 = .ok (.iaload, 1) := by decide +kernel
theorem d_Law_law_373 : decode b_Law_law 373 = .ok (.invokestatic 75, 3) := by decide +kernel
theorem d_Law_law_391 : decode b_Law_law 391 = .ok (.invokevirtual 77, 3) := by decide +kernel
theorem d_Law_law_394 : decode b_Law_law 394 = .ok (.istore 6, 2) := by decide +kernel
theorem d_Law_law_396 : decode b_Law_law 396 = .ok (.goto 56, 3) := by decide +kernel
theorem d_Law_law_399 : decode b_Law_law 399 = .ok (.aload_n 1, 1) := by decide +kernel
theorem d_Law_law_400 : decode b_Law_law 400 = .ok (.aload_n 0, 1) := by decide +kernel
theorem d_Law_law_401 : decode b_Law_law 401 = .ok (.iload 4, 2) := by decide +kernel
theorem d_Law_law_403 : decode b_Law_law 403 = .ok (.iconst 1, 1) := by decide +kernel
theorem d_Law_law_404 : decode b_Law_law 404 = .ok (.iadd, 1) := by decide +kernel
theorem d_Law_law_405 : decode b_Law_law 405 = .ok (.iaload, 1) := by decide +kernel
theorem d_Law_law_406 : decode b_Law_law 406 = .ok (.aload_n 3, 1) := by decide +kernel
theorem d_Law_law_410 : decode b_Law_law 410 = .ok (.istore 5, 2) := by decide +kernel
theorem d_Law_law_412 : decode b_Law_law 412 = .ok (.aload_n 2, 1) := by decide +kernel
theorem d_Law_law_413 : decode b_Law_law 413 = .ok (.aload_n 0, 1) := by decide +kernel
theorem d_Law_law_414 : decode b_Law_law 414 = .ok (.iload 4, 2) := by decide +kernel
theorem d_Law_law_416 : decode b_Law_law 416 = .ok (.iconst 1, 1) := by decide +kernel
theorem d_Law_law_417 : decode b_Law_law 417 = .ok (.iadd, 1) := by decide +kernel
theorem d_Law_law_418 : decode b_Law_law 418 = .ok (.iaload, 1) := by decide +kernel
theorem d_Law_law_407 : decode b_Law_law 407 = .ok (.invokestatic 78, 3) := by decide +kernel
theorem d_Law_law_419 : decode b_Law_law 419 = .ok (.invokevirtual 80, 3) := by decide +kernel
theorem d_Law_law_422 : decode b_Law_law 422 = .ok (.istore 6, 2) := by decide +kernel
theorem d_Law_law_424 : decode b_Law_law 424 = .ok (.goto 28, 3) := by decide +kernel
theorem d_Law_law_228 : decode b_Law_law 228 = .ok (.aload_n 1, 1) := by decide +kernel
theorem d_Law_law_229 : decode b_Law_law 229 = .ok (.invokevirtual 56, 3) := by decide +kernel
theorem d_Law_law_232 : decode b_Law_law 232 = .ok (.pop, 1) := by decide +kernel
theorem d_Law_law_233 : decode b_Law_law 233 = .ok (.aload_n 2, 1) := by decide +kernel
theorem d_Law_law_234 : decode b_Law_law 234 = .ok (.invokevirtual 59, 3) := by decide +kernel
theorem d_Law_law_237 : decode b_Law_law 237 = .ok (.pop, 1) := by decide +kernel
theorem d_Law_law_238 : decode b_Law_law 238 = .ok (.goto 214, 3) := by decide +kernel
theorem d_Law_law_241 : decode b_Law_law 241 = .ok (.aload_n 1, 1) := by decide +kernel
theorem d_Law_law_242 : decode b_Law_law 242 = .ok (.aload_n 0, 1) := by decide +kernel
theorem d_Law_law_243 : decode b_Law_law 243 = .ok (.iload 4, 2) := by decide +kernel
theorem d_Law_law_245 : decode b_Law_law 245 = .ok (.iconst 1, 1) := by decide +kernel
theorem d_Law_law_246 : decode b_Law_law 246 = .ok (.iadd, 1) := by decide +kernel
theorem d_Law_law_247 : decode b_Law_law 247 = .ok (.iaload, 1) := by decide +kernel
theorem d_Law_law_248 : decode b_Law_law 248 = .ok (.invokevirtual 60, 3) := by decide +kernel
theorem d_Law_law_251 : decode b_Law_law 251 = .ok (.pop, 1) := by decide +kernel
theorem d_Law_law_252 : decode b_Law_law 252 = .ok (.aload_n 2, 1) := by decide +kernel
theorem d_Law_law_253 : decode b_Law_law 253 = .ok (.aload_n 0, 1) := by decide +kernel
theorem d_Law_law_254 : decode b_Law_law 254 = .ok (.iload 4, 2) := by decide +kernel
theorem d_Law_law_256 : decode b_Law_law 256 = .ok (.iconst 1, 1) := by decide +kernel
theorem d_Law_law_257 : decode b_Law_law 257 = .ok (.iadd, 1) := by decide +kernel
theorem d_Law_law_258 : decode b_Law_law 258 = .ok (.iaload, 1) := by decide +kernel
theorem d_Law_law_259 : decode b_Law_law 259 = .ok (.invokevirtual 63, 3) := by decide +kernel
theorem d_Law_law_262 : decode b_Law_law 262 = .ok (.pop, 1) := by decide +kernel
theorem d_Law_law_263 : decode b_Law_law 263 = .ok (.goto 189, 3) := by decide +kernel
theorem d_Law_law_427 : decode b_Law_law 427 = .ok (.aload_n 1, 1) := by decide +kernel
theorem d_Law_law_428 : decode b_Law_law 428 = .ok (.aload_n 0, 1) := by decide +kernel
theorem d_Law_law_429 : decode b_Law_law 429 = .ok (.iload 4, 2) := by decide +kernel
theorem d_Law_law_431 : decode b_Law_law 431 = .ok (.iconst 1, 1) := by decide +kernel
theorem d_Law_law_432 : decode b_Law_law 432 = .ok (.iadd, 1) := by decide +kernel
theorem d_Law_law_433 : decode b_Law_law 433 = .ok (.iaload, 1) := by decide +kernel
theorem d_Law_law_434 : decode b_Law_law 434 = .ok (.invokevirtual 81, 3) := by decide +kernel
theorem d_Law_law_437 : decode b_Law_law 437 = .ok (.pop, 1) := by decide +kernel
theorem d_Law_law_438 : decode b_Law_law 438 = .ok (.aload_n 2, 1) := by decide +kernel
theorem d_Law_law_439 : decode b_Law_law 439 = .ok (.aload_n 0, 1) := by decide +kernel
theorem d_Law_law_440 : decode b_Law_law 440 = .ok (.iload 4, 2) := by decide +kernel
theorem d_Law_law_442 : decode b_Law_law 442 = .ok (.iconst 1, 1) := by decide +kernel
theorem d_Law_law_443 : decode b_Law_law 443 = .ok (.iadd, 1) := by decide +kernel
theorem d_Law_law_444 : decode b_Law_law 444 = .ok (.iaload, 1) := by decide +kernel
theorem d_Law_law_445 : decode b_Law_law 445 = .ok (.invokevirtual 84, 3) := by decide +kernel
theorem d_Law_law_448 : decode b_Law_law 448 = .ok (.pop, 1) := by decide +kernel
theorem d_Law_law_449 : decode b_Law_law 449 = .ok (.goto 3, 3) := by decide +kernel
theorem d_Law_law_266 : decode b_Law_law 266 = .ok (.aload_n 1, 1) := by decide +kernel
theorem d_Law_law_267 : decode b_Law_law 267 = .ok (.invokevirtual 64, 3) := by decide +kernel
theorem d_Law_law_270 : decode b_Law_law 270 = .ok (.pop, 1) := by decide +kernel
theorem d_Law_law_271 : decode b_Law_law 271 = .ok (.aload_n 2, 1) := by decide +kernel
theorem d_Law_law_272 : decode b_Law_law 272 = .ok (.invokevirtual 67, 3) := by decide +kernel
theorem d_Law_law_275 : decode b_Law_law 275 = .ok (.pop, 1) := by decide +kernel
theorem d_Law_law_276 : decode b_Law_law 276 = .ok (.goto 176, 3) := by decide +kernel
