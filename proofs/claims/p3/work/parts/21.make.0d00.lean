theorem d_Terms_make_0 : decode b_Terms_make 0 = .ok (.aload_n 0, 1) := by decide +kernel
theorem d_Terms_make_1 : decode b_Terms_make 1 = .ok (.getfield 45, 3) := by decide +kernel
theorem d_Terms_make_4 : decode b_Terms_make 4 = .ok (.aload_n 0, 1) := by decide +kernel
theorem d_Terms_make_5 : decode b_Terms_make 5 = .ok (.iload_n 1, 1) := by decide +kernel
theorem d_Terms_make_6 : decode b_Terms_make 6 = .ok (.iload_n 2, 1) := by decide +kernel
theorem d_Terms_make_7 : decode b_Terms_make 7 = .ok (.iload_n 3, 1) := by decide +kernel
theorem d_Terms_make_8 : decode b_Terms_make 8 = .ok (.invokevirtual 62, 3) := by decide +kernel
theorem d_Terms_make_11 : decode b_Terms_make 11 = .ok (.iaload, 1) := by decide +kernel
theorem d_Terms_make_12 : decode b_Terms_make 12 = .ok (.istore 4, 2) := by decide +kernel
theorem d_Terms_make_14 : decode b_Terms_make 14 = .ok (.iload 4, 2) := by decide +kernel
theorem d_Terms_make_16 : decode b_Terms_make 16 = .ok (.ifCond .le 56, 3) := by decide +kernel
theorem d_Terms_make_19 : decode b_Terms_make 19 = .ok (.iload 4, 2) := by decide +kernel
theorem d_Terms_make_21 : decode b_Terms_make 21 = .ok (.iconst 1, 1) := by decide +kernel
theorem d_Terms_make_22 : decode b_Terms_make 22 = .ok (.isub, 1) := by decide +kernel
theorem d_Terms_make_23 : decode b_Terms_make 23 = .ok (.istore 5, 2) := by decide +kernel
theorem d_Terms_make_25 : decode b_Terms_make 25 = .ok (.aload_n 0, 1) := by decide +kernel
theorem d_Terms_make_26 : decode b_Terms_make 26 = .ok (.getfield 35, 3) := by decide +kernel
theorem d_Terms_make_29 : decode b_Terms_make 29 = .ok (.iload 5, 2) := by decide +kernel
theorem d_Terms_make_31 : decode b_Terms_make 31 = .ok (.iaload, 1) := by decide +kernel
theorem d_Terms_make_32 : decode b_Terms_make 32 = .ok (.iload_n 2, 1) := by decide +kernel
theorem d_Terms_make_33 : decode b_Terms_make 33 = .ok (.if_icmp .ne 27, 3) := by decide +kernel
theorem d_Terms_make_36 : decode b_Terms_make 36 = .ok (.aload_n 0, 1) := by decide +kernel
theorem d_Terms_make_37 : decode b_Terms_make 37 = .ok (.getfield 39, 3) := by decide +kernel
theorem d_Terms_make_40 : decode b_Terms_make 40 = .ok (.iload 5, 2) := by decide +kernel
theorem d_Terms_make_42 : decode b_Terms_make 42 = .ok (.iaload, 1) := by decide +kernel
theorem d_Terms_make_43 : decode b_Terms_make 43 = .ok (.iload_n 3, 1) := by decide +kernel
theorem d_Terms_make_44 : decode b_Terms_make 44 = .ok (.if_icmp .ne 16, 3) := by decide +kernel
theorem d_Terms_make_47 : decode b_Terms_make 47 = .ok (.aload_n 0, 1) := by decide +kernel
theorem d_Terms_make_48 : decode b_Terms_make 48 = .ok (.iload 5, 2) := by decide +kernel
theorem d_Terms_make_50 : decode b_Terms_make 50 = .ok (.invokevirtual 52, 3) := by decide +kernel
theorem d_Terms_make_53 : decode b_Terms_make 53 = .ok (.iload_n 1, 1) := by decide +kernel
theorem d_Terms_make_54 : decode b_Terms_make 54 = .ok (.if_icmp .ne 6, 3) := by decide +kernel
theorem d_Terms_make_57 : decode b_Terms_make 57 = .ok (.iload 5, 2) := by decide +kernel
theorem d_Terms_make_59 : decode b_Terms_make 59 = .ok (.ireturn, 1) := by decide +kernel
theorem d_Terms_make_60 : decode b_Terms_make 60 = .ok (.aload_n 0, 1) := by decide +kernel
theorem d_Terms_make_61 : decode b_Terms_make 61 = .ok (.getfield 42, 3) := by decide +kernel
theorem d_Terms_make_64 : decode b_Terms_make 64 = .ok (.iload 5, 2) := by decide +kernel
theorem d_Terms_make_66 : decode b_Terms_make 66 = .ok (.iaload, 1) := by decide +kernel
theorem d_Terms_make_67 : decode b_Terms_make 67 = .ok (.istore 4, 2) := by decide +kernel
theorem d_Terms_make_69 : decode b_Terms_make 69 = .ok (.goto (-55), 3) := by decide +kernel
theorem d_Terms_make_72 : decode b_Terms_make 72 = .ok (.iconst 1, 1) := by decide +kernel
theorem d_Terms_make_73 : decode b_Terms_make 73 = .ok (.istore 5, 2) := by decide +kernel
theorem d_Terms_make_75 : decode b_Terms_make 75 = .ok (.iconst 1, 1) := by decide +kernel
theorem d_Terms_make_76 : decode b_Terms_make 76 = .ok (.istore 6, 2) := by decide +kernel
theorem d_Terms_make_78 : decode b_Terms_make 78 = .ok (.iload_n 1, 1) := by decide +kernel
theorem d_Terms_make_79 : decode b_Terms_make 79 = .ok (.ifCond .ne 9, 3) := by decide +kernel
theorem d_Terms_make_82 : decode b_Terms_make 82 = .ok (.iload_n 2, 1) := by decide +kernel
theorem d_Terms_make_83 : decode b_Terms_make 83 = .ok (.iconst 1, 1) := by decide +kernel
theorem d_Terms_make_84 : decode b_Terms_make 84 = .ok (.iadd, 1) := by decide +kernel
theorem d_Terms_make_85 : decode b_Terms_make 85 = .ok (.goto 4, 3) := by decide +kernel
theorem d_Terms_make_88 : decode b_Terms_make 88 = .ok (.iconst 0, 1) := by decide +kernel
theorem d_Terms_make_89 : decode b_Terms_make 89 = .ok (.istore 7, 2) := by decide +kernel
theorem d_Terms_make_91 : decode b_Terms_make 91 = .ok (.iload_n 1, 1) := by decide +kernel
theorem d_Terms_make_92 : decode b_Terms_make 92 = .ok (.iconst 1, 1) := by decide +kernel
theorem d_Terms_make_93 : decode b_Terms_make 93 = .ok (.if_icmp .ne 9, 3) := by decide +kernel
theorem d_Terms_make_96 : decode b_Terms_make 96 = .ok (.iload_n 2, 1) := by decide +kernel
theorem d_Terms_make_97 : decode b_Terms_make 97 = .ok (.iconst 1, 1) := by decide +kernel
theorem d_Terms_make_98 : decode b_Terms_make 98 = .ok (.iadd, 1) := by decide +kernel
theorem d_Terms_make_99 : decode b_Terms_make 99 = .ok (.goto 4, 3) := by decide +kernel
theorem d_Terms_make_102 : decode b_Terms_make 102 = .ok (.iconst 0, 1) := by decide +kernel
theorem d_Terms_make_103 : decode b_Terms_make 103 = .ok (.istore 8, 2) := by decide +kernel
theorem d_Terms_make_105 : decode b_Terms_make 105 = .ok (.iload_n 1, 1) := by decide +kernel
theorem d_Terms_make_106 : decode b_Terms_make 106 = .ok (.iconst 5, 1) := by decide +kernel
theorem d_Terms_make_107 : decode b_Terms_make 107 = .ok (.if_icmp .lt 108, 3) := by decide +kernel
theorem d_Terms_make_110 : decode b_Terms_make 110 = .ok (.iload_n 1, 1) := by decide +kernel
theorem d_Terms_make_111 : decode b_Terms_make 111 = .ok (.bipush 9, 2) := by decide +kernel
theorem d_Terms_make_113 : decode b_Terms_make 113 = .ok (.if_icmp .ne 7, 3) := by decide +kernel
theorem d_Terms_make_116 : decode b_Terms_make 116 = .ok (.iconst 0, 1) := by decide +kernel
theorem d_Terms_make_117 : decode b_Terms_make 117 = .ok (.goto 4, 3) := by decide +kernel
theorem d_Terms_make_120 : decode b_Terms_make 120 = .ok (.iconst 1, 1) := by decide +kernel
theorem d_Terms_make_121 : decode b_Terms_make 121 = .ok (.istore 9, 2) := by decide +kernel
theorem d_Terms_make_123 : decode b_Terms_make 123 = .ok (.aload_n 0, 1) := by decide +kernel
theorem d_Terms_make_124 : decode b_Terms_make 124 = .ok (.iload_n 2, 1) := by decide +kernel
theorem d_Terms_make_125 : decode b_Terms_make 125 = .ok (.invokevirtual 66, 3) := by decide +kernel
theorem d_Terms_make_128 : decode b_Terms_make 128 = .ok (.aload_n 0, 1) := by decide +kernel
theorem d_Terms_make_129 : decode b_Terms_make 129 = .ok (.iload_n 3, 1) := by decide +kernel
theorem d_Terms_make_130 : decode b_Terms_make 130 = .ok (.invokevirtual 66, 3) := by decide +kernel
theorem d_Terms_make_133 : decode b_Terms_make 133 = .ok (.iadd, 1) := by decide +kernel
theorem d_Terms_make_134 : decode b_Terms_make 134 = .ok (.iload 9, 2) := by decide +kernel
theorem d_Terms_make_136 : decode b_Terms_make 136 = .ok (.iadd, 1) := by decide +kernel
theorem d_Terms_make_137 : decode b_Terms_make 137 = .ok (.istore 5, 2) := by decide +kernel
theorem d_Terms_make_139 : decode b_Terms_make 139 = .ok (.iload_n 1, 1) := by decide +kernel
theorem d_Terms_make_140 : decode b_Terms_make 140 = .ok (.iconst 5, 1) := by decide +kernel
theorem d_Terms_make_141 : decode b_Terms_make 141 = .ok (.if_icmp .ne 21, 3) := by decide +kernel
theorem d_Terms_make_144 : decode b_Terms_make 144 = .ok (.aload_n 0, 1) := by decide +kernel
theorem d_Terms_make_145 : decode b_Terms_make 145 = .ok (.iload_n 2, 1) := by decide +kernel
theorem d_Terms_make_146 : decode b_Terms_make 146 = .ok (.invokevirtual 69, 3) := by decide +kernel
theorem d_Terms_make_149 : decode b_Terms_make 149 = .ok (.aload_n 0, 1) := by decide +kernel
theorem d_Terms_make_150 : decode b_Terms_make 150 = .ok (.iload_n 3, 1) := by decide +kernel
theorem d_Terms_make_151 : decode b_Terms_make 151 = .ok (.invokevirtual 69, 3) := by decide +kernel
theorem d_Terms_make_154 : decode b_Terms_make 154 = .ok (.iconst 1, 1) := by decide +kernel
theorem d_Terms_make_155 : decode b_Terms_make 155 = .ok (.iadd, 1) := by decide +kernel
theorem d_Terms_make_156 : decode b_Terms_make 156 = .ok (.invokestatic 72, 3) := by decide +kernel
theorem d_Terms_make_159 : decode b_Terms_make 159 = .ok (.goto 19, 3) := by decide +kernel
theorem d_Terms_make_162 : decode b_Terms_make 162 = .ok (.aload_n 0, 1) := by decide +kernel
theorem d_Terms_make_163 : decode b_Terms_make 163 = .ok (.iload_n 2, 1) := by decide +kernel
theorem d_Terms_make_164 : decode b_Terms_make 164 = .ok (.invokevirtual 69, 3) := by decide +kernel
theorem d_Terms_make_167 : decode b_Terms_make 167 = .ok (.aload_n 0, 1) := by decide +kernel
theorem d_Terms_make_168 : decode b_Terms_make 168 = .ok (.iload_n 3, 1) := by decide +kernel
theorem d_Terms_make_169 : decode b_Terms_make 169 = .ok (.invokevirtual 69, 3) := by decide +kernel
theorem d_Terms_make_172 : decode b_Terms_make 172 = .ok (.invokestatic 72, 3) := by decide +kernel
theorem d_Terms_make_175 : decode b_Terms_make 175 = .ok (.iload 9, 2) := by decide +kernel
theorem d_Terms_make_177 : decode b_Terms_make 177 = .ok (.iadd, 1) := by decide +kernel
theorem d_Terms_make_178 : decode b_Terms_make 178 = .ok (.istore 6, 2) := by decide +kernel
theorem d_Terms_make_180 : decode b_Terms_make 180 = .ok (.aload_n 0, 1) := by decide +kernel
theorem d_Terms_make_181 : decode b_Terms_make 181 = .ok (.iload_n 2, 1) := by decide +kernel
theorem d_Terms_make_182 : decode b_Terms_make 182 = .ok (.invokevirtual 78, 3) := by decide +kernel
theorem d_Terms_make_185 : decode b_Terms_make 185 = .ok (.aload_n 0, 1) := by decide +kernel
theorem d_Terms_make_186 : decode b_Terms_make 186 = .ok (.iload_n 3, 1) := by decide +kernel
theorem d_Terms_make_187 : decode b_Terms_make 187 = .ok (.invokevirtual 78, 3) := by decide +kernel
theorem d_Terms_make_190 : decode b_Terms_make 190 = .ok (.iload_n 1, 1) := by decide +kernel
theorem d_Terms_make_191 : decode b_Terms_make 191 = .ok (.invokestatic 81, 3) := by decide +kernel
theorem d_Terms_make_194 : decode b_Terms_make 194 = .ok (.isub, 1) := by decide +kernel
theorem d_Terms_make_195 : decode b_Terms_make 195 = .ok (.invokestatic 72, 3) := by decide +kernel
theorem d_Terms_make_198 : decode b_Terms_make 198 = .ok (.istore 7, 2) := by decide +kernel
theorem d_Terms_make_200 : decode b_Terms_make 200 = .ok (.aload_n 0, 1) := by decide +kernel
theorem d_Terms_make_201 : decode b_Terms_make 201 = .ok (.iload_n 2, 1) := by decide +kernel
theorem d_Terms_make_202 : decode b_Terms_make 202 = .ok (.invokevirtual 84, 3) := by decide +kernel
theorem d_Terms_make_205 : decode b_Terms_make 205 = .ok (.aload_n 0, 1) := by decide +kernel
theorem d_Terms_make_206 : decode b_Terms_make 206 = .ok (.iload_n 3, 1) := by decide +kernel
theorem d_Terms_make_207 : decode b_Terms_make 207 = .ok (.invokevirtual 84, 3) := by decide +kernel
theorem d_Terms_make_210 : decode b_Terms_make 210 = .ok (.invokestatic 72, 3) := by decide +kernel
theorem d_Terms_make_213 : decode b_Terms_make 213 = .ok (.istore 8, 2) := by decide +kernel
theorem d_Terms_make_215 : decode b_Terms_make 215 = .ok (.iload 5, 2) := by decide +kernel
theorem d_Terms_make_217 : decode b_Terms_make 217 = .ok (.sipush 3000, 3) := by decide +kernel
theorem d_Terms_make_220 : decode b_Terms_make 220 = .ok (.if_icmp .gt 20, 3) := by decide +kernel
theorem d_Terms_make_223 : decode b_Terms_make 223 = .ok (.iload 6, 2) := by decide +kernel
theorem d_Terms_make_225 : decode b_Terms_make 225 = .ok (.sipush 200, 3) := by decide +kernel
theorem d_Terms_make_228 : decode b_Terms_make 228 = .ok (.if_icmp .gt 12, 3) := by decide +kernel
theorem d_Terms_make_231 : decode b_Terms_make 231 = .ok (.aload_n 0, 1) := by decide +kernel
theorem d_Terms_make_232 : decode b_Terms_make 232 = .ok (.getfield 48, 3) := by decide +kernel
theorem d_Terms_make_235 : decode b_Terms_make 235 = .ok (.ldc 87, 2) := by decide +kernel
theorem d_Terms_make_237 : decode b_Terms_make 237 = .ok (.if_icmp .lt 12, 3) := by decide +kernel
theorem d_Terms_make_240 : decode b_Terms_make 240 = .ok (.aload_n 0, 1) := by decide +kernel
theorem d_Terms_make_241 : decode b_Terms_make 241 = .ok (.getfield 9, 3) := by decide +kernel
theorem d_Terms_make_244 : decode b_Terms_make 244 = .ok (.bipush 10, 2) := by decide +kernel
theorem d_Terms_make_246 : decode b_Terms_make 246 = .ok (.invokevirtual 88, 3) := by decide +kernel
theorem d_Terms_make_249 : decode b_Terms_make 249 = .ok (.aload_n 0, 1) := by decide +kernel
theorem d_Terms_make_250 : decode b_Terms_make 250 = .ok (.getfield 48, 3) := by decide +kernel
theorem d_Terms_make_253 : decode b_Terms_make 253 = .ok (.aload_n 0, 1) := by decide +kernel
theorem d_Terms_make_254 : decode b_Terms_make 254 = .ok (.getfield 31, 3) := by decide +kernel
theorem d_Terms_make_257 : decode b_Terms_make 257 = .ok (.arraylength, 1) := by decide +kernel
theorem d_Terms_make_258 : decode b_Terms_make 258 = .ok (.if_icmp .ne 7, 3) := by decide +kernel
theorem d_Terms_make_261 : decode b_Terms_make 261 = .ok (.aload_n 0, 1) := by decide +kernel
theorem d_Terms_make_262 : decode b_Terms_make 262 = .ok (.invokevirtual 94, 3) := by decide +kernel
theorem d_Terms_make_265 : decode b_Terms_make 265 = .ok (.aload_n 0, 1) := by decide +kernel
theorem d_Terms_make_266 : decode b_Terms_make 266 = .ok (.iload_n 1, 1) := by decide +kernel
theorem d_Terms_make_267 : decode b_Terms_make 267 = .ok (.iload_n 2, 1) := by decide +kernel
theorem d_Terms_make_268 : decode b_Terms_make 268 = .ok (.iload_n 3, 1) := by decide +kernel
theorem d_Terms_make_269 : decode b_Terms_make 269 = .ok (.invokevirtual 62, 3) := by decide +kernel
theorem d_Terms_make_272 : decode b_Terms_make 272 = .ok (.istore 9, 2) := by decide +kernel
theorem d_Terms_make_274 : decode b_Terms_make 274 = .ok (.aload_n 0, 1) := by decide +kernel
theorem d_Terms_make_275 : decode b_Terms_make 275 = .ok (.getfield 31, 3) := by decide +kernel
theorem d_Terms_make_278 : decode b_Terms_make 278 = .ok (.aload_n 0, 1) := by decide +kernel
theorem d_Terms_make_279 : decode b_Terms_make 279 = .ok (.getfield 48, 3) := by decide +kernel
theorem d_Terms_make_282 : decode b_Terms_make 282 = .ok (.iload 8, 2) := by decide +kernel
theorem d_Terms_make_284 : decode b_Terms_make 284 = .ok (.i2l, 1) := by decide +kernel
theorem d_Terms_make_285 : decode b_Terms_make 285 = .ok (.bipush 39, 2) := by decide +kernel
theorem d_Terms_make_287 : decode b_Terms_make 287 = .ok (.lshl, 1) := by decide +kernel
theorem d_Terms_make_288 : decode b_Terms_make 288 = .ok (.iload 7, 2) := by decide +kernel
theorem d_Terms_make_290 : decode b_Terms_make 290 = .ok (.i2l, 1) := by decide +kernel
theorem d_Terms_make_291 : decode b_Terms_make 291 = .ok (.bipush 26, 2) := by decide +kernel
theorem d_Terms_make_293 : decode b_Terms_make 293 = .ok (.lshl, 1) := by decide +kernel
theorem d_Terms_make_294 : decode b_Terms_make 294 = .ok (.lor, 1) := by decide +kernel
theorem d_Terms_make_295 : decode b_Terms_make 295 = .ok (.iload 6, 2) := by decide +kernel
theorem d_Terms_make_297 : decode b_Terms_make 297 = .ok (.i2l, 1) := by decide +kernel
theorem d_Terms_make_298 : decode b_Terms_make 298 = .ok (.bipush 17, 2) := by decide +kernel
theorem d_Terms_make_300 : decode b_Terms_make 300 = .ok (.lshl, 1) := by decide +kernel
theorem d_Terms_make_301 : decode b_Terms_make 301 = .ok (.lor, 1) := by decide +kernel
theorem d_Terms_make_302 : decode b_Terms_make 302 = .ok (.iload 5, 2) := by decide +kernel
theorem d_Terms_make_304 : decode b_Terms_make 304 = .ok (.i2l, 1) := by decide +kernel
theorem d_Terms_make_305 : decode b_Terms_make 305 = .ok (.iconst 4, 1) := by decide +kernel
theorem d_Terms_make_306 : decode b_Terms_make 306 = .ok (.lshl, 1) := by decide +kernel
theorem d_Terms_make_307 : decode b_Terms_make 307 = .ok (.lor, 1) := by decide +kernel
theorem d_Terms_make_308 : decode b_Terms_make 308 = .ok (.iload_n 1, 1) := by decide +kernel
theorem d_Terms_make_309 : decode b_Terms_make 309 = .ok (.i2l, 1) := by decide +kernel
theorem d_Terms_make_310 : decode b_Terms_make 310 = .ok (.lor, 1) := by decide +kernel
theorem d_Terms_make_311 : decode b_Terms_make 311 = .ok (.lastore, 1) := by decide +kernel
theorem d_Terms_make_312 : decode b_Terms_make 312 = .ok (.aload_n 0, 1) := by decide +kernel
theorem d_Terms_make_313 : decode b_Terms_make 313 = .ok (.getfield 35, 3) := by decide +kernel
theorem d_Terms_make_316 : decode b_Terms_make 316 = .ok (.aload_n 0, 1) := by decide +kernel
theorem d_Terms_make_317 : decode b_Terms_make 317 = .ok (.getfield 48, 3) := by decide +kernel
theorem d_Terms_make_320 : decode b_Terms_make 320 = .ok (.iload_n 2, 1) := by decide +kernel
theorem d_Terms_make_321 : decode b_Terms_make 321 = .ok (.iastore, 1) := by decide +kernel
theorem d_Terms_make_322 : decode b_Terms_make 322 = .ok (.aload_n 0, 1) := by decide +kernel
theorem d_Terms_make_323 : decode b_Terms_make 323 = .ok (.getfield 39, 3) := by decide +kernel
theorem d_Terms_make_326 : decode b_Terms_make 326 = .ok (.aload_n 0, 1) := by decide +kernel
theorem d_Terms_make_327 : decode b_Terms_make 327 = .ok (.getfield 48, 3) := by decide +kernel
theorem d_Terms_make_330 : decode b_Terms_make 330 = .ok (.iload_n 3, 1) := by decide +kernel
theorem d_Terms_make_331 : decode b_Terms_make 331 = .ok (.iastore, 1) := by decide +kernel
theorem d_Terms_make_332 : decode b_Terms_make 332 = .ok (.aload_n 0, 1) := by decide +kernel
theorem d_Terms_make_333 : decode b_Terms_make 333 = .ok (.getfield 42, 3) := by decide +kernel
theorem d_Terms_make_336 : decode b_Terms_make 336 = .ok (.aload_n 0, 1) := by decide +kernel
theorem d_Terms_make_337 : decode b_Terms_make 337 = .ok (.getfield 48, 3) := by decide +kernel
theorem d_Terms_make_340 : decode b_Terms_make 340 = .ok (.aload_n 0, 1) := by decide +kernel
theorem d_Terms_make_341 : decode b_Terms_make 341 = .ok (.getfield 45, 3) := by decide +kernel
theorem d_Terms_make_344 : decode b_Terms_make 344 = .ok (.iload 9, 2) := by decide +kernel
theorem d_Terms_make_346 : decode b_Terms_make 346 = .ok (.iaload, 1) := by decide +kernel
theorem d_Terms_make_347 : decode b_Terms_make 347 = .ok (.iastore, 1) := by decide +kernel
theorem d_Terms_make_348 : decode b_Terms_make 348 = .ok (.aload_n 0, 1) := by decide +kernel
theorem d_Terms_make_349 : decode b_Terms_make 349 = .ok (.dup, 1) := by decide +kernel
theorem d_Terms_make_350 : decode b_Terms_make 350 = .ok (.getfield 48, 3) := by decide +kernel
theorem d_Terms_make_353 : decode b_Terms_make 353 = .ok (.iconst 1, 1) := by decide +kernel
theorem d_Terms_make_354 : decode b_Terms_make 354 = .ok (.iadd, 1) := by decide +kernel
theorem d_Terms_make_355 : decode b_Terms_make 355 = .ok (.putfield 48, 3) := by decide +kernel
theorem d_Terms_make_358 : decode b_Terms_make 358 = .ok (.aload_n 0, 1) := by decide +kernel
theorem d_Terms_make_359 : decode b_Terms_make 359 = .ok (.getfield 45, 3) := by decide +kernel
theorem d_Terms_make_362 : decode b_Terms_make 362 = .ok (.iload 9, 2) := by decide +kernel
theorem d_Terms_make_364 : decode b_Terms_make 364 = .ok (.aload_n 0, 1) := by decide +kernel
theorem d_Terms_make_365 : decode b_Terms_make 365 = .ok (.getfield 48, 3) := by decide +kernel
theorem d_Terms_make_368 : decode b_Terms_make 368 = .ok (.iastore, 1) := by decide +kernel
theorem d_Terms_make_369 : decode b_Terms_make 369 = .ok (.aload_n 0, 1) := by decide +kernel
theorem d_Terms_make_370 : decode b_Terms_make 370 = .ok (.getfield 48, 3) := by decide +kernel
theorem d_Terms_make_373 : decode b_Terms_make 373 = .ok (.iconst 1, 1) := by decide +kernel
theorem d_Terms_make_374 : decode b_Terms_make 374 = .ok (.isub, 1) := by decide +kernel
theorem d_Terms_make_375 : decode b_Terms_make 375 = .ok (.ireturn, 1) := by decide +kernel
theorem d_Terms_release_0 : decode b_Terms_release 0 = .ok (.aload_n 0, 1) := by decide +kernel
theorem d_Terms_release_1 : decode b_Terms_release 1 = .ok (.getfield 48, 3) := by decide +kernel
theorem d_Terms_release_4 : decode b_Terms_release 4 = .ok (.iconst 1, 1) := by decide +kernel
theorem d_Terms_release_5 : decode b_Terms_release 5 = .ok (.isub, 1) := by decide +kernel
theorem d_Terms_release_6 : decode b_Terms_release 6 = .ok (.istore_n 2, 1) := by decide +kernel
theorem d_Terms_release_7 : decode b_Terms_release 7 = .ok (.iload_n 2, 1) := by decide +kernel
theorem d_Terms_release_8 : decode b_Terms_release 8 = .ok (.iload_n 1, 1) := by decide +kernel
theorem d_Terms_release_9 : decode b_Terms_release 9 = .ok (.if_icmp .lt 45, 3) := by decide +kernel
theorem d_Terms_release_12 : decode b_Terms_release 12 = .ok (.iload_n 2, 1) := by decide +kernel
theorem d_Terms_release_13 : decode b_Terms_release 13 = .ok (.ifCond .lt 41, 3) := by decide +kernel
theorem d_Terms_release_16 : decode b_Terms_release 16 = .ok (.aload_n 0, 1) := by decide +kernel
theorem d_Terms_release_17 : decode b_Terms_release 17 = .ok (.getfield 45, 3) := by decide +kernel
theorem d_Terms_release_20 : decode b_Terms_release 20 = .ok (.aload_n 0, 1) := by decide +kernel
theorem d_Terms_release_21 : decode b_Terms_release 21 = .ok (.aload_n 0, 1) := by decide +kernel
theorem d_Terms_release_22 : decode b_Terms_release 22 = .ok (.iload_n 2, 1) := by decide +kernel
theorem d_Terms_release_23 : decode b_Terms_release 23 = .ok (.invokevirtual 52, 3) := by decide +kernel
theorem d_Terms_release_26 : decode b_Terms_release 26 = .ok (.aload_n 0, 1) := by decide +kernel
theorem d_Terms_release_27 : decode b_Terms_release 27 = .ok (.getfield 35, 3) := by decide +kernel
theorem d_Terms_release_30 : decode b_Terms_release 30 = .ok (.iload_n 2, 1) := by decide +kernel
theorem d_Terms_release_31 : decode b_Terms_release 31 = .ok (.iaload, 1) := by decide +kernel
theorem d_Terms_release_32 : decode b_Terms_release 32 = .ok (.aload_n 0, 1) := by decide +kernel
theorem d_Terms_release_33 : decode b_Terms_release 33 = .ok (.getfield 39, 3) := by decide +kernel
theorem d_Terms_release_36 : decode b_Terms_release 36 = .ok (.iload_n 2, 1) := by decide +kernel
theorem d_Terms_release_37 : decode b_Terms_release 37 = .ok (.iaload, 1) := by decide +kernel
theorem d_Terms_release_38 : decode b_Terms_release 38 = .ok (.invokevirtual 62, 3) := by decide +kernel
theorem d_Terms_release_41 : decode b_Terms_release 41 = .ok (.aload_n 0, 1) := by decide +kernel
theorem d_Terms_release_42 : decode b_Terms_release 42 = .ok (.getfield 42, 3) := by decide +kernel
theorem d_Terms_release_45 : decode b_Terms_release 45 = .ok (.iload_n 2, 1) := by decide +kernel
theorem d_Terms_release_46 : decode b_Terms_release 46 = .ok (.iaload, 1) := by decide +kernel
theorem d_Terms_release_47 : decode b_Terms_release 47 = .ok (.iastore, 1) := by decide +kernel
theorem d_Terms_release_48 : decode b_Terms_release 48 = .ok (.iinc 2 (-1), 3) := by decide +kernel
theorem d_Terms_release_51 : decode b_Terms_release 51 = .ok (.goto (-44), 3) := by decide +kernel
theorem d_Terms_release_54 : decode b_Terms_release 54 = .ok (.iload_n 1, 1) := by decide +kernel
theorem d_Terms_release_55 : decode b_Terms_release 55 = .ok (.ifCond .lt 16, 3) := by decide +kernel
theorem d_Terms_release_58 : decode b_Terms_release 58 = .ok (.iload_n 1, 1) := by decide +kernel
theorem d_Terms_release_59 : decode b_Terms_release 59 = .ok (.aload_n 0, 1) := by decide +kernel
theorem d_Terms_release_60 : decode b_Terms_release 60 = .ok (.getfield 48, 3) := by decide +kernel
theorem d_Terms_release_63 : decode b_Terms_release 63 = .ok (.if_icmp .ge 8, 3) := by decide +kernel
theorem d_Terms_release_66 : decode b_Terms_release 66 = .ok (.aload_n 0, 1) := by decide +kernel
theorem d_Terms_release_67 : decode b_Terms_release 67 = .ok (.iload_n 1, 1) := by decide +kernel
theorem d_Terms_release_68 : decode b_Terms_release 68 = .ok (.putfield 48, 3) := by decide +kernel
theorem d_Terms_release_71 : decode b_Terms_release 71 = .ok (.return_, 1) := by decide +kernel
