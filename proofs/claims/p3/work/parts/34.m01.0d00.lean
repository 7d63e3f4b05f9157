theorem d_Mod_same_0 : decode b_Mod_same 0 = .ok (.iload_n 1, 1) := by decide +kernel
theorem d_Mod_same_1 : decode b_Mod_same 1 = .ok (.istore_n 3, 1) := by decide +kernel
theorem d_Mod_same_2 : decode b_Mod_same 2 = .ok (.iload_n 2, 1) := by decide +kernel
theorem d_Mod_same_3 : decode b_Mod_same 3 = .ok (.istore 4, 2) := by decide +kernel
theorem d_Mod_same_5 : decode b_Mod_same 5 = .ok (.iload_n 3, 1) := by decide +kernel
theorem d_Mod_same_6 : decode b_Mod_same 6 = .ok (.iload 4, 2) := by decide +kernel
theorem d_Mod_same_8 : decode b_Mod_same 8 = .ok (.if_icmp .eq 83, 3) := by decide +kernel
theorem d_Mod_same_11 : decode b_Mod_same 11 = .ok (.aload_n 0, 1) := by decide +kernel
theorem d_Mod_same_12 : decode b_Mod_same 12 = .ok (.getfield 55, 3) := by decide +kernel
theorem d_Mod_same_15 : decode b_Mod_same 15 = .ok (.iload_n 3, 1) := by decide +kernel
theorem d_Mod_same_16 : decode b_Mod_same 16 = .ok (.baload, 1) := by decide +kernel
theorem d_Mod_same_17 : decode b_Mod_same 17 = .ok (.bipush 8, 2) := by decide +kernel
theorem d_Mod_same_19 : decode b_Mod_same 19 = .ok (.if_icmp .ne 72, 3) := by decide +kernel
theorem d_Mod_same_22 : decode b_Mod_same 22 = .ok (.aload_n 0, 1) := by decide +kernel
theorem d_Mod_same_23 : decode b_Mod_same 23 = .ok (.getfield 55, 3) := by decide +kernel
theorem d_Mod_same_26 : decode b_Mod_same 26 = .ok (.iload 4, 2) := by decide +kernel
theorem d_Mod_same_28 : decode b_Mod_same 28 = .ok (.baload, 1) := by decide +kernel
theorem d_Mod_same_29 : decode b_Mod_same 29 = .ok (.bipush 8, 2) := by decide +kernel
theorem d_Mod_same_31 : decode b_Mod_same 31 = .ok (.if_icmp .ne 60, 3) := by decide +kernel
theorem d_Mod_same_34 : decode b_Mod_same 34 = .ok (.aload_n 0, 1) := by decide +kernel
theorem d_Mod_same_35 : decode b_Mod_same 35 = .ok (.getfield 68, 3) := by decide +kernel
theorem d_Mod_same_38 : decode b_Mod_same 38 = .ok (.iload_n 3, 1) := by decide +kernel
theorem d_Mod_same_39 : decode b_Mod_same 39 = .ok (.iaload, 1) := by decide +kernel
theorem d_Mod_same_40 : decode b_Mod_same 40 = .ok (.aload_n 0, 1) := by decide +kernel
theorem d_Mod_same_41 : decode b_Mod_same 41 = .ok (.getfield 68, 3) := by decide +kernel
theorem d_Mod_same_44 : decode b_Mod_same 44 = .ok (.iload 4, 2) := by decide +kernel
theorem d_Mod_same_46 : decode b_Mod_same 46 = .ok (.iaload, 1) := by decide +kernel
theorem d_Mod_same_47 : decode b_Mod_same 47 = .ok (.if_icmp .ne 44, 3) := by decide +kernel
theorem d_Mod_same_50 : decode b_Mod_same 50 = .ok (.aload_n 0, 1) := by decide +kernel
theorem d_Mod_same_51 : decode b_Mod_same 51 = .ok (.aload_n 0, 1) := by decide +kernel
theorem d_Mod_same_52 : decode b_Mod_same 52 = .ok (.getfield 62, 3) := by decide +kernel
theorem d_Mod_same_55 : decode b_Mod_same 55 = .ok (.iload_n 3, 1) := by decide +kernel
theorem d_Mod_same_56 : decode b_Mod_same 56 = .ok (.iaload, 1) := by decide +kernel
theorem d_Mod_same_57 : decode b_Mod_same 57 = .ok (.aload_n 0, 1) := by decide +kernel
theorem d_Mod_same_58 : decode b_Mod_same 58 = .ok (.getfield 62, 3) := by decide +kernel
theorem d_Mod_same_61 : decode b_Mod_same 61 = .ok (.iload 4, 2) := by decide +kernel
theorem d_Mod_same_63 : decode b_Mod_same 63 = .ok (.iaload, 1) := by decide +kernel
theorem d_Mod_same_64 : decode b_Mod_same 64 = .ok (.invokevirtual 340, 3) := by decide +kernel
theorem d_Mod_same_67 : decode b_Mod_same 67 = .ok (.ifCond .ne 5, 3) := by decide +kernel
theorem d_Mod_same_70 : decode b_Mod_same 70 = .ok (.iconst 0, 1) := by decide +kernel
theorem d_Mod_same_71 : decode b_Mod_same 71 = .ok (.ireturn, 1) := by decide +kernel
theorem d_Mod_same_72 : decode b_Mod_same 72 = .ok (.aload_n 0, 1) := by decide +kernel
theorem d_Mod_same_73 : decode b_Mod_same 73 = .ok (.getfield 58, 3) := by decide +kernel
theorem d_Mod_same_76 : decode b_Mod_same 76 = .ok (.iload_n 3, 1) := by decide +kernel
theorem d_Mod_same_77 : decode b_Mod_same 77 = .ok (.iaload, 1) := by decide +kernel
theorem d_Mod_same_78 : decode b_Mod_same 78 = .ok (.istore_n 3, 1) := by decide +kernel
theorem d_Mod_same_79 : decode b_Mod_same 79 = .ok (.aload_n 0, 1) := by decide +kernel
theorem d_Mod_same_80 : decode b_Mod_same 80 = .ok (.getfield 58, 3) := by decide +kernel
theorem d_Mod_same_83 : decode b_Mod_same 83 = .ok (.iload 4, 2) := by decide +kernel
theorem d_Mod_same_85 : decode b_Mod_same 85 = .ok (.iaload, 1) := by decide +kernel
theorem d_Mod_same_86 : decode b_Mod_same 86 = .ok (.istore 4, 2) := by decide +kernel
theorem d_Mod_same_88 : decode b_Mod_same 88 = .ok (.goto (-83), 3) := by decide +kernel
theorem d_Mod_same_91 : decode b_Mod_same 91 = .ok (.iload_n 3, 1) := by decide +kernel
theorem d_Mod_same_92 : decode b_Mod_same 92 = .ok (.iload 4, 2) := by decide +kernel
theorem d_Mod_same_94 : decode b_Mod_same 94 = .ok (.if_icmp .ne 5, 3) := by decide +kernel
theorem d_Mod_same_97 : decode b_Mod_same 97 = .ok (.iconst 1, 1) := by decide +kernel
theorem d_Mod_same_98 : decode b_Mod_same 98 = .ok (.ireturn, 1) := by decide +kernel
theorem d_Mod_same_99 : decode b_Mod_same 99 = .ok (.aload_n 0, 1) := by decide +kernel
theorem d_Mod_same_100 : decode b_Mod_same 100 = .ok (.getfield 55, 3) := by decide +kernel
theorem d_Mod_same_103 : decode b_Mod_same 103 = .ok (.iload_n 3, 1) := by decide +kernel
theorem d_Mod_same_104 : decode b_Mod_same 104 = .ok (.baload, 1) := by decide +kernel
theorem d_Mod_same_105 : decode b_Mod_same 105 = .ok (.aload_n 0, 1) := by decide +kernel
theorem d_Mod_same_106 : decode b_Mod_same 106 = .ok (.getfield 55, 3) := by decide +kernel
theorem d_Mod_same_109 : decode b_Mod_same 109 = .ok (.iload 4, 2) := by decide +kernel
theorem d_Mod_same_111 : decode b_Mod_same 111 = .ok (.baload, 1) := by decide +kernel
theorem d_Mod_same_112 : decode b_Mod_same 112 = .ok (.if_icmp .ne 19, 3) := by decide +kernel
theorem d_Mod_same_115 : decode b_Mod_same 115 = .ok (.aload_n 0, 1) := by decide +kernel
theorem d_Mod_same_116 : decode b_Mod_same 116 = .ok (.getfield 68, 3) := by decide +kernel
theorem d_Mod_same_119 : decode b_Mod_same 119 = .ok (.iload_n 3, 1) := by decide +kernel
theorem d_Mod_same_120 : decode b_Mod_same 120 = .ok (.iaload, 1) := by decide +kernel
theorem d_Mod_same_121 : decode b_Mod_same 121 = .ok (.aload_n 0, 1) := by decide +kernel
theorem d_Mod_same_122 : decode b_Mod_same 122 = .ok (.getfield 68, 3) := by decide +kernel
theorem d_Mod_same_125 : decode b_Mod_same 125 = .ok (.iload 4, 2) := by decide +kernel
theorem d_Mod_same_127 : decode b_Mod_same 127 = .ok (.iaload, 1) := by decide +kernel
theorem d_Mod_same_128 : decode b_Mod_same 128 = .ok (.if_icmp .eq 5, 3) := by decide +kernel
theorem d_Mod_same_131 : decode b_Mod_same 131 = .ok (.iconst 0, 1) := by decide +kernel
theorem d_Mod_same_132 : decode b_Mod_same 132 = .ok (.ireturn, 1) := by decide +kernel
theorem d_Mod_same_133 : decode b_Mod_same 133 = .ok (.aload_n 0, 1) := by decide +kernel
theorem d_Mod_same_134 : decode b_Mod_same 134 = .ok (.getfield 55, 3) := by decide +kernel
theorem d_Mod_same_137 : decode b_Mod_same 137 = .ok (.iload_n 3, 1) := by decide +kernel
theorem d_Mod_same_138 : decode b_Mod_same 138 = .ok (.baload, 1) := by decide +kernel
theorem d_Mod_same_139 : decode b_Mod_same 139 = .ok (.tableswitch 179 0 9 #[53, 53, 75, 53, 53, 53, 179, 179, 179, 113], 53) := by decide +kernel
theorem d_Mod_same_192 : decode b_Mod_same 192 = .ok (.aload_n 0, 1) := by decide +kernel
theorem d_Mod_same_193 : decode b_Mod_same 193 = .ok (.getfield 58, 3) := by decide +kernel
theorem d_Mod_same_196 : decode b_Mod_same 196 = .ok (.iload_n 3, 1) := by decide +kernel
theorem d_Mod_same_197 : decode b_Mod_same 197 = .ok (.iaload, 1) := by decide +kernel
theorem d_Mod_same_198 : decode b_Mod_same 198 = .ok (.aload_n 0, 1) := by decide +kernel
theorem d_Mod_same_199 : decode b_Mod_same 199 = .ok (.getfield 58, 3) := by decide +kernel
theorem d_Mod_same_202 : decode b_Mod_same 202 = .ok (.iload 4, 2) := by decide +kernel
theorem d_Mod_same_204 : decode b_Mod_same 204 = .ok (.iaload, 1) := by decide +kernel
theorem d_Mod_same_205 : decode b_Mod_same 205 = .ok (.if_icmp .ne 7, 3) := by decide +kernel
theorem d_Mod_same_208 : decode b_Mod_same 208 = .ok (.iconst 1, 1) := by decide +kernel
theorem d_Mod_same_209 : decode b_Mod_same 209 = .ok (.goto 4, 3) := by decide +kernel
theorem d_Mod_same_212 : decode b_Mod_same 212 = .ok (.iconst 0, 1) := by decide +kernel
theorem d_Mod_same_213 : decode b_Mod_same 213 = .ok (.ireturn, 1) := by decide +kernel
theorem d_Mod_same_214 : decode b_Mod_same 214 = .ok (.aload_n 0, 1) := by decide +kernel
theorem d_Mod_same_215 : decode b_Mod_same 215 = .ok (.getfield 58, 3) := by decide +kernel
theorem d_Mod_same_218 : decode b_Mod_same 218 = .ok (.iload_n 3, 1) := by decide +kernel
theorem d_Mod_same_219 : decode b_Mod_same 219 = .ok (.iaload, 1) := by decide +kernel
theorem d_Mod_same_220 : decode b_Mod_same 220 = .ok (.aload_n 0, 1) := by decide +kernel
theorem d_Mod_same_221 : decode b_Mod_same 221 = .ok (.getfield 58, 3) := by decide +kernel
theorem d_Mod_same_224 : decode b_Mod_same 224 = .ok (.iload 4, 2) := by decide +kernel
theorem d_Mod_same_226 : decode b_Mod_same 226 = .ok (.iaload, 1) := by decide +kernel
theorem d_Mod_same_227 : decode b_Mod_same 227 = .ok (.if_icmp .ne 23, 3) := by decide +kernel
theorem d_Mod_same_230 : decode b_Mod_same 230 = .ok (.aload_n 0, 1) := by decide +kernel
theorem d_Mod_same_231 : decode b_Mod_same 231 = .ok (.getfield 62, 3) := by decide +kernel
theorem d_Mod_same_234 : decode b_Mod_same 234 = .ok (.iload_n 3, 1) := by decide +kernel
theorem d_Mod_same_235 : decode b_Mod_same 235 = .ok (.iaload, 1) := by decide +kernel
theorem d_Mod_same_236 : decode b_Mod_same 236 = .ok (.aload_n 0, 1) := by decide +kernel
theorem d_Mod_same_237 : decode b_Mod_same 237 = .ok (.getfield 62, 3) := by decide +kernel
theorem d_Mod_same_240 : decode b_Mod_same 240 = .ok (.iload 4, 2) := by decide +kernel
theorem d_Mod_same_242 : decode b_Mod_same 242 = .ok (.iaload, 1) := by decide +kernel
theorem d_Mod_same_243 : decode b_Mod_same 243 = .ok (.if_icmp .ne 7, 3) := by decide +kernel
theorem d_Mod_same_246 : decode b_Mod_same 246 = .ok (.iconst 1, 1) := by decide +kernel
theorem d_Mod_same_247 : decode b_Mod_same 247 = .ok (.goto 4, 3) := by decide +kernel
theorem d_Mod_same_250 : decode b_Mod_same 250 = .ok (.iconst 0, 1) := by decide +kernel
theorem d_Mod_same_251 : decode b_Mod_same 251 = .ok (.ireturn, 1) := by decide +kernel
theorem d_Mod_same_252 : decode b_Mod_same 252 = .ok (.aload_n 0, 1) := by decide +kernel
theorem d_Mod_same_253 : decode b_Mod_same 253 = .ok (.aload_n 0, 1) := by decide +kernel
theorem d_Mod_same_254 : decode b_Mod_same 254 = .ok (.getfield 58, 3) := by decide +kernel
theorem d_Mod_same_257 : decode b_Mod_same 257 = .ok (.iload_n 3, 1) := by decide +kernel
theorem d_Mod_same_258 : decode b_Mod_same 258 = .ok (.iaload, 1) := by decide +kernel
theorem d_Mod_same_259 : decode b_Mod_same 259 = .ok (.aload_n 0, 1) := by decide +kernel
theorem d_Mod_same_260 : decode b_Mod_same 260 = .ok (.getfield 58, 3) := by decide +kernel
theorem d_Mod_same_263 : decode b_Mod_same 263 = .ok (.iload 4, 2) := by decide +kernel
theorem d_Mod_same_265 : decode b_Mod_same 265 = .ok (.iaload, 1) := by decide +kernel
theorem d_Mod_same_266 : decode b_Mod_same 266 = .ok (.invokevirtual 340, 3) := by decide +kernel
theorem d_Mod_same_269 : decode b_Mod_same 269 = .ok (.ifCond .eq 47, 3) := by decide +kernel
theorem d_Mod_same_272 : decode b_Mod_same 272 = .ok (.aload_n 0, 1) := by decide +kernel
theorem d_Mod_same_273 : decode b_Mod_same 273 = .ok (.aload_n 0, 1) := by decide +kernel
theorem d_Mod_same_274 : decode b_Mod_same 274 = .ok (.getfield 62, 3) := by decide +kernel
theorem d_Mod_same_277 : decode b_Mod_same 277 = .ok (.iload_n 3, 1) := by decide +kernel
theorem d_Mod_same_278 : decode b_Mod_same 278 = .ok (.iaload, 1) := by decide +kernel
theorem d_Mod_same_279 : decode b_Mod_same 279 = .ok (.aload_n 0, 1) := by decide +kernel
theorem d_Mod_same_280 : decode b_Mod_same 280 = .ok (.getfield 62, 3) := by decide +kernel
theorem d_Mod_same_283 : decode b_Mod_same 283 = .ok (.iload 4, 2) := by decide +kernel
theorem d_Mod_same_285 : decode b_Mod_same 285 = .ok (.iaload, 1) := by decide +kernel
theorem d_Mod_same_286 : decode b_Mod_same 286 = .ok (.invokevirtual 340, 3) := by decide +kernel
theorem d_Mod_same_289 : decode b_Mod_same 289 = .ok (.ifCond .eq 27, 3) := by decide +kernel
theorem d_Mod_same_292 : decode b_Mod_same 292 = .ok (.aload_n 0, 1) := by decide +kernel
theorem d_Mod_same_293 : decode b_Mod_same 293 = .ok (.aload_n 0, 1) := by decide +kernel
theorem d_Mod_same_294 : decode b_Mod_same 294 = .ok (.getfield 65, 3) := by decide +kernel
theorem d_Mod_same_297 : decode b_Mod_same 297 = .ok (.iload_n 3, 1) := by decide +kernel
theorem d_Mod_same_298 : decode b_Mod_same 298 = .ok (.iaload, 1) := by decide +kernel
theorem d_Mod_same_299 : decode b_Mod_same 299 = .ok (.aload_n 0, 1) := by decide +kernel
theorem d_Mod_same_300 : decode b_Mod_same 300 = .ok (.getfield 65, 3) := by decide +kernel
theorem d_Mod_same_303 : decode b_Mod_same 303 = .ok (.iload 4, 2) := by decide +kernel
theorem d_Mod_same_305 : decode b_Mod_same 305 = .ok (.iaload, 1) := by decide +kernel
theorem d_Mod_same_306 : decode b_Mod_same 306 = .ok (.invokevirtual 340, 3) := by decide +kernel
theorem d_Mod_same_309 : decode b_Mod_same 309 = .ok (.ifCond .eq 7, 3) := by decide +kernel
theorem d_Mod_same_312 : decode b_Mod_same 312 = .ok (.iconst 1, 1) := by decide +kernel
theorem d_Mod_same_313 : decode b_Mod_same 313 = .ok (.goto 4, 3) := by decide +kernel
theorem d_Mod_same_316 : decode b_Mod_same 316 = .ok (.iconst 0, 1) := by decide +kernel
theorem d_Mod_same_317 : decode b_Mod_same 317 = .ok (.ireturn, 1) := by decide +kernel
theorem d_Mod_same_318 : decode b_Mod_same 318 = .ok (.aload_n 0, 1) := by decide +kernel
theorem d_Mod_same_319 : decode b_Mod_same 319 = .ok (.getfield 55, 3) := by decide +kernel
theorem d_Mod_same_322 : decode b_Mod_same 322 = .ok (.iload_n 3, 1) := by decide +kernel
theorem d_Mod_same_323 : decode b_Mod_same 323 = .ok (.baload, 1) := by decide +kernel
theorem d_Mod_same_324 : decode b_Mod_same 324 = .ok (.bipush 8, 2) := by decide +kernel
theorem d_Mod_same_326 : decode b_Mod_same 326 = .ok (.if_icmp .eq 47, 3) := by decide +kernel
theorem d_Mod_same_329 : decode b_Mod_same 329 = .ok (.aload_n 0, 1) := by decide +kernel
theorem d_Mod_same_330 : decode b_Mod_same 330 = .ok (.aload_n 0, 1) := by decide +kernel
theorem d_Mod_same_331 : decode b_Mod_same 331 = .ok (.getfield 58, 3) := by decide +kernel
theorem d_Mod_same_334 : decode b_Mod_same 334 = .ok (.iload_n 3, 1) := by decide +kernel
theorem d_Mod_same_335 : decode b_Mod_same 335 = .ok (.iaload, 1) := by decide +kernel
theorem d_Mod_same_336 : decode b_Mod_same 336 = .ok (.aload_n 0, 1) := by decide +kernel
theorem d_Mod_same_337 : decode b_Mod_same 337 = .ok (.getfield 58, 3) := by decide +kernel
theorem d_Mod_same_340 : decode b_Mod_same 340 = .ok (.iload 4, 2) := by decide +kernel
theorem d_Mod_same_342 : decode b_Mod_same 342 = .ok (.iaload, 1) := by decide +kernel
theorem d_Mod_same_343 : decode b_Mod_same 343 = .ok (.invokevirtual 340, 3) := by decide +kernel
theorem d_Mod_same_346 : decode b_Mod_same 346 = .ok (.ifCond .eq 27, 3) := by decide +kernel
theorem d_Mod_same_349 : decode b_Mod_same 349 = .ok (.aload_n 0, 1) := by decide +kernel
theorem d_Mod_same_350 : decode b_Mod_same 350 = .ok (.aload_n 0, 1) := by decide +kernel
theorem d_Mod_same_351 : decode b_Mod_same 351 = .ok (.getfield 62, 3) := by decide +kernel
theorem d_Mod_same_354 : decode b_Mod_same 354 = .ok (.iload_n 3, 1) := by decide +kernel
theorem d_Mod_same_355 : decode b_Mod_same 355 = .ok (.iaload, 1) := by decide +kernel
theorem d_Mod_same_356 : decode b_Mod_same 356 = .ok (.aload_n 0, 1) := by decide +kernel
theorem d_Mod_same_357 : decode b_Mod_same 357 = .ok (.getfield 62, 3) := by decide +kernel
theorem d_Mod_same_360 : decode b_Mod_same 360 = .ok (.iload 4, 2) := by decide +kernel
theorem d_Mod_same_362 : decode b_Mod_same 362 = .ok (.iaload, 1) := by decide +kernel
theorem d_Mod_same_363 : decode b_Mod_same 363 = .ok (.invokevirtual 340, 3) := by decide +kernel
theorem d_Mod_same_366 : decode b_Mod_same 366 = .ok (.ifCond .eq 7, 3) := by decide +kernel
theorem d_Mod_same_369 : decode b_Mod_same 369 = .ok (.iconst 1, 1) := by decide +kernel
theorem d_Mod_same_370 : decode b_Mod_same 370 = .ok (.goto 4, 3) := by decide +kernel
theorem d_Mod_same_373 : decode b_Mod_same 373 = .ok (.iconst 0, 1) := by decide +kernel
theorem d_Mod_same_374 : decode b_Mod_same 374 = .ok (.ireturn, 1) := by decide +kernel
