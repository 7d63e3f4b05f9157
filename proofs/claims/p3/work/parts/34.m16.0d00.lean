theorem d_Mod_check_0 : decode b_Mod_check 0 = .ok (.aload_n 0, 1) := by decide +kernel
theorem d_Mod_check_1 : decode b_Mod_check 1 = .ok (.aload_n 0, 1) := by decide +kernel
theorem d_Mod_check_2 : decode b_Mod_check 2 = .ok (.iload_n 1, 1) := by decide +kernel
theorem d_Mod_check_3 : decode b_Mod_check 3 = .ok (.iload_n 3, 1) := by decide +kernel
theorem d_Mod_check_4 : decode b_Mod_check 4 = .ok (.iconst 1, 1) := by decide +kernel
theorem d_Mod_check_5 : decode b_Mod_check 5 = .ok (.iadd, 1) := by decide +kernel
theorem d_Mod_check_6 : decode b_Mod_check 6 = .ok (.invokevirtual 479, 3) := by decide +kernel
theorem d_Mod_check_9 : decode b_Mod_check 9 = .ok (.iload_n 2, 1) := by decide +kernel
theorem d_Mod_check_10 : decode b_Mod_check 10 = .ok (.iconst 1, 1) := by decide +kernel
theorem d_Mod_check_11 : decode b_Mod_check 11 = .ok (.invokevirtual 464, 3) := by decide +kernel
theorem d_Mod_check_14 : decode b_Mod_check 14 = .ok (.ifCond .ne 8, 3) := by decide +kernel
theorem d_Mod_check_17 : decode b_Mod_check 17 = .ok (.iconst 4, 1) := by decide +kernel
theorem d_Mod_check_18 : decode b_Mod_check 18 = .ok (.invokestatic 323, 3) := by decide +kernel
theorem d_Mod_check_21 : decode b_Mod_check 21 = .ok (.athrow, 1) := by decide +kernel
theorem d_Mod_check_22 : decode b_Mod_check 22 = .ok (.return_, 1) := by decide +kernel
theorem d_Mod_infer_0 : decode b_Mod_infer 0 = .ok (.iload_n 2, 1) := by decide +kernel
theorem d_Mod_infer_1 : decode b_Mod_infer 1 = .ok (.sipush 150, 3) := by decide +kernel
theorem d_Mod_infer_4 : decode b_Mod_infer 4 = .ok (.if_icmp .le 9, 3) := by decide +kernel
theorem d_Mod_infer_7 : decode b_Mod_infer 7 = .ok (.bipush 10, 2) := by decide +kernel
theorem d_Mod_infer_9 : decode b_Mod_infer 9 = .ok (.invokestatic 323, 3) := by decide +kernel
theorem d_Mod_infer_12 : decode b_Mod_infer 12 = .ok (.athrow, 1) := by decide +kernel
theorem d_Mod_infer_13 : decode b_Mod_infer 13 = .ok (.aload_n 0, 1) := by decide +kernel
theorem d_Mod_infer_14 : decode b_Mod_infer 14 = .ok (.getfield 55, 3) := by decide +kernel
theorem d_Mod_infer_17 : decode b_Mod_infer 17 = .ok (.iload_n 1, 1) := by decide +kernel
theorem d_Mod_infer_18 : decode b_Mod_infer 18 = .ok (.baload, 1) := by decide +kernel
theorem d_Mod_infer_19 : decode b_Mod_infer 19 = .ok (.tableswitch 360 0 9 #[53, 95, 107, 83, 360, 360, 170, 231, 360, 307], 53) := by decide +kernel
theorem d_Mod_infer_72 : decode b_Mod_infer 72 = .ok (.aload_n 0, 1) := by decide +kernel
theorem d_Mod_infer_73 : decode b_Mod_infer 73 = .ok (.getfield 58, 3) := by decide +kernel
theorem d_Mod_infer_76 : decode b_Mod_infer 76 = .ok (.iload_n 1, 1) := by decide +kernel
theorem d_Mod_infer_77 : decode b_Mod_infer 77 = .ok (.iaload, 1) := by decide +kernel
theorem d_Mod_infer_78 : decode b_Mod_infer 78 = .ok (.bipush 100, 2) := by decide +kernel
theorem d_Mod_infer_80 : decode b_Mod_infer 80 = .ok (.if_icmp .ne 9, 3) := by decide +kernel
theorem d_Mod_infer_83 : decode b_Mod_infer 83 = .ok (.bipush 7, 2) := by decide +kernel
theorem d_Mod_infer_85 : decode b_Mod_infer 85 = .ok (.invokestatic 323, 3) := by decide +kernel
theorem d_Mod_infer_88 : decode b_Mod_infer 88 = .ok (.athrow, 1) := by decide +kernel
theorem d_Mod_infer_89 : decode b_Mod_infer 89 = .ok (.aload_n 0, 1) := by decide +kernel
theorem d_Mod_infer_90 : decode b_Mod_infer 90 = .ok (.aload_n 0, 1) := by decide +kernel
theorem d_Mod_infer_91 : decode b_Mod_infer 91 = .ok (.getfield 58, 3) := by decide +kernel
theorem d_Mod_infer_94 : decode b_Mod_infer 94 = .ok (.iload_n 1, 1) := by decide +kernel
theorem d_Mod_infer_95 : decode b_Mod_infer 95 = .ok (.iaload, 1) := by decide +kernel
theorem d_Mod_infer_96 : decode b_Mod_infer 96 = .ok (.iconst 1, 1) := by decide +kernel
theorem d_Mod_infer_97 : decode b_Mod_infer 97 = .ok (.iadd, 1) := by decide +kernel
theorem d_Mod_infer_98 : decode b_Mod_infer 98 = .ok (.invokevirtual 356, 3) := by decide +kernel
theorem d_Mod_infer_101 : decode b_Mod_infer 101 = .ok (.ireturn, 1) := by decide +kernel
theorem d_Mod_infer_102 : decode b_Mod_infer 102 = .ok (.aload_n 0, 1) := by decide +kernel
theorem d_Mod_infer_103 : decode b_Mod_infer 103 = .ok (.getfield 190, 3) := by decide +kernel
theorem d_Mod_infer_106 : decode b_Mod_infer 106 = .ok (.aload_n 0, 1) := by decide +kernel
theorem d_Mod_infer_107 : decode b_Mod_infer 107 = .ok (.getfield 58, 3) := by decide +kernel
theorem d_Mod_infer_110 : decode b_Mod_infer 110 = .ok (.iload_n 1, 1) := by decide +kernel
theorem d_Mod_infer_111 : decode b_Mod_infer 111 = .ok (.iaload, 1) := by decide +kernel
theorem d_Mod_infer_112 : decode b_Mod_infer 112 = .ok (.iaload, 1) := by decide +kernel
theorem d_Mod_infer_113 : decode b_Mod_infer 113 = .ok (.ireturn, 1) := by decide +kernel
theorem d_Mod_infer_114 : decode b_Mod_infer 114 = .ok (.aload_n 0, 1) := by decide +kernel
theorem d_Mod_infer_115 : decode b_Mod_infer 115 = .ok (.getfield 110, 3) := by decide +kernel
theorem d_Mod_infer_118 : decode b_Mod_infer 118 = .ok (.aload_n 0, 1) := by decide +kernel
theorem d_Mod_infer_119 : decode b_Mod_infer 119 = .ok (.getfield 58, 3) := by decide +kernel
theorem d_Mod_infer_122 : decode b_Mod_infer 122 = .ok (.iload_n 1, 1) := by decide +kernel
theorem d_Mod_infer_123 : decode b_Mod_infer 123 = .ok (.iaload, 1) := by decide +kernel
theorem d_Mod_infer_124 : decode b_Mod_infer 124 = .ok (.iaload, 1) := by decide +kernel
theorem d_Mod_infer_125 : decode b_Mod_infer 125 = .ok (.ireturn, 1) := by decide +kernel
theorem d_Mod_infer_126 : decode b_Mod_infer 126 = .ok (.aload_n 0, 1) := by decide +kernel
theorem d_Mod_infer_127 : decode b_Mod_infer 127 = .ok (.getfield 62, 3) := by decide +kernel
theorem d_Mod_infer_130 : decode b_Mod_infer 130 = .ok (.iload_n 1, 1) := by decide +kernel
theorem d_Mod_infer_131 : decode b_Mod_infer 131 = .ok (.iaload, 1) := by decide +kernel
theorem d_Mod_infer_132 : decode b_Mod_infer 132 = .ok (.ifCond .le 23, 3) := by decide +kernel
theorem d_Mod_infer_135 : decode b_Mod_infer 135 = .ok (.aload_n 0, 1) := by decide +kernel
theorem d_Mod_infer_136 : decode b_Mod_infer 136 = .ok (.getfield 143, 3) := by decide +kernel
theorem d_Mod_infer_139 : decode b_Mod_infer 139 = .ok (.aload_n 0, 1) := by decide +kernel
theorem d_Mod_infer_140 : decode b_Mod_infer 140 = .ok (.getfield 58, 3) := by decide +kernel
theorem d_Mod_infer_143 : decode b_Mod_infer 143 = .ok (.iload_n 1, 1) := by decide +kernel
theorem d_Mod_infer_144 : decode b_Mod_infer 144 = .ok (.iaload, 1) := by decide +kernel
theorem d_Mod_infer_145 : decode b_Mod_infer 145 = .ok (.baload, 1) := by decide +kernel
theorem d_Mod_infer_146 : decode b_Mod_infer 146 = .ok (.ifCond .ne 9, 3) := by decide +kernel
theorem d_Mod_infer_149 : decode b_Mod_infer 149 = .ok (.bipush 9, 2) := by decide +kernel
theorem d_Mod_infer_151 : decode b_Mod_infer 151 = .ok (.invokestatic 323, 3) := by decide +kernel
theorem d_Mod_infer_154 : decode b_Mod_infer 154 = .ok (.athrow, 1) := by decide +kernel
theorem d_Mod_infer_155 : decode b_Mod_infer 155 = .ok (.aload_n 0, 1) := by decide +kernel
theorem d_Mod_infer_156 : decode b_Mod_infer 156 = .ok (.aload_n 0, 1) := by decide +kernel
theorem d_Mod_infer_157 : decode b_Mod_infer 157 = .ok (.getfield 134, 3) := by decide +kernel
theorem d_Mod_infer_160 : decode b_Mod_infer 160 = .ok (.aload_n 0, 1) := by decide +kernel
theorem d_Mod_infer_161 : decode b_Mod_infer 161 = .ok (.getfield 58, 3) := by decide +kernel
theorem d_Mod_infer_164 : decode b_Mod_infer 164 = .ok (.iload_n 1, 1) := by decide +kernel
theorem d_Mod_infer_165 : decode b_Mod_infer 165 = .ok (.iaload, 1) := by decide +kernel
theorem d_Mod_infer_166 : decode b_Mod_infer 166 = .ok (.iaload, 1) := by decide +kernel
theorem d_Mod_infer_167 : decode b_Mod_infer 167 = .ok (.aload_n 0, 1) := by decide +kernel
theorem d_Mod_infer_168 : decode b_Mod_infer 168 = .ok (.getfield 62, 3) := by decide +kernel
theorem d_Mod_infer_171 : decode b_Mod_infer 171 = .ok (.iload_n 1, 1) := by decide +kernel
theorem d_Mod_infer_172 : decode b_Mod_infer 172 = .ok (.iaload, 1) := by decide +kernel
theorem d_Mod_infer_173 : decode b_Mod_infer 173 = .ok (.invokevirtual 461, 3) := by decide +kernel
theorem d_Mod_infer_176 : decode b_Mod_infer 176 = .ok (.istore_n 3, 1) := by decide +kernel
theorem d_Mod_infer_177 : decode b_Mod_infer 177 = .ok (.aload_n 0, 1) := by decide +kernel
theorem d_Mod_infer_178 : decode b_Mod_infer 178 = .ok (.aload_n 0, 1) := by decide +kernel
theorem d_Mod_infer_179 : decode b_Mod_infer 179 = .ok (.getfield 68, 3) := by decide +kernel
theorem d_Mod_infer_182 : decode b_Mod_infer 182 = .ok (.iload_n 3, 1) := by decide +kernel
theorem d_Mod_infer_183 : decode b_Mod_infer 183 = .ok (.iaload, 1) := by decide +kernel
theorem d_Mod_infer_184 : decode b_Mod_infer 184 = .ok (.invokevirtual 434, 3) := by decide +kernel
theorem d_Mod_infer_187 : decode b_Mod_infer 187 = .ok (.iload_n 3, 1) := by decide +kernel
theorem d_Mod_infer_188 : decode b_Mod_infer 188 = .ok (.ireturn, 1) := by decide +kernel
theorem d_Mod_infer_189 : decode b_Mod_infer 189 = .ok (.aload_n 0, 1) := by decide +kernel
theorem d_Mod_infer_190 : decode b_Mod_infer 190 = .ok (.aload_n 0, 1) := by decide +kernel
theorem d_Mod_infer_191 : decode b_Mod_infer 191 = .ok (.getfield 58, 3) := by decide +kernel
theorem d_Mod_infer_194 : decode b_Mod_infer 194 = .ok (.iload_n 1, 1) := by decide +kernel
theorem d_Mod_infer_195 : decode b_Mod_infer 195 = .ok (.iaload, 1) := by decide +kernel
theorem d_Mod_infer_196 : decode b_Mod_infer 196 = .ok (.iload_n 2, 1) := by decide +kernel
theorem d_Mod_infer_197 : decode b_Mod_infer 197 = .ok (.invokevirtual 477, 3) := by decide +kernel
theorem d_Mod_infer_200 : decode b_Mod_infer 200 = .ok (.istore 4, 2) := by decide +kernel
theorem d_Mod_infer_202 : decode b_Mod_infer 202 = .ok (.aload_n 0, 1) := by decide +kernel
theorem d_Mod_infer_203 : decode b_Mod_infer 203 = .ok (.aload_n 0, 1) := by decide +kernel
theorem d_Mod_infer_204 : decode b_Mod_infer 204 = .ok (.aload_n 0, 1) := by decide +kernel
theorem d_Mod_infer_205 : decode b_Mod_infer 205 = .ok (.getfield 62, 3) := by decide +kernel
theorem d_Mod_infer_208 : decode b_Mod_infer 208 = .ok (.iload_n 1, 1) := by decide +kernel
theorem d_Mod_infer_209 : decode b_Mod_infer 209 = .ok (.iaload, 1) := by decide +kernel
theorem d_Mod_infer_210 : decode b_Mod_infer 210 = .ok (.aload_n 0, 1) := by decide +kernel
theorem d_Mod_infer_211 : decode b_Mod_infer 211 = .ok (.aload_n 0, 1) := by decide +kernel
theorem d_Mod_infer_212 : decode b_Mod_infer 212 = .ok (.getfield 58, 3) := by decide +kernel
theorem d_Mod_infer_215 : decode b_Mod_infer 215 = .ok (.iload_n 1, 1) := by decide +kernel
theorem d_Mod_infer_216 : decode b_Mod_infer 216 = .ok (.iaload, 1) := by decide +kernel
theorem d_Mod_infer_217 : decode b_Mod_infer 217 = .ok (.invokevirtual 468, 3) := by decide +kernel
theorem d_Mod_infer_220 : decode b_Mod_infer 220 = .ok (.invokevirtual 471, 3) := by decide +kernel
theorem d_Mod_infer_223 : decode b_Mod_infer 223 = .ok (.iload_n 2, 1) := by decide +kernel
theorem d_Mod_infer_224 : decode b_Mod_infer 224 = .ok (.invokevirtual 477, 3) := by decide +kernel
theorem d_Mod_infer_227 : decode b_Mod_infer 227 = .ok (.istore 5, 2) := by decide +kernel
theorem d_Mod_infer_229 : decode b_Mod_infer 229 = .ok (.aload_n 0, 1) := by decide +kernel
theorem d_Mod_infer_230 : decode b_Mod_infer 230 = .ok (.iload 5, 2) := by decide +kernel
theorem d_Mod_infer_232 : decode b_Mod_infer 232 = .ok (.ifCond .ne 7, 3) := by decide +kernel
theorem d_Mod_infer_235 : decode b_Mod_infer 235 = .ok (.iconst 0, 1) := by decide +kernel
theorem d_Mod_infer_236 : decode b_Mod_infer 236 = .ok (.goto 10, 3) := by decide +kernel
theorem d_Mod_infer_239 : decode b_Mod_infer 239 = .ok (.iload 4, 2) := by decide +kernel
theorem d_Mod_infer_241 : decode b_Mod_infer 241 = .ok (.iload 5, 2) := by decide +kernel
theorem d_Mod_infer_243 : decode b_Mod_infer 243 = .ok (.invokestatic 333, 3) := by decide +kernel
theorem d_Mod_infer_246 : decode b_Mod_infer 246 = .ok (.invokevirtual 356, 3) := by decide +kernel
theorem d_Mod_infer_249 : decode b_Mod_infer 249 = .ok (.ireturn, 1) := by decide +kernel
theorem d_Mod_infer_250 : decode b_Mod_infer 250 = .ok (.aload_n 0, 1) := by decide +kernel
theorem d_Mod_infer_251 : decode b_Mod_infer 251 = .ok (.aload_n 0, 1) := by decide +kernel
theorem d_Mod_infer_252 : decode b_Mod_infer 252 = .ok (.getfield 58, 3) := by decide +kernel
theorem d_Mod_infer_255 : decode b_Mod_infer 255 = .ok (.iload_n 1, 1) := by decide +kernel
theorem d_Mod_infer_256 : decode b_Mod_infer 256 = .ok (.iaload, 1) := by decide +kernel
theorem d_Mod_infer_257 : decode b_Mod_infer 257 = .ok (.iload_n 2, 1) := by decide +kernel
theorem d_Mod_infer_258 : decode b_Mod_infer 258 = .ok (.invokevirtual 477, 3) := by decide +kernel
theorem d_Mod_infer_261 : decode b_Mod_infer 261 = .ok (.pop, 1) := by decide +kernel
theorem d_Mod_infer_262 : decode b_Mod_infer 262 = .ok (.aload_n 0, 1) := by decide +kernel
theorem d_Mod_infer_263 : decode b_Mod_infer 263 = .ok (.aload_n 0, 1) := by decide +kernel
theorem d_Mod_infer_264 : decode b_Mod_infer 264 = .ok (.getfield 58, 3) := by decide +kernel
theorem d_Mod_infer_267 : decode b_Mod_infer 267 = .ok (.iload_n 1, 1) := by decide +kernel
theorem d_Mod_infer_268 : decode b_Mod_infer 268 = .ok (.iaload, 1) := by decide +kernel
theorem d_Mod_infer_269 : decode b_Mod_infer 269 = .ok (.invokevirtual 468, 3) := by decide +kernel
theorem d_Mod_infer_272 : decode b_Mod_infer 272 = .ok (.istore 6, 2) := by decide +kernel
theorem d_Mod_infer_274 : decode b_Mod_infer 274 = .ok (.aload_n 0, 1) := by decide +kernel
theorem d_Mod_infer_275 : decode b_Mod_infer 275 = .ok (.aload_n 0, 1) := by decide +kernel
theorem d_Mod_infer_276 : decode b_Mod_infer 276 = .ok (.aload_n 0, 1) := by decide +kernel
theorem d_Mod_infer_277 : decode b_Mod_infer 277 = .ok (.getfield 62, 3) := by decide +kernel
theorem d_Mod_infer_280 : decode b_Mod_infer 280 = .ok (.iload_n 1, 1) := by decide +kernel
theorem d_Mod_infer_281 : decode b_Mod_infer 281 = .ok (.iaload, 1) := by decide +kernel
theorem d_Mod_infer_282 : decode b_Mod_infer 282 = .ok (.iload 6, 2) := by decide +kernel
theorem d_Mod_infer_284 : decode b_Mod_infer 284 = .ok (.invokevirtual 471, 3) := by decide +kernel
theorem d_Mod_infer_287 : decode b_Mod_infer 287 = .ok (.iload_n 2, 1) := by decide +kernel
theorem d_Mod_infer_288 : decode b_Mod_infer 288 = .ok (.iconst 1, 1) := by decide +kernel
theorem d_Mod_infer_289 : decode b_Mod_infer 289 = .ok (.iadd, 1) := by decide +kernel
theorem d_Mod_infer_290 : decode b_Mod_infer 290 = .ok (.invokevirtual 479, 3) := by decide +kernel
theorem d_Mod_infer_293 : decode b_Mod_infer 293 = .ok (.istore 7, 2) := by decide +kernel
theorem d_Mod_infer_295 : decode b_Mod_infer 295 = .ok (.aload_n 0, 1) := by decide +kernel
theorem d_Mod_infer_296 : decode b_Mod_infer 296 = .ok (.aload_n 0, 1) := by decide +kernel
theorem d_Mod_infer_297 : decode b_Mod_infer 297 = .ok (.bipush 6, 2) := by decide +kernel
theorem d_Mod_infer_299 : decode b_Mod_infer 299 = .ok (.aload_n 0, 1) := by decide +kernel
theorem d_Mod_infer_300 : decode b_Mod_infer 300 = .ok (.getfield 58, 3) := by decide +kernel
theorem d_Mod_infer_303 : decode b_Mod_infer 303 = .ok (.iload_n 1, 1) := by decide +kernel
theorem d_Mod_infer_304 : decode b_Mod_infer 304 = .ok (.iaload, 1) := by decide +kernel
theorem d_Mod_infer_305 : decode b_Mod_infer 305 = .ok (.aload_n 0, 1) := by decide +kernel
theorem d_Mod_infer_306 : decode b_Mod_infer 306 = .ok (.iload 7, 2) := by decide +kernel
theorem d_Mod_infer_308 : decode b_Mod_infer 308 = .ok (.aload_n 0, 1) := by decide +kernel
theorem d_Mod_infer_309 : decode b_Mod_infer 309 = .ok (.getfield 58, 3) := by decide +kernel
theorem d_Mod_infer_312 : decode b_Mod_infer 312 = .ok (.iload 6, 2) := by decide +kernel
theorem d_Mod_infer_314 : decode b_Mod_infer 314 = .ok (.iaload, 1) := by decide +kernel
theorem d_Mod_infer_315 : decode b_Mod_infer 315 = .ok (.invokevirtual 482, 3) := by decide +kernel
theorem d_Mod_infer_318 : decode b_Mod_infer 318 = .ok (.iconst 0, 1) := by decide +kernel
theorem d_Mod_infer_319 : decode b_Mod_infer 319 = .ok (.invokevirtual 336, 3) := by decide +kernel
theorem d_Mod_infer_322 : decode b_Mod_infer 322 = .ok (.invokevirtual 402, 3) := by decide +kernel
theorem d_Mod_infer_325 : decode b_Mod_infer 325 = .ok (.ireturn, 1) := by decide +kernel
theorem d_Mod_infer_326 : decode b_Mod_infer 326 = .ok (.aload_n 0, 1) := by decide +kernel
theorem d_Mod_infer_327 : decode b_Mod_infer 327 = .ok (.aload_n 0, 1) := by decide +kernel
theorem d_Mod_infer_328 : decode b_Mod_infer 328 = .ok (.getfield 58, 3) := by decide +kernel
theorem d_Mod_infer_331 : decode b_Mod_infer 331 = .ok (.iload_n 1, 1) := by decide +kernel
theorem d_Mod_infer_332 : decode b_Mod_infer 332 = .ok (.iaload, 1) := by decide +kernel
theorem d_Mod_infer_333 : decode b_Mod_infer 333 = .ok (.iload_n 2, 1) := by decide +kernel
theorem d_Mod_infer_334 : decode b_Mod_infer 334 = .ok (.invokevirtual 477, 3) := by decide +kernel
theorem d_Mod_infer_337 : decode b_Mod_infer 337 = .ok (.pop, 1) := by decide +kernel
theorem d_Mod_infer_338 : decode b_Mod_infer 338 = .ok (.aload_n 0, 1) := by decide +kernel
theorem d_Mod_infer_339 : decode b_Mod_infer 339 = .ok (.aload_n 0, 1) := by decide +kernel
theorem d_Mod_infer_340 : decode b_Mod_infer 340 = .ok (.getfield 62, 3) := by decide +kernel
theorem d_Mod_infer_343 : decode b_Mod_infer 343 = .ok (.iload_n 1, 1) := by decide +kernel
theorem d_Mod_infer_344 : decode b_Mod_infer 344 = .ok (.iaload, 1) := by decide +kernel
theorem d_Mod_infer_345 : decode b_Mod_infer 345 = .ok (.aload_n 0, 1) := by decide +kernel
theorem d_Mod_infer_346 : decode b_Mod_infer 346 = .ok (.getfield 58, 3) := by decide +kernel
theorem d_Mod_infer_349 : decode b_Mod_infer 349 = .ok (.iload_n 1, 1) := by decide +kernel
theorem d_Mod_infer_350 : decode b_Mod_infer 350 = .ok (.iaload, 1) := by decide +kernel
theorem d_Mod_infer_351 : decode b_Mod_infer 351 = .ok (.iload_n 2, 1) := by decide +kernel
theorem d_Mod_infer_352 : decode b_Mod_infer 352 = .ok (.invokevirtual 485, 3) := by decide +kernel
theorem d_Mod_infer_355 : decode b_Mod_infer 355 = .ok (.aload_n 0, 1) := by decide +kernel
theorem d_Mod_infer_356 : decode b_Mod_infer 356 = .ok (.aload_n 0, 1) := by decide +kernel
theorem d_Mod_infer_357 : decode b_Mod_infer 357 = .ok (.aload_n 0, 1) := by decide +kernel
theorem d_Mod_infer_358 : decode b_Mod_infer 358 = .ok (.getfield 65, 3) := by decide +kernel
theorem d_Mod_infer_361 : decode b_Mod_infer 361 = .ok (.iload_n 1, 1) := by decide +kernel
theorem d_Mod_infer_362 : decode b_Mod_infer 362 = .ok (.iaload, 1) := by decide +kernel
theorem d_Mod_infer_363 : decode b_Mod_infer 363 = .ok (.aload_n 0, 1) := by decide +kernel
theorem d_Mod_infer_364 : decode b_Mod_infer 364 = .ok (.getfield 62, 3) := by decide +kernel
theorem d_Mod_infer_367 : decode b_Mod_infer 367 = .ok (.iload_n 1, 1) := by decide +kernel
theorem d_Mod_infer_368 : decode b_Mod_infer 368 = .ok (.iaload, 1) := by decide +kernel
theorem d_Mod_infer_369 : decode b_Mod_infer 369 = .ok (.invokevirtual 471, 3) := by decide +kernel
theorem d_Mod_infer_372 : decode b_Mod_infer 372 = .ok (.iload_n 2, 1) := by decide +kernel
theorem d_Mod_infer_373 : decode b_Mod_infer 373 = .ok (.iconst 1, 1) := by decide +kernel
theorem d_Mod_infer_374 : decode b_Mod_infer 374 = .ok (.iadd, 1) := by decide +kernel
theorem d_Mod_infer_375 : decode b_Mod_infer 375 = .ok (.invokevirtual 479, 3) := by decide +kernel
theorem d_Mod_infer_378 : decode b_Mod_infer 378 = .ok (.ireturn, 1) := by decide +kernel
theorem d_Mod_infer_379 : decode b_Mod_infer 379 = .ok (.aload_n 0, 1) := by decide +kernel
theorem d_Mod_infer_380 : decode b_Mod_infer 380 = .ok (.iload_n 1, 1) := by decide +kernel
theorem d_Mod_infer_381 : decode b_Mod_infer 381 = .ok (.iload_n 2, 1) := by decide +kernel
theorem d_Mod_infer_382 : decode b_Mod_infer 382 = .ok (.invokevirtual 488, 3) := by decide +kernel
theorem d_Mod_infer_385 : decode b_Mod_infer 385 = .ok (.ireturn, 1) := by decide +kernel
theorem d_Mod_inferApplied_0 : decode b_Mod_inferApplied 0 = .ok (.aload_n 0, 1) := by decide +kernel
theorem d_Mod_inferApplied_1 : decode b_Mod_inferApplied 1 = .ok (.iload_n 1, 1) := by decide +kernel
theorem d_Mod_inferApplied_2 : decode b_Mod_inferApplied 2 = .ok (.invokevirtual 449, 3) := by decide +kernel
theorem d_Mod_inferApplied_5 : decode b_Mod_inferApplied 5 = .ok (.istore_n 3, 1) := by decide +kernel
theorem d_Mod_inferApplied_6 : decode b_Mod_inferApplied 6 = .ok (.aload_n 0, 1) := by decide +kernel
theorem d_Mod_inferApplied_7 : decode b_Mod_inferApplied 7 = .ok (.aload_n 0, 1) := by decide +kernel
theorem d_Mod_inferApplied_8 : decode b_Mod_inferApplied 8 = .ok (.iload_n 1, 1) := by decide +kernel
theorem d_Mod_inferApplied_9 : decode b_Mod_inferApplied 9 = .ok (.invokevirtual 446, 3) := by decide +kernel
theorem d_Mod_inferApplied_12 : decode b_Mod_inferApplied 12 = .ok (.iload_n 2, 1) := by decide +kernel
theorem d_Mod_inferApplied_13 : decode b_Mod_inferApplied 13 = .ok (.iconst 1, 1) := by decide +kernel
theorem d_Mod_inferApplied_14 : decode b_Mod_inferApplied 14 = .ok (.iadd, 1) := by decide +kernel
theorem d_Mod_inferApplied_15 : decode b_Mod_inferApplied 15 = .ok (.invokevirtual 479, 3) := by decide +kernel
theorem d_Mod_inferApplied_18 : decode b_Mod_inferApplied 18 = .ok (.istore 4, 2) := by decide +kernel
theorem d_Mod_inferApplied_20 : decode b_Mod_inferApplied 20 = .ok (.iconst 0, 1) := by decide +kernel
theorem d_Mod_inferApplied_21 : decode b_Mod_inferApplied 21 = .ok (.istore 5, 2) := by decide +kernel
theorem d_Mod_inferApplied_23 : decode b_Mod_inferApplied 23 = .ok (.iload 5, 2) := by decide +kernel
theorem d_Mod_inferApplied_25 : decode b_Mod_inferApplied 25 = .ok (.iload_n 3, 1) := by decide +kernel
theorem d_Mod_inferApplied_26 : decode b_Mod_inferApplied 26 = .ok (.if_icmp .ge 73, 3) := by decide +kernel
theorem d_Mod_inferApplied_29 : decode b_Mod_inferApplied 29 = .ok (.aload_n 0, 1) := by decide +kernel
theorem d_Mod_inferApplied_30 : decode b_Mod_inferApplied 30 = .ok (.iload_n 1, 1) := by decide +kernel
theorem d_Mod_inferApplied_31 : decode b_Mod_inferApplied 31 = .ok (.iload_n 3, 1) := by decide +kernel
theorem d_Mod_inferApplied_32 : decode b_Mod_inferApplied 32 = .ok (.iload 5, 2) := by decide +kernel
theorem d_Mod_inferApplied_34 : decode b_Mod_inferApplied 34 = .ok (.invokevirtual 440, 3) := by decide +kernel
theorem d_Mod_inferApplied_37 : decode b_Mod_inferApplied 37 = .ok (.istore 6, 2) := by decide +kernel
theorem d_Mod_inferApplied_39 : decode b_Mod_inferApplied 39 = .ok (.aload_n 0, 1) := by decide +kernel
theorem d_Mod_inferApplied_40 : decode b_Mod_inferApplied 40 = .ok (.iload 4, 2) := by decide +kernel
theorem d_Mod_inferApplied_42 : decode b_Mod_inferApplied 42 = .ok (.invokevirtual 458, 3) := by decide +kernel
theorem d_Mod_inferApplied_45 : decode b_Mod_inferApplied 45 = .ok (.istore 7, 2) := by decide +kernel
theorem d_Mod_inferApplied_47 : decode b_Mod_inferApplied 47 = .ok (.aload_n 0, 1) := by decide +kernel
theorem d_Mod_inferApplied_48 : decode b_Mod_inferApplied 48 = .ok (.getfield 55, 3) := by decide +kernel
theorem d_Mod_inferApplied_51 : decode b_Mod_inferApplied 51 = .ok (.iload 7, 2) := by decide +kernel
theorem d_Mod_inferApplied_53 : decode b_Mod_inferApplied 53 = .ok (.baload, 1) := by decide +kernel
theorem d_Mod_inferApplied_54 : decode b_Mod_inferApplied 54 = .ok (.bipush 6, 2) := by decide +kernel
theorem d_Mod_inferApplied_56 : decode b_Mod_inferApplied 56 = .ok (.if_icmp .eq 8, 3) := by decide +kernel
theorem d_Mod_inferApplied_59 : decode b_Mod_inferApplied 59 = .ok (.iconst 5, 1) := by decide +kernel
theorem d_Mod_inferApplied_60 : decode b_Mod_inferApplied 60 = .ok (.invokestatic 323, 3) := by decide +kernel
theorem d_Mod_inferApplied_63 : decode b_Mod_inferApplied 63 = .ok (.athrow, 1) := by decide +kernel
theorem d_Mod_inferApplied_64 : decode b_Mod_inferApplied 64 = .ok (.aload_n 0, 1) := by decide +kernel
theorem d_Mod_inferApplied_65 : decode b_Mod_inferApplied 65 = .ok (.iload 6, 2) := by decide +kernel
theorem d_Mod_inferApplied_67 : decode b_Mod_inferApplied 67 = .ok (.aload_n 0, 1) := by decide +kernel
theorem d_Mod_inferApplied_68 : decode b_Mod_inferApplied 68 = .ok (.getfield 58, 3) := by decide +kernel
theorem d_Mod_inferApplied_71 : decode b_Mod_inferApplied 71 = .ok (.iload 7, 2) := by decide +kernel
theorem d_Mod_inferApplied_73 : decode b_Mod_inferApplied 73 = .ok (.iaload, 1) := by decide +kernel
theorem d_Mod_inferApplied_74 : decode b_Mod_inferApplied 74 = .ok (.iload_n 2, 1) := by decide +kernel
theorem d_Mod_inferApplied_75 : decode b_Mod_inferApplied 75 = .ok (.invokevirtual 485, 3) := by decide +kernel
theorem d_Mod_inferApplied_78 : decode b_Mod_inferApplied 78 = .ok (.aload_n 0, 1) := by decide +kernel
theorem d_Mod_inferApplied_79 : decode b_Mod_inferApplied 79 = .ok (.aload_n 0, 1) := by decide +kernel
theorem d_Mod_inferApplied_80 : decode b_Mod_inferApplied 80 = .ok (.getfield 62, 3) := by decide +kernel
theorem d_Mod_inferApplied_83 : decode b_Mod_inferApplied 83 = .ok (.iload 7, 2) := by decide +kernel
theorem d_Mod_inferApplied_85 : decode b_Mod_inferApplied 85 = .ok (.iaload, 1) := by decide +kernel
theorem d_Mod_inferApplied_86 : decode b_Mod_inferApplied 86 = .ok (.iload 6, 2) := by decide +kernel
theorem d_Mod_inferApplied_88 : decode b_Mod_inferApplied 88 = .ok (.invokevirtual 471, 3) := by decide +kernel
theorem d_Mod_inferApplied_91 : decode b_Mod_inferApplied 91 = .ok (.istore 4, 2) := by decide +kernel
theorem d_Mod_inferApplied_93 : decode b_Mod_inferApplied 93 = .ok (.iinc 5 1, 3) := by decide +kernel
theorem d_Mod_inferApplied_96 : decode b_Mod_inferApplied 96 = .ok (.goto (-73), 3) := by decide +kernel
theorem d_Mod_inferApplied_99 : decode b_Mod_inferApplied 99 = .ok (.iload 4, 2) := by decide +kernel
theorem d_Mod_inferApplied_101 : decode b_Mod_inferApplied 101 = .ok (.ireturn, 1) := by decide +kernel
theorem d_Mod_sortOf_0 : decode b_Mod_sortOf 0 = .ok (.aload_n 0, 1) := by decide +kernel
theorem d_Mod_sortOf_1 : decode b_Mod_sortOf 1 = .ok (.aload_n 0, 1) := by decide +kernel
theorem d_Mod_sortOf_2 : decode b_Mod_sortOf 2 = .ok (.iload_n 1, 1) := by decide +kernel
theorem d_Mod_sortOf_3 : decode b_Mod_sortOf 3 = .ok (.iload_n 2, 1) := by decide +kernel
theorem d_Mod_sortOf_4 : decode b_Mod_sortOf 4 = .ok (.iconst 1, 1) := by decide +kernel
theorem d_Mod_sortOf_5 : decode b_Mod_sortOf 5 = .ok (.iadd, 1) := by decide +kernel
theorem d_Mod_sortOf_6 : decode b_Mod_sortOf 6 = .ok (.invokevirtual 479, 3) := by decide +kernel
theorem d_Mod_sortOf_9 : decode b_Mod_sortOf 9 = .ok (.invokevirtual 458, 3) := by decide +kernel
theorem d_Mod_sortOf_12 : decode b_Mod_sortOf 12 = .ok (.istore_n 3, 1) := by decide +kernel
theorem d_Mod_sortOf_13 : decode b_Mod_sortOf 13 = .ok (.aload_n 0, 1) := by decide +kernel
theorem d_Mod_sortOf_14 : decode b_Mod_sortOf 14 = .ok (.getfield 55, 3) := by decide +kernel
theorem d_Mod_sortOf_17 : decode b_Mod_sortOf 17 = .ok (.iload_n 3, 1) := by decide +kernel
theorem d_Mod_sortOf_18 : decode b_Mod_sortOf 18 = .ok (.baload, 1) := by decide +kernel
theorem d_Mod_sortOf_19 : decode b_Mod_sortOf 19 = .ok (.ifCond .eq 9, 3) := by decide +kernel
theorem d_Mod_sortOf_22 : decode b_Mod_sortOf 22 = .ok (.bipush 6, 2) := by decide +kernel
theorem d_Mod_sortOf_24 : decode b_Mod_sortOf 24 = .ok (.invokestatic 323, 3) := by decide +kernel
theorem d_Mod_sortOf_27 : decode b_Mod_sortOf 27 = .ok (.athrow, 1) := by decide +kernel
theorem d_Mod_sortOf_28 : decode b_Mod_sortOf 28 = .ok (.aload_n 0, 1) := by decide +kernel
theorem d_Mod_sortOf_29 : decode b_Mod_sortOf 29 = .ok (.getfield 58, 3) := by decide +kernel
theorem d_Mod_sortOf_32 : decode b_Mod_sortOf 32 = .ok (.iload_n 3, 1) := by decide +kernel
theorem d_Mod_sortOf_33 : decode b_Mod_sortOf 33 = .ok (.iaload, 1) := by decide +kernel
theorem d_Mod_sortOf_34 : decode b_Mod_sortOf 34 = .ok (.ireturn, 1) := by decide +kernel
