theorem d_Mod_sayBinder_0 : decode b_Mod_sayBinder 0 = .ok (.aload_n 0, 1) := by decide +kernel
theorem d_Mod_sayBinder_1 : decode b_Mod_sayBinder 1 = .ok (.aload_n 1, 1) := by decide +kernel
theorem d_Mod_sayBinder_2 : decode b_Mod_sayBinder 2 = .ok (.invokevirtual 585, 3) := by decide +kernel
theorem d_Mod_sayBinder_5 : decode b_Mod_sayBinder 5 = .ok (.aload_n 0, 1) := by decide +kernel
theorem d_Mod_sayBinder_6 : decode b_Mod_sayBinder 6 = .ok (.iload_n 3, 1) := by decide +kernel
theorem d_Mod_sayBinder_7 : decode b_Mod_sayBinder 7 = .ok (.invokevirtual 582, 3) := by decide +kernel
theorem d_Mod_sayBinder_10 : decode b_Mod_sayBinder 10 = .ok (.aload_n 0, 1) := by decide +kernel
theorem d_Mod_sayBinder_11 : decode b_Mod_sayBinder 11 = .ok (.ldc_w 624, 3) := by decide +kernel
theorem d_Mod_sayBinder_14 : decode b_Mod_sayBinder 14 = .ok (.invokevirtual 585, 3) := by decide +kernel
theorem d_Mod_sayBinder_17 : decode b_Mod_sayBinder 17 = .ok (.aload_n 0, 1) := by decide +kernel
theorem d_Mod_sayBinder_18 : decode b_Mod_sayBinder 18 = .ok (.aload_n 0, 1) := by decide +kernel
theorem d_Mod_sayBinder_19 : decode b_Mod_sayBinder 19 = .ok (.getfield 58, 3) := by decide +kernel
theorem d_Mod_sayBinder_22 : decode b_Mod_sayBinder 22 = .ok (.iload_n 2, 1) := by decide +kernel
theorem d_Mod_sayBinder_23 : decode b_Mod_sayBinder 23 = .ok (.iaload, 1) := by decide +kernel
theorem d_Mod_sayBinder_24 : decode b_Mod_sayBinder 24 = .ok (.iload_n 3, 1) := by decide +kernel
theorem d_Mod_sayBinder_25 : decode b_Mod_sayBinder 25 = .ok (.invokevirtual 531, 3) := by decide +kernel
theorem d_Mod_sayBinder_28 : decode b_Mod_sayBinder 28 = .ok (.return_, 1) := by decide +kernel
theorem d_Mod_sayIn_0 : decode b_Mod_sayIn 0 = .ok (.iload_n 3, 1) := by decide +kernel
theorem d_Mod_sayIn_1 : decode b_Mod_sayIn 1 = .ok (.ifCond .eq 9, 3) := by decide +kernel
theorem d_Mod_sayIn_4 : decode b_Mod_sayIn 4 = .ok (.aload_n 0, 1) := by decide +kernel
theorem d_Mod_sayIn_5 : decode b_Mod_sayIn 5 = .ok (.bipush 40, 2) := by decide +kernel
theorem d_Mod_sayIn_7 : decode b_Mod_sayIn 7 = .ok (.invokevirtual 580, 3) := by decide +kernel
theorem d_Mod_sayIn_10 : decode b_Mod_sayIn 10 = .ok (.aload_n 0, 1) := by decide +kernel
theorem d_Mod_sayIn_11 : decode b_Mod_sayIn 11 = .ok (.iload_n 1, 1) := by decide +kernel
theorem d_Mod_sayIn_12 : decode b_Mod_sayIn 12 = .ok (.iload_n 2, 1) := by decide +kernel
theorem d_Mod_sayIn_13 : decode b_Mod_sayIn 13 = .ok (.invokevirtual 531, 3) := by decide +kernel
theorem d_Mod_sayIn_16 : decode b_Mod_sayIn 16 = .ok (.iload_n 3, 1) := by decide +kernel
theorem d_Mod_sayIn_17 : decode b_Mod_sayIn 17 = .ok (.ifCond .eq 9, 3) := by decide +kernel
theorem d_Mod_sayIn_20 : decode b_Mod_sayIn 20 = .ok (.aload_n 0, 1) := by decide +kernel
theorem d_Mod_sayIn_21 : decode b_Mod_sayIn 21 = .ok (.bipush 41, 2) := by decide +kernel
theorem d_Mod_sayIn_23 : decode b_Mod_sayIn 23 = .ok (.invokevirtual 580, 3) := by decide +kernel
theorem d_Mod_sayIn_26 : decode b_Mod_sayIn 26 = .ok (.return_, 1) := by decide +kernel
theorem d_Mod_say_1_0 : decode b_Mod_say_1 0 = .ok (.aload_n 0, 1) := by decide +kernel
theorem d_Mod_say_1_1 : decode b_Mod_say_1 1 = .ok (.getfield 55, 3) := by decide +kernel
theorem d_Mod_say_1_4 : decode b_Mod_say_1 4 = .ok (.iload_n 1, 1) := by decide +kernel
theorem d_Mod_say_1_5 : decode b_Mod_say_1 5 = .ok (.baload, 1) := by decide +kernel
theorem d_Mod_say_1_6 : decode b_Mod_say_1 6 = .ok (.tableswitch 328 0 8 #[50, 63, 76, 328, 112, 328, 219, 296, 135], 50) := by decide +kernel
theorem d_Mod_say_1_56 : decode b_Mod_say_1 56 = .ok (.aload_n 0, 1) := by decide +kernel
theorem d_Mod_say_1_57 : decode b_Mod_say_1 57 = .ok (.aload_n 0, 1) := by decide +kernel
theorem d_Mod_say_1_58 : decode b_Mod_say_1 58 = .ok (.getfield 58, 3) := by decide +kernel
theorem d_Mod_say_1_61 : decode b_Mod_say_1 61 = .ok (.iload_n 1, 1) := by decide +kernel
theorem d_Mod_say_1_62 : decode b_Mod_say_1 62 = .ok (.iaload, 1) := by decide +kernel
theorem d_Mod_say_1_63 : decode b_Mod_say_1 63 = .ok (.invokevirtual 589, 3) := by decide +kernel
theorem d_Mod_say_1_66 : decode b_Mod_say_1 66 = .ok (.goto 315, 3) := by decide +kernel
theorem d_Mod_say_1_69 : decode b_Mod_say_1 69 = .ok (.aload_n 0, 1) := by decide +kernel
theorem d_Mod_say_1_70 : decode b_Mod_say_1 70 = .ok (.aload_n 0, 1) := by decide +kernel
theorem d_Mod_say_1_71 : decode b_Mod_say_1 71 = .ok (.getfield 58, 3) := by decide +kernel
theorem d_Mod_say_1_74 : decode b_Mod_say_1 74 = .ok (.iload_n 1, 1) := by decide +kernel
theorem d_Mod_say_1_75 : decode b_Mod_say_1 75 = .ok (.iaload, 1) := by decide +kernel
theorem d_Mod_say_1_76 : decode b_Mod_say_1 76 = .ok (.invokevirtual 592, 3) := by decide +kernel
theorem d_Mod_say_1_79 : decode b_Mod_say_1 79 = .ok (.goto 302, 3) := by decide +kernel
theorem d_Mod_say_1_82 : decode b_Mod_say_1 82 = .ok (.aload_n 0, 1) := by decide +kernel
theorem d_Mod_say_1_83 : decode b_Mod_say_1 83 = .ok (.ldc_w 595, 3) := by decide +kernel
theorem d_Mod_say_1_86 : decode b_Mod_say_1 86 = .ok (.invokevirtual 585, 3) := by decide +kernel
theorem d_Mod_say_1_89 : decode b_Mod_say_1 89 = .ok (.aload_n 0, 1) := by decide +kernel
theorem d_Mod_say_1_90 : decode b_Mod_say_1 90 = .ok (.aload_n 0, 1) := by decide +kernel
theorem d_Mod_say_1_91 : decode b_Mod_say_1 91 = .ok (.getfield 58, 3) := by decide +kernel
theorem d_Mod_say_1_94 : decode b_Mod_say_1 94 = .ok (.iload_n 1, 1) := by decide +kernel
theorem d_Mod_say_1_95 : decode b_Mod_say_1 95 = .ok (.iaload, 1) := by decide +kernel
theorem d_Mod_say_1_96 : decode b_Mod_say_1 96 = .ok (.invokevirtual 592, 3) := by decide +kernel
theorem d_Mod_say_1_99 : decode b_Mod_say_1 99 = .ok (.aload_n 0, 1) := by decide +kernel
theorem d_Mod_say_1_100 : decode b_Mod_say_1 100 = .ok (.bipush 32, 2) := by decide +kernel
theorem d_Mod_say_1_102 : decode b_Mod_say_1 102 = .ok (.invokevirtual 580, 3) := by decide +kernel
theorem d_Mod_say_1_105 : decode b_Mod_say_1 105 = .ok (.aload_n 0, 1) := by decide +kernel
theorem d_Mod_say_1_106 : decode b_Mod_say_1 106 = .ok (.aload_n 0, 1) := by decide +kernel
theorem d_Mod_say_1_107 : decode b_Mod_say_1 107 = .ok (.getfield 62, 3) := by decide +kernel
theorem d_Mod_say_1_110 : decode b_Mod_say_1 110 = .ok (.iload_n 1, 1) := by decide +kernel
theorem d_Mod_say_1_111 : decode b_Mod_say_1 111 = .ok (.iaload, 1) := by decide +kernel
theorem d_Mod_say_1_112 : decode b_Mod_say_1 112 = .ok (.invokevirtual 589, 3) := by decide +kernel
theorem d_Mod_say_1_115 : decode b_Mod_say_1 115 = .ok (.goto 266, 3) := by decide +kernel
theorem d_Mod_say_1_118 : decode b_Mod_say_1 118 = .ok (.aload_n 0, 1) := by decide +kernel
theorem d_Mod_say_1_119 : decode b_Mod_say_1 119 = .ok (.bipush 120, 2) := by decide +kernel
theorem d_Mod_say_1_121 : decode b_Mod_say_1 121 = .ok (.invokevirtual 580, 3) := by decide +kernel
theorem d_Mod_say_1_124 : decode b_Mod_say_1 124 = .ok (.aload_n 0, 1) := by decide +kernel
theorem d_Mod_say_1_125 : decode b_Mod_say_1 125 = .ok (.iload_n 2, 1) := by decide +kernel
theorem d_Mod_say_1_126 : decode b_Mod_say_1 126 = .ok (.iconst 1, 1) := by decide +kernel
theorem d_Mod_say_1_127 : decode b_Mod_say_1 127 = .ok (.isub, 1) := by decide +kernel
theorem d_Mod_say_1_128 : decode b_Mod_say_1 128 = .ok (.aload_n 0, 1) := by decide +kernel
theorem d_Mod_say_1_129 : decode b_Mod_say_1 129 = .ok (.getfield 58, 3) := by decide +kernel
theorem d_Mod_say_1_132 : decode b_Mod_say_1 132 = .ok (.iload_n 1, 1) := by decide +kernel
theorem d_Mod_say_1_133 : decode b_Mod_say_1 133 = .ok (.iaload, 1) := by decide +kernel
theorem d_Mod_say_1_134 : decode b_Mod_say_1 134 = .ok (.isub, 1) := by decide +kernel
theorem d_Mod_say_1_135 : decode b_Mod_say_1 135 = .ok (.invokevirtual 582, 3) := by decide +kernel
theorem d_Mod_say_1_138 : decode b_Mod_say_1 138 = .ok (.goto 243, 3) := by decide +kernel
theorem d_Mod_say_1_141 : decode b_Mod_say_1 141 = .ok (.aload_n 0, 1) := by decide +kernel
theorem d_Mod_say_1_142 : decode b_Mod_say_1 142 = .ok (.iload_n 1, 1) := by decide +kernel
theorem d_Mod_say_1_143 : decode b_Mod_say_1 143 = .ok (.invokevirtual 449, 3) := by decide +kernel
theorem d_Mod_say_1_146 : decode b_Mod_say_1 146 = .ok (.istore_n 3, 1) := by decide +kernel
theorem d_Mod_say_1_147 : decode b_Mod_say_1 147 = .ok (.aload_n 0, 1) := by decide +kernel
theorem d_Mod_say_1_148 : decode b_Mod_say_1 148 = .ok (.iload_n 1, 1) := by decide +kernel
theorem d_Mod_say_1_149 : decode b_Mod_say_1 149 = .ok (.invokevirtual 446, 3) := by decide +kernel
theorem d_Mod_say_1_152 : decode b_Mod_say_1 152 = .ok (.istore 4, 2) := by decide +kernel
theorem d_Mod_say_1_154 : decode b_Mod_say_1 154 = .ok (.aload_n 0, 1) := by decide +kernel
theorem d_Mod_say_1_155 : decode b_Mod_say_1 155 = .ok (.iload 4, 2) := by decide +kernel
theorem d_Mod_say_1_157 : decode b_Mod_say_1 157 = .ok (.iload_n 2, 1) := by decide +kernel
theorem d_Mod_say_1_158 : decode b_Mod_say_1 158 = .ok (.aload_n 0, 1) := by decide +kernel
theorem d_Mod_say_1_159 : decode b_Mod_say_1 159 = .ok (.iload 4, 2) := by decide +kernel
theorem d_Mod_say_1_161 : decode b_Mod_say_1 161 = .ok (.invokevirtual 597, 3) := by decide +kernel
theorem d_Mod_say_1_164 : decode b_Mod_say_1 164 = .ok (.invokevirtual 600, 3) := by decide +kernel
theorem d_Mod_say_1_167 : decode b_Mod_say_1 167 = .ok (.iconst 0, 1) := by decide +kernel
theorem d_Mod_say_1_168 : decode b_Mod_say_1 168 = .ok (.istore 5, 2) := by decide +kernel
theorem d_Mod_say_1_170 : decode b_Mod_say_1 170 = .ok (.iload 5, 2) := by decide +kernel
theorem d_Mod_say_1_172 : decode b_Mod_say_1 172 = .ok (.iload_n 3, 1) := by decide +kernel
theorem d_Mod_say_1_173 : decode b_Mod_say_1 173 = .ok (.if_icmp .ge 49, 3) := by decide +kernel
theorem d_Mod_say_1_176 : decode b_Mod_say_1 176 = .ok (.aload_n 0, 1) := by decide +kernel
theorem d_Mod_say_1_177 : decode b_Mod_say_1 177 = .ok (.iload_n 1, 1) := by decide +kernel
theorem d_Mod_say_1_178 : decode b_Mod_say_1 178 = .ok (.iload_n 3, 1) := by decide +kernel
theorem d_Mod_say_1_179 : decode b_Mod_say_1 179 = .ok (.iload 5, 2) := by decide +kernel
theorem d_Mod_say_1_181 : decode b_Mod_say_1 181 = .ok (.invokevirtual 440, 3) := by decide +kernel
theorem d_Mod_say_1_184 : decode b_Mod_say_1 184 = .ok (.istore 6, 2) := by decide +kernel
theorem d_Mod_say_1_186 : decode b_Mod_say_1 186 = .ok (.aload_n 0, 1) := by decide +kernel
theorem d_Mod_say_1_187 : decode b_Mod_say_1 187 = .ok (.bipush 32, 2) := by decide +kernel
theorem d_Mod_say_1_189 : decode b_Mod_say_1 189 = .ok (.invokevirtual 580, 3) := by decide +kernel
theorem d_Mod_say_1_192 : decode b_Mod_say_1 192 = .ok (.aload_n 0, 1) := by decide +kernel
theorem d_Mod_say_1_193 : decode b_Mod_say_1 193 = .ok (.iload 6, 2) := by decide +kernel
theorem d_Mod_say_1_195 : decode b_Mod_say_1 195 = .ok (.iload_n 2, 1) := by decide +kernel
theorem d_Mod_say_1_196 : decode b_Mod_say_1 196 = .ok (.aload_n 0, 1) := by decide +kernel
theorem d_Mod_say_1_197 : decode b_Mod_say_1 197 = .ok (.getfield 55, 3) := by decide +kernel
theorem d_Mod_say_1_200 : decode b_Mod_say_1 200 = .ok (.iload 6, 2) := by decide +kernel
theorem d_Mod_say_1_202 : decode b_Mod_say_1 202 = .ok (.baload, 1) := by decide +kernel
theorem d_Mod_say_1_203 : decode b_Mod_say_1 203 = .ok (.bipush 6, 2) := by decide +kernel
theorem d_Mod_say_1_205 : decode b_Mod_say_1 205 = .ok (.if_icmp .lt 7, 3) := by decide +kernel
theorem d_Mod_say_1_208 : decode b_Mod_say_1 208 = .ok (.iconst 1, 1) := by decide +kernel
theorem d_Mod_say_1_209 : decode b_Mod_say_1 209 = .ok (.goto 4, 3) := by decide +kernel
theorem d_Mod_say_1_212 : decode b_Mod_say_1 212 = .ok (.iconst 0, 1) := by decide +kernel
theorem d_Mod_say_1_213 : decode b_Mod_say_1 213 = .ok (.invokevirtual 600, 3) := by decide +kernel
theorem d_Mod_say_1_216 : decode b_Mod_say_1 216 = .ok (.iinc 5 1, 3) := by decide +kernel
theorem d_Mod_say_1_219 : decode b_Mod_say_1 219 = .ok (.goto (-49), 3) := by decide +kernel
theorem d_Mod_say_1_222 : decode b_Mod_say_1 222 = .ok (.goto 159, 3) := by decide +kernel
theorem d_Mod_say_1_225 : decode b_Mod_say_1 225 = .ok (.aload_n 0, 1) := by decide +kernel
theorem d_Mod_say_1_226 : decode b_Mod_say_1 226 = .ok (.aload_n 0, 1) := by decide +kernel
theorem d_Mod_say_1_227 : decode b_Mod_say_1 227 = .ok (.getfield 62, 3) := by decide +kernel
theorem d_Mod_say_1_230 : decode b_Mod_say_1 230 = .ok (.iload_n 1, 1) := by decide +kernel
theorem d_Mod_say_1_231 : decode b_Mod_say_1 231 = .ok (.iaload, 1) := by decide +kernel
theorem d_Mod_say_1_232 : decode b_Mod_say_1 232 = .ok (.iconst 0, 1) := by decide +kernel
theorem d_Mod_say_1_233 : decode b_Mod_say_1 233 = .ok (.invokevirtual 370, 3) := by decide +kernel
theorem d_Mod_say_1_236 : decode b_Mod_say_1 236 = .ok (.ifCond .eq 22, 3) := by decide +kernel
theorem d_Mod_say_1_239 : decode b_Mod_say_1 239 = .ok (.aload_n 0, 1) := by decide +kernel
theorem d_Mod_say_1_240 : decode b_Mod_say_1 240 = .ok (.ldc_w 604, 3) := by decide +kernel
theorem d_Mod_say_1_243 : decode b_Mod_say_1 243 = .ok (.iload_n 1, 1) := by decide +kernel
theorem d_Mod_say_1_244 : decode b_Mod_say_1 244 = .ok (.iload_n 2, 1) := by decide +kernel
theorem d_Mod_say_1_245 : decode b_Mod_say_1 245 = .ok (.invokevirtual 606, 3) := by decide +kernel
theorem d_Mod_say_1_248 : decode b_Mod_say_1 248 = .ok (.aload_n 0, 1) := by decide +kernel
theorem d_Mod_say_1_249 : decode b_Mod_say_1 249 = .ok (.ldc_w 610, 3) := by decide +kernel
theorem d_Mod_say_1_252 : decode b_Mod_say_1 252 = .ok (.invokevirtual 585, 3) := by decide +kernel
theorem d_Mod_say_1_255 : decode b_Mod_say_1 255 = .ok (.goto 31, 3) := by decide +kernel
theorem d_Mod_say_1_258 : decode b_Mod_say_1 258 = .ok (.aload_n 0, 1) := by decide +kernel
theorem d_Mod_say_1_259 : decode b_Mod_say_1 259 = .ok (.aload_n 0, 1) := by decide +kernel
theorem d_Mod_say_1_260 : decode b_Mod_say_1 260 = .ok (.getfield 58, 3) := by decide +kernel
theorem d_Mod_say_1_263 : decode b_Mod_say_1 263 = .ok (.iload_n 1, 1) := by decide +kernel
theorem d_Mod_say_1_264 : decode b_Mod_say_1 264 = .ok (.iaload, 1) := by decide +kernel
theorem d_Mod_say_1_265 : decode b_Mod_say_1 265 = .ok (.iload_n 2, 1) := by decide +kernel
theorem d_Mod_say_1_266 : decode b_Mod_say_1 266 = .ok (.aload_n 0, 1) := by decide +kernel
theorem d_Mod_say_1_267 : decode b_Mod_say_1 267 = .ok (.aload_n 0, 1) := by decide +kernel
theorem d_Mod_say_1_268 : decode b_Mod_say_1 268 = .ok (.getfield 58, 3) := by decide +kernel
theorem d_Mod_say_1_271 : decode b_Mod_say_1 271 = .ok (.iload_n 1, 1) := by decide +kernel
theorem d_Mod_say_1_272 : decode b_Mod_say_1 272 = .ok (.iaload, 1) := by decide +kernel
theorem d_Mod_say_1_273 : decode b_Mod_say_1 273 = .ok (.invokevirtual 597, 3) := by decide +kernel
theorem d_Mod_say_1_276 : decode b_Mod_say_1 276 = .ok (.invokevirtual 600, 3) := by decide +kernel
theorem d_Mod_say_1_279 : decode b_Mod_say_1 279 = .ok (.aload_n 0, 1) := by decide +kernel
theorem d_Mod_say_1_280 : decode b_Mod_say_1 280 = .ok (.ldc_w 612, 3) := by decide +kernel
theorem d_Mod_say_1_283 : decode b_Mod_say_1 283 = .ok (.invokevirtual 585, 3) := by decide +kernel
theorem d_Mod_say_1_286 : decode b_Mod_say_1 286 = .ok (.aload_n 0, 1) := by decide +kernel
theorem d_Mod_say_1_287 : decode b_Mod_say_1 287 = .ok (.aload_n 0, 1) := by decide +kernel
theorem d_Mod_say_1_288 : decode b_Mod_say_1 288 = .ok (.getfield 62, 3) := by decide +kernel
theorem d_Mod_say_1_291 : decode b_Mod_say_1 291 = .ok (.iload_n 1, 1) := by decide +kernel
theorem d_Mod_say_1_292 : decode b_Mod_say_1 292 = .ok (.iaload, 1) := by decide +kernel
theorem d_Mod_say_1_293 : decode b_Mod_say_1 293 = .ok (.iload_n 2, 1) := by decide +kernel
theorem d_Mod_say_1_294 : decode b_Mod_say_1 294 = .ok (.iconst 1, 1) := by decide +kernel
theorem d_Mod_say_1_295 : decode b_Mod_say_1 295 = .ok (.iadd, 1) := by decide +kernel
theorem d_Mod_say_1_296 : decode b_Mod_say_1 296 = .ok (.invokevirtual 531, 3) := by decide +kernel
theorem d_Mod_say_1_299 : decode b_Mod_say_1 299 = .ok (.goto 82, 3) := by decide +kernel
theorem d_Mod_say_1_302 : decode b_Mod_say_1 302 = .ok (.aload_n 0, 1) := by decide +kernel
theorem d_Mod_say_1_303 : decode b_Mod_say_1 303 = .ok (.ldc_w 614, 3) := by decide +kernel
theorem d_Mod_say_1_306 : decode b_Mod_say_1 306 = .ok (.iload_n 1, 1) := by decide +kernel
theorem d_Mod_say_1_307 : decode b_Mod_say_1 307 = .ok (.iload_n 2, 1) := by decide +kernel
theorem d_Mod_say_1_308 : decode b_Mod_say_1 308 = .ok (.invokevirtual 606, 3) := by decide +kernel
theorem d_Mod_say_1_311 : decode b_Mod_say_1 311 = .ok (.aload_n 0, 1) := by decide +kernel
theorem d_Mod_say_1_312 : decode b_Mod_say_1 312 = .ok (.ldc_w 616, 3) := by decide +kernel
theorem d_Mod_say_1_315 : decode b_Mod_say_1 315 = .ok (.invokevirtual 585, 3) := by decide +kernel
theorem d_Mod_say_1_318 : decode b_Mod_say_1 318 = .ok (.aload_n 0, 1) := by decide +kernel
theorem d_Mod_say_1_319 : decode b_Mod_say_1 319 = .ok (.aload_n 0, 1) := by decide +kernel
theorem d_Mod_say_1_320 : decode b_Mod_say_1 320 = .ok (.getfield 62, 3) := by decide +kernel
theorem d_Mod_say_1_323 : decode b_Mod_say_1 323 = .ok (.iload_n 1, 1) := by decide +kernel
theorem d_Mod_say_1_324 : decode b_Mod_say_1 324 = .ok (.iaload, 1) := by decide +kernel
theorem d_Mod_say_1_325 : decode b_Mod_say_1 325 = .ok (.iload_n 2, 1) := by decide +kernel
theorem d_Mod_say_1_326 : decode b_Mod_say_1 326 = .ok (.iconst 1, 1) := by decide +kernel
theorem d_Mod_say_1_327 : decode b_Mod_say_1 327 = .ok (.iadd, 1) := by decide +kernel
theorem d_Mod_say_1_328 : decode b_Mod_say_1 328 = .ok (.invokevirtual 531, 3) := by decide +kernel
theorem d_Mod_say_1_331 : decode b_Mod_say_1 331 = .ok (.goto 50, 3) := by decide +kernel
theorem d_Mod_say_1_334 : decode b_Mod_say_1 334 = .ok (.aload_n 0, 1) := by decide +kernel
theorem d_Mod_say_1_335 : decode b_Mod_say_1 335 = .ok (.ldc_w 618, 3) := by decide +kernel
theorem d_Mod_say_1_338 : decode b_Mod_say_1 338 = .ok (.iload_n 1, 1) := by decide +kernel
theorem d_Mod_say_1_339 : decode b_Mod_say_1 339 = .ok (.iload_n 2, 1) := by decide +kernel
theorem d_Mod_say_1_340 : decode b_Mod_say_1 340 = .ok (.invokevirtual 606, 3) := by decide +kernel
theorem d_Mod_say_1_343 : decode b_Mod_say_1 343 = .ok (.aload_n 0, 1) := by decide +kernel
theorem d_Mod_say_1_344 : decode b_Mod_say_1 344 = .ok (.ldc_w 620, 3) := by decide +kernel
theorem d_Mod_say_1_347 : decode b_Mod_say_1 347 = .ok (.invokevirtual 585, 3) := by decide +kernel
theorem d_Mod_say_1_350 : decode b_Mod_say_1 350 = .ok (.aload_n 0, 1) := by decide +kernel
theorem d_Mod_say_1_351 : decode b_Mod_say_1 351 = .ok (.aload_n 0, 1) := by decide +kernel
theorem d_Mod_say_1_352 : decode b_Mod_say_1 352 = .ok (.getfield 62, 3) := by decide +kernel
theorem d_Mod_say_1_355 : decode b_Mod_say_1 355 = .ok (.iload_n 1, 1) := by decide +kernel
theorem d_Mod_say_1_356 : decode b_Mod_say_1 356 = .ok (.iaload, 1) := by decide +kernel
theorem d_Mod_say_1_357 : decode b_Mod_say_1 357 = .ok (.iload_n 2, 1) := by decide +kernel
theorem d_Mod_say_1_358 : decode b_Mod_say_1 358 = .ok (.invokevirtual 531, 3) := by decide +kernel
theorem d_Mod_say_1_361 : decode b_Mod_say_1 361 = .ok (.aload_n 0, 1) := by decide +kernel
theorem d_Mod_say_1_362 : decode b_Mod_say_1 362 = .ok (.ldc_w 622, 3) := by decide +kernel
theorem d_Mod_say_1_365 : decode b_Mod_say_1 365 = .ok (.invokevirtual 585, 3) := by decide +kernel
theorem d_Mod_say_1_368 : decode b_Mod_say_1 368 = .ok (.aload_n 0, 1) := by decide +kernel
theorem d_Mod_say_1_369 : decode b_Mod_say_1 369 = .ok (.aload_n 0, 1) := by decide +kernel
theorem d_Mod_say_1_370 : decode b_Mod_say_1 370 = .ok (.getfield 65, 3) := by decide +kernel
theorem d_Mod_say_1_373 : decode b_Mod_say_1 373 = .ok (.iload_n 1, 1) := by decide +kernel
theorem d_Mod_say_1_374 : decode b_Mod_say_1 374 = .ok (.iaload, 1) := by decide +kernel
theorem d_Mod_say_1_375 : decode b_Mod_say_1 375 = .ok (.iload_n 2, 1) := by decide +kernel
theorem d_Mod_say_1_376 : decode b_Mod_say_1 376 = .ok (.iconst 1, 1) := by decide +kernel
theorem d_Mod_say_1_377 : decode b_Mod_say_1 377 = .ok (.iadd, 1) := by decide +kernel
theorem d_Mod_say_1_378 : decode b_Mod_say_1 378 = .ok (.invokevirtual 531, 3) := by decide +kernel
theorem d_Mod_say_1_381 : decode b_Mod_say_1 381 = .ok (.return_, 1) := by decide +kernel
