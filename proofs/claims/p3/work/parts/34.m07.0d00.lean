theorem d_Mod_recursion_0 : decode b_Mod_recursion 0 = .ok (.aload_n 0, 1) := by decide +kernel
theorem d_Mod_recursion_1 : decode b_Mod_recursion 1 = .ok (.getfield 58, 3) := by decide +kernel
theorem d_Mod_recursion_4 : decode b_Mod_recursion 4 = .ok (.iload_n 2, 1) := by decide +kernel
theorem d_Mod_recursion_5 : decode b_Mod_recursion 5 = .ok (.iaload, 1) := by decide +kernel
theorem d_Mod_recursion_6 : decode b_Mod_recursion 6 = .ok (.istore 4, 2) := by decide +kernel
theorem d_Mod_recursion_8 : decode b_Mod_recursion 8 = .ok (.aload_n 0, 1) := by decide +kernel
theorem d_Mod_recursion_9 : decode b_Mod_recursion 9 = .ok (.getfield 116, 3) := by decide +kernel
theorem d_Mod_recursion_12 : decode b_Mod_recursion 12 = .ok (.iload 4, 2) := by decide +kernel
theorem d_Mod_recursion_14 : decode b_Mod_recursion 14 = .ok (.iaload, 1) := by decide +kernel
theorem d_Mod_recursion_15 : decode b_Mod_recursion 15 = .ok (.iconst 1, 1) := by decide +kernel
theorem d_Mod_recursion_16 : decode b_Mod_recursion 16 = .ok (.iadd, 1) := by decide +kernel
theorem d_Mod_recursion_17 : decode b_Mod_recursion 17 = .ok (.aload_n 0, 1) := by decide +kernel
theorem d_Mod_recursion_18 : decode b_Mod_recursion 18 = .ok (.getfield 122, 3) := by decide +kernel
theorem d_Mod_recursion_21 : decode b_Mod_recursion 21 = .ok (.iload 4, 2) := by decide +kernel
theorem d_Mod_recursion_23 : decode b_Mod_recursion 23 = .ok (.iaload, 1) := by decide +kernel
theorem d_Mod_recursion_24 : decode b_Mod_recursion 24 = .ok (.iadd, 1) := by decide +kernel
theorem d_Mod_recursion_25 : decode b_Mod_recursion 25 = .ok (.istore 5, 2) := by decide +kernel
theorem d_Mod_recursion_27 : decode b_Mod_recursion 27 = .ok (.iload 5, 2) := by decide +kernel
theorem d_Mod_recursion_29 : decode b_Mod_recursion 29 = .ok (.aload_n 0, 1) := by decide +kernel
theorem d_Mod_recursion_30 : decode b_Mod_recursion 30 = .ok (.getfield 119, 3) := by decide +kernel
theorem d_Mod_recursion_33 : decode b_Mod_recursion 33 = .ok (.iload 4, 2) := by decide +kernel
theorem d_Mod_recursion_35 : decode b_Mod_recursion 35 = .ok (.iaload, 1) := by decide +kernel
theorem d_Mod_recursion_36 : decode b_Mod_recursion 36 = .ok (.iadd, 1) := by decide +kernel
theorem d_Mod_recursion_37 : decode b_Mod_recursion 37 = .ok (.istore 6, 2) := by decide +kernel
theorem d_Mod_recursion_39 : decode b_Mod_recursion 39 = .ok (.iload_n 3, 1) := by decide +kernel
theorem d_Mod_recursion_40 : decode b_Mod_recursion 40 = .ok (.iload 6, 2) := by decide +kernel
theorem d_Mod_recursion_42 : decode b_Mod_recursion 42 = .ok (.if_icmp .gt 5, 3) := by decide +kernel
theorem d_Mod_recursion_45 : decode b_Mod_recursion 45 = .ok (.iconst (-1), 1) := by decide +kernel
theorem d_Mod_recursion_46 : decode b_Mod_recursion 46 = .ok (.ireturn, 1) := by decide +kernel
theorem d_Mod_recursion_47 : decode b_Mod_recursion 47 = .ok (.aload_n 0, 1) := by decide +kernel
theorem d_Mod_recursion_48 : decode b_Mod_recursion 48 = .ok (.getfield 193, 3) := by decide +kernel
theorem d_Mod_recursion_51 : decode b_Mod_recursion 51 = .ok (.bipush 60, 2) := by decide +kernel
theorem d_Mod_recursion_53 : decode b_Mod_recursion 53 = .ok (.if_icmp .ne 9, 3) := by decide +kernel
theorem d_Mod_recursion_56 : decode b_Mod_recursion 56 = .ok (.bipush 10, 2) := by decide +kernel
theorem d_Mod_recursion_58 : decode b_Mod_recursion 58 = .ok (.invokestatic 323, 3) := by decide +kernel
theorem d_Mod_recursion_61 : decode b_Mod_recursion 61 = .ok (.athrow, 1) := by decide +kernel
theorem d_Mod_recursion_62 : decode b_Mod_recursion 62 = .ok (.aload_n 0, 1) := by decide +kernel
theorem d_Mod_recursion_63 : decode b_Mod_recursion 63 = .ok (.dup, 1) := by decide +kernel
theorem d_Mod_recursion_64 : decode b_Mod_recursion 64 = .ok (.getfield 193, 3) := by decide +kernel
theorem d_Mod_recursion_67 : decode b_Mod_recursion 67 = .ok (.iconst 1, 1) := by decide +kernel
theorem d_Mod_recursion_68 : decode b_Mod_recursion 68 = .ok (.iadd, 1) := by decide +kernel
theorem d_Mod_recursion_69 : decode b_Mod_recursion 69 = .ok (.putfield 193, 3) := by decide +kernel
theorem d_Mod_recursion_72 : decode b_Mod_recursion 72 = .ok (.aload_n 0, 1) := by decide +kernel
theorem d_Mod_recursion_73 : decode b_Mod_recursion 73 = .ok (.aload_n 0, 1) := by decide +kernel
theorem d_Mod_recursion_74 : decode b_Mod_recursion 74 = .ok (.iload_n 1, 1) := by decide +kernel
theorem d_Mod_recursion_75 : decode b_Mod_recursion 75 = .ok (.iload_n 3, 1) := by decide +kernel
theorem d_Mod_recursion_76 : decode b_Mod_recursion 76 = .ok (.iload 6, 2) := by decide +kernel
theorem d_Mod_recursion_78 : decode b_Mod_recursion 78 = .ok (.invokevirtual 440, 3) := by decide +kernel
theorem d_Mod_recursion_81 : decode b_Mod_recursion 81 = .ok (.invokevirtual 458, 3) := by decide +kernel
theorem d_Mod_recursion_84 : decode b_Mod_recursion 84 = .ok (.istore 7, 2) := by decide +kernel
theorem d_Mod_recursion_86 : decode b_Mod_recursion 86 = .ok (.aload_n 0, 1) := by decide +kernel
theorem d_Mod_recursion_87 : decode b_Mod_recursion 87 = .ok (.dup, 1) := by decide +kernel
theorem d_Mod_recursion_88 : decode b_Mod_recursion 88 = .ok (.getfield 193, 3) := by decide +kernel
theorem d_Mod_recursion_91 : decode b_Mod_recursion 91 = .ok (.iconst 1, 1) := by decide +kernel
theorem d_Mod_recursion_92 : decode b_Mod_recursion 92 = .ok (.isub, 1) := by decide +kernel
theorem d_Mod_recursion_93 : decode b_Mod_recursion 93 = .ok (.putfield 193, 3) := by decide +kernel
theorem d_Mod_recursion_96 : decode b_Mod_recursion 96 = .ok (.aload_n 0, 1) := by decide +kernel
theorem d_Mod_recursion_97 : decode b_Mod_recursion 97 = .ok (.iload 7, 2) := by decide +kernel
theorem d_Mod_recursion_99 : decode b_Mod_recursion 99 = .ok (.invokevirtual 446, 3) := by decide +kernel
theorem d_Mod_recursion_102 : decode b_Mod_recursion 102 = .ok (.istore 8, 2) := by decide +kernel
theorem d_Mod_recursion_104 : decode b_Mod_recursion 104 = .ok (.aload_n 0, 1) := by decide +kernel
theorem d_Mod_recursion_105 : decode b_Mod_recursion 105 = .ok (.iload 7, 2) := by decide +kernel
theorem d_Mod_recursion_107 : decode b_Mod_recursion 107 = .ok (.invokevirtual 449, 3) := by decide +kernel
theorem d_Mod_recursion_110 : decode b_Mod_recursion 110 = .ok (.istore 9, 2) := by decide +kernel
theorem d_Mod_recursion_112 : decode b_Mod_recursion 112 = .ok (.aload_n 0, 1) := by decide +kernel
theorem d_Mod_recursion_113 : decode b_Mod_recursion 113 = .ok (.getfield 55, 3) := by decide +kernel
theorem d_Mod_recursion_116 : decode b_Mod_recursion 116 = .ok (.iload 8, 2) := by decide +kernel
theorem d_Mod_recursion_118 : decode b_Mod_recursion 118 = .ok (.baload, 1) := by decide +kernel
theorem d_Mod_recursion_119 : decode b_Mod_recursion 119 = .ok (.iconst 1, 1) := by decide +kernel
theorem d_Mod_recursion_120 : decode b_Mod_recursion 120 = .ok (.if_icmp .ne 61, 3) := by decide +kernel
theorem d_Mod_recursion_123 : decode b_Mod_recursion 123 = .ok (.aload_n 0, 1) := by decide +kernel
theorem d_Mod_recursion_124 : decode b_Mod_recursion 124 = .ok (.getfield 107, 3) := by decide +kernel
theorem d_Mod_recursion_127 : decode b_Mod_recursion 127 = .ok (.aload_n 0, 1) := by decide +kernel
theorem d_Mod_recursion_128 : decode b_Mod_recursion 128 = .ok (.getfield 58, 3) := by decide +kernel
theorem d_Mod_recursion_131 : decode b_Mod_recursion 131 = .ok (.iload 8, 2) := by decide +kernel
theorem d_Mod_recursion_133 : decode b_Mod_recursion 133 = .ok (.iaload, 1) := by decide +kernel
theorem d_Mod_recursion_134 : decode b_Mod_recursion 134 = .ok (.iaload, 1) := by decide +kernel
theorem d_Mod_recursion_135 : decode b_Mod_recursion 135 = .ok (.iconst 4, 1) := by decide +kernel
theorem d_Mod_recursion_136 : decode b_Mod_recursion 136 = .ok (.if_icmp .ne 45, 3) := by decide +kernel
theorem d_Mod_recursion_139 : decode b_Mod_recursion 139 = .ok (.aload_n 0, 1) := by decide +kernel
theorem d_Mod_recursion_140 : decode b_Mod_recursion 140 = .ok (.getfield 140, 3) := by decide +kernel
theorem d_Mod_recursion_143 : decode b_Mod_recursion 143 = .ok (.aload_n 0, 1) := by decide +kernel
theorem d_Mod_recursion_144 : decode b_Mod_recursion 144 = .ok (.getfield 58, 3) := by decide +kernel
theorem d_Mod_recursion_147 : decode b_Mod_recursion 147 = .ok (.iload 8, 2) := by decide +kernel
theorem d_Mod_recursion_149 : decode b_Mod_recursion 149 = .ok (.iaload, 1) := by decide +kernel
theorem d_Mod_recursion_150 : decode b_Mod_recursion 150 = .ok (.iaload, 1) := by decide +kernel
theorem d_Mod_recursion_151 : decode b_Mod_recursion 151 = .ok (.iload 4, 2) := by decide +kernel
theorem d_Mod_recursion_153 : decode b_Mod_recursion 153 = .ok (.if_icmp .ne 28, 3) := by decide +kernel
theorem d_Mod_recursion_156 : decode b_Mod_recursion 156 = .ok (.iload 9, 2) := by decide +kernel
theorem d_Mod_recursion_158 : decode b_Mod_recursion 158 = .ok (.aload_n 0, 1) := by decide +kernel
theorem d_Mod_recursion_159 : decode b_Mod_recursion 159 = .ok (.getfield 116, 3) := by decide +kernel
theorem d_Mod_recursion_162 : decode b_Mod_recursion 162 = .ok (.iload 4, 2) := by decide +kernel
theorem d_Mod_recursion_164 : decode b_Mod_recursion 164 = .ok (.iaload, 1) := by decide +kernel
theorem d_Mod_recursion_165 : decode b_Mod_recursion 165 = .ok (.aload_n 0, 1) := by decide +kernel
theorem d_Mod_recursion_166 : decode b_Mod_recursion 166 = .ok (.getfield 125, 3) := by decide +kernel
theorem d_Mod_recursion_169 : decode b_Mod_recursion 169 = .ok (.aload_n 0, 1) := by decide +kernel
theorem d_Mod_recursion_170 : decode b_Mod_recursion 170 = .ok (.getfield 58, 3) := by decide +kernel
theorem d_Mod_recursion_173 : decode b_Mod_recursion 173 = .ok (.iload 8, 2) := by decide +kernel
theorem d_Mod_recursion_175 : decode b_Mod_recursion 175 = .ok (.iaload, 1) := by decide +kernel
theorem d_Mod_recursion_176 : decode b_Mod_recursion 176 = .ok (.iaload, 1) := by decide +kernel
theorem d_Mod_recursion_177 : decode b_Mod_recursion 177 = .ok (.iadd, 1) := by decide +kernel
theorem d_Mod_recursion_178 : decode b_Mod_recursion 178 = .ok (.if_icmp .eq 5, 3) := by decide +kernel
theorem d_Mod_recursion_181 : decode b_Mod_recursion 181 = .ok (.iconst (-1), 1) := by decide +kernel
theorem d_Mod_recursion_182 : decode b_Mod_recursion 182 = .ok (.ireturn, 1) := by decide +kernel
theorem d_Mod_recursion_183 : decode b_Mod_recursion 183 = .ok (.aload_n 0, 1) := by decide +kernel
theorem d_Mod_recursion_184 : decode b_Mod_recursion 184 = .ok (.aload_n 0, 1) := by decide +kernel
theorem d_Mod_recursion_185 : decode b_Mod_recursion 185 = .ok (.getfield 137, 3) := by decide +kernel
theorem d_Mod_recursion_188 : decode b_Mod_recursion 188 = .ok (.aload_n 0, 1) := by decide +kernel
theorem d_Mod_recursion_189 : decode b_Mod_recursion 189 = .ok (.getfield 58, 3) := by decide +kernel
theorem d_Mod_recursion_192 : decode b_Mod_recursion 192 = .ok (.iload 8, 2) := by decide +kernel
theorem d_Mod_recursion_194 : decode b_Mod_recursion 194 = .ok (.iaload, 1) := by decide +kernel
theorem d_Mod_recursion_195 : decode b_Mod_recursion 195 = .ok (.iaload, 1) := by decide +kernel
theorem d_Mod_recursion_196 : decode b_Mod_recursion 196 = .ok (.aload_n 0, 1) := by decide +kernel
theorem d_Mod_recursion_197 : decode b_Mod_recursion 197 = .ok (.getfield 62, 3) := by decide +kernel
theorem d_Mod_recursion_200 : decode b_Mod_recursion 200 = .ok (.iload_n 2, 1) := by decide +kernel
theorem d_Mod_recursion_201 : decode b_Mod_recursion 201 = .ok (.iaload, 1) := by decide +kernel
theorem d_Mod_recursion_202 : decode b_Mod_recursion 202 = .ok (.invokevirtual 461, 3) := by decide +kernel
theorem d_Mod_recursion_205 : decode b_Mod_recursion 205 = .ok (.istore 10, 2) := by decide +kernel
theorem d_Mod_recursion_207 : decode b_Mod_recursion 207 = .ok (.iconst 0, 1) := by decide +kernel
theorem d_Mod_recursion_208 : decode b_Mod_recursion 208 = .ok (.istore 11, 2) := by decide +kernel
theorem d_Mod_recursion_210 : decode b_Mod_recursion 210 = .ok (.iload 11, 2) := by decide +kernel
theorem d_Mod_recursion_212 : decode b_Mod_recursion 212 = .ok (.iload 5, 2) := by decide +kernel
theorem d_Mod_recursion_214 : decode b_Mod_recursion 214 = .ok (.if_icmp .ge 25, 3) := by decide +kernel
theorem d_Mod_recursion_217 : decode b_Mod_recursion 217 = .ok (.aload_n 0, 1) := by decide +kernel
theorem d_Mod_recursion_218 : decode b_Mod_recursion 218 = .ok (.iload 10, 2) := by decide +kernel
theorem d_Mod_recursion_220 : decode b_Mod_recursion 220 = .ok (.aload_n 0, 1) := by decide +kernel
theorem d_Mod_recursion_221 : decode b_Mod_recursion 221 = .ok (.iload_n 1, 1) := by decide +kernel
theorem d_Mod_recursion_222 : decode b_Mod_recursion 222 = .ok (.iload_n 3, 1) := by decide +kernel
theorem d_Mod_recursion_223 : decode b_Mod_recursion 223 = .ok (.iload 11, 2) := by decide +kernel
theorem d_Mod_recursion_225 : decode b_Mod_recursion 225 = .ok (.invokevirtual 440, 3) := by decide +kernel
theorem d_Mod_recursion_228 : decode b_Mod_recursion 228 = .ok (.invokevirtual 350, 3) := by decide +kernel
theorem d_Mod_recursion_231 : decode b_Mod_recursion 231 = .ok (.istore 10, 2) := by decide +kernel
theorem d_Mod_recursion_233 : decode b_Mod_recursion 233 = .ok (.iinc 11 1, 3) := by decide +kernel
theorem d_Mod_recursion_236 : decode b_Mod_recursion 236 = .ok (.goto (-26), 3) := by decide +kernel
theorem d_Mod_recursion_239 : decode b_Mod_recursion 239 = .ok (.aload_n 0, 1) := by decide +kernel
theorem d_Mod_recursion_240 : decode b_Mod_recursion 240 = .ok (.getfield 116, 3) := by decide +kernel
theorem d_Mod_recursion_243 : decode b_Mod_recursion 243 = .ok (.iload 4, 2) := by decide +kernel
theorem d_Mod_recursion_245 : decode b_Mod_recursion 245 = .ok (.iaload, 1) := by decide +kernel
theorem d_Mod_recursion_246 : decode b_Mod_recursion 246 = .ok (.istore 11, 2) := by decide +kernel
theorem d_Mod_recursion_248 : decode b_Mod_recursion 248 = .ok (.iload 11, 2) := by decide +kernel
theorem d_Mod_recursion_250 : decode b_Mod_recursion 250 = .ok (.iload 9, 2) := by decide +kernel
theorem d_Mod_recursion_252 : decode b_Mod_recursion 252 = .ok (.if_icmp .ge 27, 3) := by decide +kernel
theorem d_Mod_recursion_255 : decode b_Mod_recursion 255 = .ok (.aload_n 0, 1) := by decide +kernel
theorem d_Mod_recursion_256 : decode b_Mod_recursion 256 = .ok (.iload 10, 2) := by decide +kernel
theorem d_Mod_recursion_258 : decode b_Mod_recursion 258 = .ok (.aload_n 0, 1) := by decide +kernel
theorem d_Mod_recursion_259 : decode b_Mod_recursion 259 = .ok (.iload 7, 2) := by decide +kernel
theorem d_Mod_recursion_261 : decode b_Mod_recursion 261 = .ok (.iload 9, 2) := by decide +kernel
theorem d_Mod_recursion_263 : decode b_Mod_recursion 263 = .ok (.iload 11, 2) := by decide +kernel
theorem d_Mod_recursion_265 : decode b_Mod_recursion 265 = .ok (.invokevirtual 440, 3) := by decide +kernel
theorem d_Mod_recursion_268 : decode b_Mod_recursion 268 = .ok (.invokevirtual 350, 3) := by decide +kernel
theorem d_Mod_recursion_271 : decode b_Mod_recursion 271 = .ok (.istore 10, 2) := by decide +kernel
theorem d_Mod_recursion_273 : decode b_Mod_recursion 273 = .ok (.iinc 11 1, 3) := by decide +kernel
theorem d_Mod_recursion_276 : decode b_Mod_recursion 276 = .ok (.goto (-28), 3) := by decide +kernel
theorem d_Mod_recursion_279 : decode b_Mod_recursion 279 = .ok (.aload_n 0, 1) := by decide +kernel
theorem d_Mod_recursion_280 : decode b_Mod_recursion 280 = .ok (.iload 10, 2) := by decide +kernel
theorem d_Mod_recursion_282 : decode b_Mod_recursion 282 = .ok (.iload_n 1, 1) := by decide +kernel
theorem d_Mod_recursion_283 : decode b_Mod_recursion 283 = .ok (.iload_n 3, 1) := by decide +kernel
theorem d_Mod_recursion_284 : decode b_Mod_recursion 284 = .ok (.iload 6, 2) := by decide +kernel
theorem d_Mod_recursion_286 : decode b_Mod_recursion 286 = .ok (.iconst 1, 1) := by decide +kernel
theorem d_Mod_recursion_287 : decode b_Mod_recursion 287 = .ok (.iadd, 1) := by decide +kernel
theorem d_Mod_recursion_288 : decode b_Mod_recursion 288 = .ok (.invokevirtual 452, 3) := by decide +kernel
theorem d_Mod_recursion_291 : decode b_Mod_recursion 291 = .ok (.ireturn, 1) := by decide +kernel
theorem d_Mod_step_0 : decode b_Mod_step 0 = .ok (.aload_n 0, 1) := by decide +kernel
theorem d_Mod_step_1 : decode b_Mod_step 1 = .ok (.iload_n 1, 1) := by decide +kernel
theorem d_Mod_step_2 : decode b_Mod_step 2 = .ok (.invokevirtual 446, 3) := by decide +kernel
theorem d_Mod_step_5 : decode b_Mod_step 5 = .ok (.istore_n 2, 1) := by decide +kernel
theorem d_Mod_step_6 : decode b_Mod_step 6 = .ok (.aload_n 0, 1) := by decide +kernel
theorem d_Mod_step_7 : decode b_Mod_step 7 = .ok (.iload_n 1, 1) := by decide +kernel
theorem d_Mod_step_8 : decode b_Mod_step 8 = .ok (.invokevirtual 449, 3) := by decide +kernel
theorem d_Mod_step_11 : decode b_Mod_step 11 = .ok (.istore_n 3, 1) := by decide +kernel
theorem d_Mod_step_12 : decode b_Mod_step 12 = .ok (.aload_n 0, 1) := by decide +kernel
theorem d_Mod_step_13 : decode b_Mod_step 13 = .ok (.getfield 55, 3) := by decide +kernel
theorem d_Mod_step_16 : decode b_Mod_step 16 = .ok (.iload_n 2, 1) := by decide +kernel
theorem d_Mod_step_17 : decode b_Mod_step 17 = .ok (.baload, 1) := by decide +kernel
theorem d_Mod_step_18 : decode b_Mod_step 18 = .ok (.tableswitch 153 1 9 #[107, 145, 153, 153, 153, 153, 50, 153, 83], 50) := by decide +kernel
theorem d_Mod_step_68 : decode b_Mod_step 68 = .ok (.iload_n 3, 1) := by decide +kernel
theorem d_Mod_step_69 : decode b_Mod_step 69 = .ok (.ifCond .ne 7, 3) := by decide +kernel
theorem d_Mod_step_72 : decode b_Mod_step 72 = .ok (.iconst (-1), 1) := by decide +kernel
theorem d_Mod_step_73 : decode b_Mod_step 73 = .ok (.goto 27, 3) := by decide +kernel
theorem d_Mod_step_76 : decode b_Mod_step 76 = .ok (.aload_n 0, 1) := by decide +kernel
theorem d_Mod_step_77 : decode b_Mod_step 77 = .ok (.aload_n 0, 1) := by decide +kernel
theorem d_Mod_step_78 : decode b_Mod_step 78 = .ok (.aload_n 0, 1) := by decide +kernel
theorem d_Mod_step_79 : decode b_Mod_step 79 = .ok (.getfield 62, 3) := by decide +kernel
theorem d_Mod_step_82 : decode b_Mod_step 82 = .ok (.iload_n 2, 1) := by decide +kernel
theorem d_Mod_step_83 : decode b_Mod_step 83 = .ok (.iaload, 1) := by decide +kernel
theorem d_Mod_step_84 : decode b_Mod_step 84 = .ok (.aload_n 0, 1) := by decide +kernel
theorem d_Mod_step_85 : decode b_Mod_step 85 = .ok (.iload_n 1, 1) := by decide +kernel
theorem d_Mod_step_86 : decode b_Mod_step 86 = .ok (.iload_n 3, 1) := by decide +kernel
theorem d_Mod_step_87 : decode b_Mod_step 87 = .ok (.iconst 0, 1) := by decide +kernel
theorem d_Mod_step_88 : decode b_Mod_step 88 = .ok (.invokevirtual 440, 3) := by decide +kernel
theorem d_Mod_step_91 : decode b_Mod_step 91 = .ok (.invokevirtual 431, 3) := by decide +kernel
theorem d_Mod_step_94 : decode b_Mod_step 94 = .ok (.iload_n 1, 1) := by decide +kernel
theorem d_Mod_step_95 : decode b_Mod_step 95 = .ok (.iload_n 3, 1) := by decide +kernel
theorem d_Mod_step_96 : decode b_Mod_step 96 = .ok (.iconst 1, 1) := by decide +kernel
theorem d_Mod_step_97 : decode b_Mod_step 97 = .ok (.invokevirtual 452, 3) := by decide +kernel
theorem d_Mod_step_100 : decode b_Mod_step 100 = .ok (.ireturn, 1) := by decide +kernel
theorem d_Mod_step_101 : decode b_Mod_step 101 = .ok (.aload_n 0, 1) := by decide +kernel
theorem d_Mod_step_102 : decode b_Mod_step 102 = .ok (.aload_n 0, 1) := by decide +kernel
theorem d_Mod_step_103 : decode b_Mod_step 103 = .ok (.aload_n 0, 1) := by decide +kernel
theorem d_Mod_step_104 : decode b_Mod_step 104 = .ok (.getfield 65, 3) := by decide +kernel
theorem d_Mod_step_107 : decode b_Mod_step 107 = .ok (.iload_n 2, 1) := by decide +kernel
theorem d_Mod_step_108 : decode b_Mod_step 108 = .ok (.iaload, 1) := by decide +kernel
theorem d_Mod_step_109 : decode b_Mod_step 109 = .ok (.aload_n 0, 1) := by decide +kernel
theorem d_Mod_step_110 : decode b_Mod_step 110 = .ok (.getfield 62, 3) := by decide +kernel
theorem d_Mod_step_113 : decode b_Mod_step 113 = .ok (.iload_n 2, 1) := by decide +kernel
theorem d_Mod_step_114 : decode b_Mod_step 114 = .ok (.iaload, 1) := by decide +kernel
theorem d_Mod_step_115 : decode b_Mod_step 115 = .ok (.invokevirtual 431, 3) := by decide +kernel
theorem d_Mod_step_118 : decode b_Mod_step 118 = .ok (.iload_n 1, 1) := by decide +kernel
theorem d_Mod_step_119 : decode b_Mod_step 119 = .ok (.iload_n 3, 1) := by decide +kernel
theorem d_Mod_step_120 : decode b_Mod_step 120 = .ok (.iconst 0, 1) := by decide +kernel
theorem d_Mod_step_121 : decode b_Mod_step 121 = .ok (.invokevirtual 452, 3) := by decide +kernel
theorem d_Mod_step_124 : decode b_Mod_step 124 = .ok (.ireturn, 1) := by decide +kernel
theorem d_Mod_step_125 : decode b_Mod_step 125 = .ok (.aload_n 0, 1) := by decide +kernel
theorem d_Mod_step_126 : decode b_Mod_step 126 = .ok (.getfield 107, 3) := by decide +kernel
theorem d_Mod_step_129 : decode b_Mod_step 129 = .ok (.aload_n 0, 1) := by decide +kernel
theorem d_Mod_step_130 : decode b_Mod_step 130 = .ok (.getfield 58, 3) := by decide +kernel
theorem d_Mod_step_133 : decode b_Mod_step 133 = .ok (.iload_n 2, 1) := by decide +kernel
theorem d_Mod_step_134 : decode b_Mod_step 134 = .ok (.iaload, 1) := by decide +kernel
theorem d_Mod_step_135 : decode b_Mod_step 135 = .ok (.iaload, 1) := by decide +kernel
theorem d_Mod_step_136 : decode b_Mod_step 136 = .ok (.iconst 1, 1) := by decide +kernel
theorem d_Mod_step_137 : decode b_Mod_step 137 = .ok (.if_icmp .ne 24, 3) := by decide +kernel
theorem d_Mod_step_140 : decode b_Mod_step 140 = .ok (.aload_n 0, 1) := by decide +kernel
theorem d_Mod_step_141 : decode b_Mod_step 141 = .ok (.aload_n 0, 1) := by decide +kernel
theorem d_Mod_step_142 : decode b_Mod_step 142 = .ok (.getfield 113, 3) := by decide +kernel
theorem d_Mod_step_145 : decode b_Mod_step 145 = .ok (.aload_n 0, 1) := by decide +kernel
theorem d_Mod_step_146 : decode b_Mod_step 146 = .ok (.getfield 58, 3) := by decide +kernel
theorem d_Mod_step_149 : decode b_Mod_step 149 = .ok (.iload_n 2, 1) := by decide +kernel
theorem d_Mod_step_150 : decode b_Mod_step 150 = .ok (.iaload, 1) := by decide +kernel
theorem d_Mod_step_151 : decode b_Mod_step 151 = .ok (.iaload, 1) := by decide +kernel
theorem d_Mod_step_152 : decode b_Mod_step 152 = .ok (.iload_n 1, 1) := by decide +kernel
theorem d_Mod_step_153 : decode b_Mod_step 153 = .ok (.iload_n 3, 1) := by decide +kernel
theorem d_Mod_step_154 : decode b_Mod_step 154 = .ok (.iconst 0, 1) := by decide +kernel
theorem d_Mod_step_155 : decode b_Mod_step 155 = .ok (.invokevirtual 452, 3) := by decide +kernel
theorem d_Mod_step_158 : decode b_Mod_step 158 = .ok (.goto 4, 3) := by decide +kernel
theorem d_Mod_step_161 : decode b_Mod_step 161 = .ok (.iconst (-1), 1) := by decide +kernel
theorem d_Mod_step_162 : decode b_Mod_step 162 = .ok (.ireturn, 1) := by decide +kernel
theorem d_Mod_step_163 : decode b_Mod_step 163 = .ok (.aload_n 0, 1) := by decide +kernel
theorem d_Mod_step_164 : decode b_Mod_step 164 = .ok (.iload_n 1, 1) := by decide +kernel
theorem d_Mod_step_165 : decode b_Mod_step 165 = .ok (.iload_n 2, 1) := by decide +kernel
theorem d_Mod_step_166 : decode b_Mod_step 166 = .ok (.iload_n 3, 1) := by decide +kernel
theorem d_Mod_step_167 : decode b_Mod_step 167 = .ok (.invokevirtual 455, 3) := by decide +kernel
theorem d_Mod_step_170 : decode b_Mod_step 170 = .ok (.ireturn, 1) := by decide +kernel
theorem d_Mod_step_171 : decode b_Mod_step 171 = .ok (.iconst (-1), 1) := by decide +kernel
theorem d_Mod_step_172 : decode b_Mod_step 172 = .ok (.ireturn, 1) := by decide +kernel
theorem d_Mod_whnf_0 : decode b_Mod_whnf 0 = .ok (.iload_n 1, 1) := by decide +kernel
theorem d_Mod_whnf_1 : decode b_Mod_whnf 1 = .ok (.istore_n 2, 1) := by decide +kernel
theorem d_Mod_whnf_2 : decode b_Mod_whnf 2 = .ok (.aload_n 0, 1) := by decide +kernel
theorem d_Mod_whnf_3 : decode b_Mod_whnf 3 = .ok (.iload_n 2, 1) := by decide +kernel
theorem d_Mod_whnf_4 : decode b_Mod_whnf 4 = .ok (.invokevirtual 443, 3) := by decide +kernel
theorem d_Mod_whnf_7 : decode b_Mod_whnf 7 = .ok (.istore_n 3, 1) := by decide +kernel
theorem d_Mod_whnf_8 : decode b_Mod_whnf 8 = .ok (.iload_n 3, 1) := by decide +kernel
theorem d_Mod_whnf_9 : decode b_Mod_whnf 9 = .ok (.ifCond .ge 5, 3) := by decide +kernel
theorem d_Mod_whnf_12 : decode b_Mod_whnf 12 = .ok (.iload_n 2, 1) := by decide +kernel
theorem d_Mod_whnf_13 : decode b_Mod_whnf 13 = .ok (.ireturn, 1) := by decide +kernel
theorem d_Mod_whnf_14 : decode b_Mod_whnf 14 = .ok (.aload_n 0, 1) := by decide +kernel
theorem d_Mod_whnf_15 : decode b_Mod_whnf 15 = .ok (.iload_n 3, 1) := by decide +kernel
theorem d_Mod_whnf_16 : decode b_Mod_whnf 16 = .ok (.invokevirtual 402, 3) := by decide +kernel
theorem d_Mod_whnf_19 : decode b_Mod_whnf 19 = .ok (.istore_n 2, 1) := by decide +kernel
theorem d_Mod_whnf_20 : decode b_Mod_whnf 20 = .ok (.aload_n 0, 1) := by decide +kernel
theorem d_Mod_whnf_21 : decode b_Mod_whnf 21 = .ok (.aload_n 0, 1) := by decide +kernel
theorem d_Mod_whnf_22 : decode b_Mod_whnf 22 = .ok (.getfield 68, 3) := by decide +kernel
theorem d_Mod_whnf_25 : decode b_Mod_whnf 25 = .ok (.iload_n 2, 1) := by decide +kernel
theorem d_Mod_whnf_26 : decode b_Mod_whnf 26 = .ok (.iaload, 1) := by decide +kernel
theorem d_Mod_whnf_27 : decode b_Mod_whnf 27 = .ok (.invokevirtual 434, 3) := by decide +kernel
theorem d_Mod_whnf_30 : decode b_Mod_whnf 30 = .ok (.goto (-28), 3) := by decide +kernel
