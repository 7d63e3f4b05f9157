theorem d_Lex_reads_58 : decode b_Lex_reads 58 = .ok (.iinc 3 1, 3) := by decide +kernel
theorem d_Lex_reads_61 : decode b_Lex_reads 61 = .ok (.goto (-42), 3) := by decide +kernel
theorem d_Lex_reads_64 : decode b_Lex_reads 64 = .ok (.iload_n 2, 1) := by decide +kernel
theorem d_Lex_reads_65 : decode b_Lex_reads 65 = .ok (.ireturn, 1) := by decide +kernel
theorem d_Lex_wordKind_0 : decode b_Lex_wordKind 0 = .ok (.aload_n 0, 1) := by decide +kernel
theorem d_Lex_wordKind_1 : decode b_Lex_wordKind 1 = .ok (.getfield 9, 3) := by decide +kernel
theorem d_Lex_wordKind_4 : decode b_Lex_wordKind 4 = .ok (.aload_n 0, 1) := by decide +kernel
theorem d_Lex_wordKind_5 : decode b_Lex_wordKind 5 = .ok (.getfield 39, 3) := by decide +kernel
theorem d_Lex_wordKind_8 : decode b_Lex_wordKind 8 = .ok (.invokevirtual 58, 3) := by decide +kernel
theorem d_Lex_wordKind_11 : decode b_Lex_wordKind 11 = .ok (.tableswitch 359 80 116 #[271, 359, 359, 359, 287, 359, 359, 359, 359, 359, 359, 359, 359, 359, 359, 359, 359, 161, 359, 207, 176, 223, 331, 359, 359, 303, 359, 359, 239, 359, 359, 359, 359, 359, 255, 359, 191], 161) := by decide +kernel
theorem d_Lex_wordKind_172 : decode b_Lex_wordKind 172 = .ok (.aload_n 0, 1) := by decide +kernel
theorem d_Lex_wordKind_173 : decode b_Lex_wordKind 173 = .ok (.ldc 99, 2) := by decide +kernel
theorem d_Lex_wordKind_175 : decode b_Lex_wordKind 175 = .ok (.invokevirtual 101, 3) := by decide +kernel
theorem d_Lex_wordKind_178 : decode b_Lex_wordKind 178 = .ok (.ifCond .eq 7, 3) := by decide +kernel
theorem d_Lex_wordKind_181 : decode b_Lex_wordKind 181 = .ok (.iconst 4, 1) := by decide +kernel
theorem d_Lex_wordKind_182 : decode b_Lex_wordKind 182 = .ok (.goto 4, 3) := by decide +kernel
theorem d_Lex_wordKind_185 : decode b_Lex_wordKind 185 = .ok (.iconst 2, 1) := by decide +kernel
theorem d_Lex_wordKind_186 : decode b_Lex_wordKind 186 = .ok (.ireturn, 1) := by decide +kernel
theorem d_Lex_wordKind_187 : decode b_Lex_wordKind 187 = .ok (.aload_n 0, 1) := by decide +kernel
theorem d_Lex_wordKind_188 : decode b_Lex_wordKind 188 = .ok (.ldc 105, 2) := by decide +kernel
theorem d_Lex_wordKind_190 : decode b_Lex_wordKind 190 = .ok (.invokevirtual 101, 3) := by decide +kernel
theorem d_Lex_wordKind_193 : decode b_Lex_wordKind 193 = .ok (.ifCond .eq 7, 3) := by decide +kernel
theorem d_Lex_wordKind_196 : decode b_Lex_wordKind 196 = .ok (.iconst 5, 1) := by decide +kernel
theorem d_Lex_wordKind_197 : decode b_Lex_wordKind 197 = .ok (.goto 4, 3) := by decide +kernel
theorem d_Lex_wordKind_200 : decode b_Lex_wordKind 200 = .ok (.iconst 2, 1) := by decide +kernel
theorem d_Lex_wordKind_201 : decode b_Lex_wordKind 201 = .ok (.ireturn, 1) := by decide +kernel
theorem d_Lex_wordKind_202 : decode b_Lex_wordKind 202 = .ok (.aload_n 0, 1) := by decide +kernel
theorem d_Lex_wordKind_203 : decode b_Lex_wordKind 203 = .ok (.ldc 107, 2) := by decide +kernel
theorem d_Lex_wordKind_205 : decode b_Lex_wordKind 205 = .ok (.invokevirtual 101, 3) := by decide +kernel
theorem d_Lex_wordKind_208 : decode b_Lex_wordKind 208 = .ok (.ifCond .eq 8, 3) := by decide +kernel
theorem d_Lex_wordKind_211 : decode b_Lex_wordKind 211 = .ok (.bipush 6, 2) := by decide +kernel
theorem d_Lex_wordKind_213 : decode b_Lex_wordKind 213 = .ok (.goto 4, 3) := by decide +kernel
theorem d_Lex_wordKind_216 : decode b_Lex_wordKind 216 = .ok (.iconst 2, 1) := by decide +kernel
theorem d_Lex_wordKind_217 : decode b_Lex_wordKind 217 = .ok (.ireturn, 1) := by decide +kernel
theorem d_Lex_wordKind_218 : decode b_Lex_wordKind 218 = .ok (.aload_n 0, 1) := by decide +kernel
theorem d_Lex_wordKind_219 : decode b_Lex_wordKind 219 = .ok (.ldc 109, 2) := by decide +kernel
theorem d_Lex_wordKind_221 : decode b_Lex_wordKind 221 = .ok (.invokevirtual 101, 3) := by decide +kernel
theorem d_Lex_wordKind_224 : decode b_Lex_wordKind 224 = .ok (.ifCond .eq 8, 3) := by decide +kernel
theorem d_Lex_wordKind_227 : decode b_Lex_wordKind 227 = .ok (.bipush 8, 2) := by decide +kernel
theorem d_Lex_wordKind_229 : decode b_Lex_wordKind 229 = .ok (.goto 4, 3) := by decide +kernel
theorem d_Lex_wordKind_232 : decode b_Lex_wordKind 232 = .ok (.iconst 2, 1) := by decide +kernel
theorem d_Lex_wordKind_233 : decode b_Lex_wordKind 233 = .ok (.ireturn, 1) := by decide +kernel
theorem d_Lex_wordKind_234 : decode b_Lex_wordKind 234 = .ok (.aload_n 0, 1) := by decide +kernel
theorem d_Lex_wordKind_235 : decode b_Lex_wordKind 235 = .ok (.ldc 111, 2) := by decide +kernel
theorem d_Lex_wordKind_237 : decode b_Lex_wordKind 237 = .ok (.invokevirtual 101, 3) := by decide +kernel
theorem d_Lex_wordKind_240 : decode b_Lex_wordKind 240 = .ok (.ifCond .eq 8, 3) := by decide +kernel
theorem d_Lex_wordKind_243 : decode b_Lex_wordKind 243 = .ok (.bipush 9, 2) := by decide +kernel
theorem d_Lex_wordKind_245 : decode b_Lex_wordKind 245 = .ok (.goto 4, 3) := by decide +kernel
theorem d_Lex_wordKind_248 : decode b_Lex_wordKind 248 = .ok (.iconst 2, 1) := by decide +kernel
theorem d_Lex_wordKind_249 : decode b_Lex_wordKind 249 = .ok (.ireturn, 1) := by decide +kernel
theorem d_Lex_wordKind_250 : decode b_Lex_wordKind 250 = .ok (.aload_n 0, 1) := by decide +kernel
theorem d_Lex_wordKind_251 : decode b_Lex_wordKind 251 = .ok (.ldc 113, 2) := by decide +kernel
theorem d_Lex_wordKind_253 : decode b_Lex_wordKind 253 = .ok (.invokevirtual 101, 3) := by decide +kernel
theorem d_Lex_wordKind_256 : decode b_Lex_wordKind 256 = .ok (.ifCond .eq 8, 3) := by decide +kernel
theorem d_Lex_wordKind_259 : decode b_Lex_wordKind 259 = .ok (.bipush 12, 2) := by decide +kernel
theorem d_Lex_wordKind_261 : decode b_Lex_wordKind 261 = .ok (.goto 4, 3) := by decide +kernel
theorem d_Lex_wordKind_264 : decode b_Lex_wordKind 264 = .ok (.iconst 2, 1) := by decide +kernel
theorem d_Lex_wordKind_265 : decode b_Lex_wordKind 265 = .ok (.ireturn, 1) := by decide +kernel
theorem d_Lex_wordKind_266 : decode b_Lex_wordKind 266 = .ok (.aload_n 0, 1) := by decide +kernel
theorem d_Lex_wordKind_267 : decode b_Lex_wordKind 267 = .ok (.ldc 115, 2) := by decide +kernel
