theorem d_Lex_skip_0 : decode b_Lex_skip 0 = .ok (.iconst 0, 1) := by decide +kernel
theorem d_Lex_skip_1 : decode b_Lex_skip 1 = .ok (.istore_n 1, 1) := by decide +kernel
theorem d_Lex_skip_2 : decode b_Lex_skip 2 = .ok (.aload_n 0, 1) := by decide +kernel
theorem d_Lex_skip_3 : decode b_Lex_skip 3 = .ok (.getfield 28, 3) := by decide +kernel
theorem d_Lex_skip_6 : decode b_Lex_skip 6 = .ok (.aload_n 0, 1) := by decide +kernel
theorem d_Lex_skip_7 : decode b_Lex_skip 7 = .ok (.getfield 9, 3) := by decide +kernel
theorem d_Lex_skip_10 : decode b_Lex_skip 10 = .ok (.invokevirtual 73, 3) := by decide +kernel
theorem d_Lex_skip_13 : decode b_Lex_skip 13 = .ok (.if_icmp .ge 73, 3) := by decide +kernel
theorem d_Lex_skip_16 : decode b_Lex_skip 16 = .ok (.aload_n 0, 1) := by decide +kernel
theorem d_Lex_skip_17 : decode b_Lex_skip 17 = .ok (.getfield 9, 3) := by decide +kernel
theorem d_Lex_skip_20 : decode b_Lex_skip 20 = .ok (.aload_n 0, 1) := by decide +kernel
theorem d_Lex_skip_21 : decode b_Lex_skip 21 = .ok (.getfield 28, 3) := by decide +kernel
theorem d_Lex_skip_24 : decode b_Lex_skip 24 = .ok (.invokevirtual 58, 3) := by decide +kernel
theorem d_Lex_skip_27 : decode b_Lex_skip 27 = .ok (.istore_n 2, 1) := by decide +kernel
theorem d_Lex_skip_28 : decode b_Lex_skip 28 = .ok (.iload_n 2, 1) := by decide +kernel
theorem d_Lex_skip_29 : decode b_Lex_skip 29 = .ok (.bipush 37, 2) := by decide +kernel
theorem d_Lex_skip_31 : decode b_Lex_skip 31 = .ok (.if_icmp .ne 8, 3) := by decide +kernel
theorem d_Lex_skip_34 : decode b_Lex_skip 34 = .ok (.iconst 1, 1) := by decide +kernel
theorem d_Lex_skip_35 : decode b_Lex_skip 35 = .ok (.istore_n 1, 1) := by decide +kernel
theorem d_Lex_skip_36 : decode b_Lex_skip 36 = .ok (.goto 37, 3) := by decide +kernel
theorem d_Lex_skip_39 : decode b_Lex_skip 39 = .ok (.iload_n 2, 1) := by decide +kernel
theorem d_Lex_skip_40 : decode b_Lex_skip 40 = .ok (.bipush 10, 2) := by decide +kernel
theorem d_Lex_skip_42 : decode b_Lex_skip 42 = .ok (.if_icmp .ne 8, 3) := by decide +kernel
theorem d_Lex_skip_45 : decode b_Lex_skip 45 = .ok (.iconst 0, 1) := by decide +kernel
theorem d_Lex_skip_46 : decode b_Lex_skip 46 = .ok (.istore_n 1, 1) := by decide +kernel
theorem d_Lex_skip_47 : decode b_Lex_skip 47 = .ok (.goto 26, 3) := by decide +kernel
theorem d_Lex_skip_50 : decode b_Lex_skip 50 = .ok (.iload_n 1, 1) := by decide +kernel
theorem d_Lex_skip_51 : decode b_Lex_skip 51 = .ok (.ifCond .ne 22, 3) := by decide +kernel
theorem d_Lex_skip_54 : decode b_Lex_skip 54 = .ok (.iload_n 2, 1) := by decide +kernel
theorem d_Lex_skip_55 : decode b_Lex_skip 55 = .ok (.bipush 32, 2) := by decide +kernel
theorem d_Lex_skip_57 : decode b_Lex_skip 57 = .ok (.if_icmp .eq 16, 3) := by decide +kernel
theorem d_Lex_skip_60 : decode b_Lex_skip 60 = .ok (.iload_n 2, 1) := by decide +kernel
theorem d_Lex_skip_61 : decode b_Lex_skip 61 = .ok (.bipush 9, 2) := by decide +kernel
theorem d_Lex_skip_63 : decode b_Lex_skip 63 = .ok (.if_icmp .eq 10, 3) := by decide +kernel
theorem d_Lex_skip_66 : decode b_Lex_skip 66 = .ok (.iload_n 2, 1) := by decide +kernel
theorem d_Lex_skip_67 : decode b_Lex_skip 67 = .ok (.bipush 13, 2) := by decide +kernel
theorem d_Lex_skip_69 : decode b_Lex_skip 69 = .ok (.if_icmp .eq 4, 3) := by decide +kernel
theorem d_Lex_skip_72 : decode b_Lex_skip 72 = .ok (.return_, 1) := by decide +kernel
theorem d_Lex_skip_73 : decode b_Lex_skip 73 = .ok (.aload_n 0, 1) := by decide +kernel
theorem d_Lex_skip_74 : decode b_Lex_skip 74 = .ok (.dup, 1) := by decide +kernel
theorem d_Lex_skip_75 : decode b_Lex_skip 75 = .ok (.getfield 28, 3) := by decide +kernel
theorem d_Lex_skip_78 : decode b_Lex_skip 78 = .ok (.iconst 1, 1) := by decide +kernel
theorem d_Lex_skip_79 : decode b_Lex_skip 79 = .ok (.iadd, 1) := by decide +kernel
theorem d_Lex_skip_80 : decode b_Lex_skip 80 = .ok (.putfield 28, 3) := by decide +kernel
theorem d_Lex_skip_83 : decode b_Lex_skip 83 = .ok (.goto (-81), 3) := by decide +kernel
theorem d_Lex_skip_86 : decode b_Lex_skip 86 = .ok (.return_, 1) := by decide +kernel
theorem d_Lex_isLetter_0 : decode b_Lex_isLetter 0 = .ok (.iload_n 0, 1) := by decide +kernel
theorem d_Lex_isLetter_1 : decode b_Lex_isLetter 1 = .ok (.bipush 97, 2) := by decide +kernel
theorem d_Lex_isLetter_3 : decode b_Lex_isLetter 3 = .ok (.if_icmp .lt 9, 3) := by decide +kernel
theorem d_Lex_isLetter_6 : decode b_Lex_isLetter 6 = .ok (.iload_n 0, 1) := by decide +kernel
theorem d_Lex_isLetter_7 : decode b_Lex_isLetter 7 = .ok (.bipush 122, 2) := by decide +kernel
theorem d_Lex_isLetter_9 : decode b_Lex_isLetter 9 = .ok (.if_icmp .le 15, 3) := by decide +kernel
theorem d_Lex_isLetter_12 : decode b_Lex_isLetter 12 = .ok (.iload_n 0, 1) := by decide +kernel
theorem d_Lex_isLetter_13 : decode b_Lex_isLetter 13 = .ok (.bipush 65, 2) := by decide +kernel
theorem d_Lex_isLetter_15 : decode b_Lex_isLetter 15 = .ok (.if_icmp .lt 13, 3) := by decide +kernel
theorem d_Lex_isLetter_18 : decode b_Lex_isLetter 18 = .ok (.iload_n 0, 1) := by decide +kernel
theorem d_Lex_isLetter_19 : decode b_Lex_isLetter 19 = .ok (.bipush 90, 2) := by decide +kernel
theorem d_Lex_isLetter_21 : decode b_Lex_isLetter 21 = .ok (.if_icmp .gt 7, 3) := by decide +kernel
theorem d_Lex_isLetter_24 : decode b_Lex_isLetter 24 = .ok (.iconst 1, 1) := by decide +kernel
theorem d_Lex_isLetter_25 : decode b_Lex_isLetter 25 = .ok (.goto 4, 3) := by decide +kernel
theorem d_Lex_isLetter_28 : decode b_Lex_isLetter 28 = .ok (.iconst 0, 1) := by decide +kernel
theorem d_Lex_isLetter_29 : decode b_Lex_isLetter 29 = .ok (.ireturn, 1) := by decide +kernel
theorem d_Lex_isDigit_0 : decode b_Lex_isDigit 0 = .ok (.iload_n 0, 1) := by decide +kernel
theorem d_Lex_isDigit_1 : decode b_Lex_isDigit 1 = .ok (.bipush 48, 2) := by decide +kernel
theorem d_Lex_isDigit_3 : decode b_Lex_isDigit 3 = .ok (.if_icmp .lt 13, 3) := by decide +kernel
theorem d_Lex_isDigit_6 : decode b_Lex_isDigit 6 = .ok (.iload_n 0, 1) := by decide +kernel
theorem d_Lex_isDigit_7 : decode b_Lex_isDigit 7 = .ok (.bipush 57, 2) := by decide +kernel
theorem d_Lex_isDigit_9 : decode b_Lex_isDigit 9 = .ok (.if_icmp .gt 7, 3) := by decide +kernel
theorem d_Lex_isDigit_12 : decode b_Lex_isDigit 12 = .ok (.iconst 1, 1) := by decide +kernel
theorem d_Lex_isDigit_13 : decode b_Lex_isDigit 13 = .ok (.goto 4, 3) := by decide +kernel
theorem d_Lex_isDigit_16 : decode b_Lex_isDigit 16 = .ok (.iconst 0, 1) := by decide +kernel
theorem d_Lex_isDigit_17 : decode b_Lex_isDigit 17 = .ok (.ireturn, 1) := by decide +kernel
theorem d_Lex_isInWord_0 : decode b_Lex_isInWord 0 = .ok (.iload_n 0, 1) := by decide +kernel
theorem d_Lex_isInWord_1 : decode b_Lex_isInWord 1 = .ok (.invokestatic 77, 3) := by decide +kernel
theorem d_Lex_isInWord_4 : decode b_Lex_isInWord 4 = .ok (.ifCond .ne 22, 3) := by decide +kernel
theorem d_Lex_isInWord_7 : decode b_Lex_isInWord 7 = .ok (.iload_n 0, 1) := by decide +kernel
theorem d_Lex_isInWord_8 : decode b_Lex_isInWord 8 = .ok (.invokestatic 84, 3) := by decide +kernel
theorem d_Lex_isInWord_11 : decode b_Lex_isInWord 11 = .ok (.ifCond .ne 15, 3) := by decide +kernel
theorem d_Lex_isInWord_14 : decode b_Lex_isInWord 14 = .ok (.iload_n 0, 1) := by decide +kernel
theorem d_Lex_isInWord_15 : decode b_Lex_isInWord 15 = .ok (.bipush 95, 2) := by decide +kernel
theorem d_Lex_isInWord_17 : decode b_Lex_isInWord 17 = .ok (.if_icmp .eq 9, 3) := by decide +kernel
theorem d_Lex_isInWord_20 : decode b_Lex_isInWord 20 = .ok (.iload_n 0, 1) := by decide +kernel
theorem d_Lex_isInWord_21 : decode b_Lex_isInWord 21 = .ok (.bipush 39, 2) := by decide +kernel
theorem d_Lex_isInWord_23 : decode b_Lex_isInWord 23 = .ok (.if_icmp .ne 7, 3) := by decide +kernel
theorem d_Lex_isInWord_26 : decode b_Lex_isInWord 26 = .ok (.iconst 1, 1) := by decide +kernel
theorem d_Lex_isInWord_27 : decode b_Lex_isInWord 27 = .ok (.goto 4, 3) := by decide +kernel
theorem d_Lex_isInWord_30 : decode b_Lex_isInWord 30 = .ok (.iconst 0, 1) := by decide +kernel
theorem d_Lex_isInWord_31 : decode b_Lex_isInWord 31 = .ok (.ireturn, 1) := by decide +kernel
theorem d_Lex_reads_0 : decode b_Lex_reads 0 = .ok (.aload_n 1, 1) := by decide +kernel
theorem d_Lex_reads_1 : decode b_Lex_reads 1 = .ok (.invokevirtual 129, 3) := by decide +kernel
theorem d_Lex_reads_4 : decode b_Lex_reads 4 = .ok (.aload_n 0, 1) := by decide +kernel
theorem d_Lex_reads_5 : decode b_Lex_reads 5 = .ok (.getfield 42, 3) := by decide +kernel
theorem d_Lex_reads_8 : decode b_Lex_reads 8 = .ok (.if_icmp .ne 7, 3) := by decide +kernel
theorem d_Lex_reads_11 : decode b_Lex_reads 11 = .ok (.iconst 1, 1) := by decide +kernel
theorem d_Lex_reads_12 : decode b_Lex_reads 12 = .ok (.goto 4, 3) := by decide +kernel
theorem d_Lex_reads_15 : decode b_Lex_reads 15 = .ok (.iconst 0, 1) := by decide +kernel
theorem d_Lex_reads_16 : decode b_Lex_reads 16 = .ok (.istore_n 2, 1) := by decide +kernel
theorem d_Lex_reads_17 : decode b_Lex_reads 17 = .ok (.iconst 0, 1) := by decide +kernel
theorem d_Lex_reads_18 : decode b_Lex_reads 18 = .ok (.istore_n 3, 1) := by decide +kernel
theorem d_Lex_reads_19 : decode b_Lex_reads 19 = .ok (.iload_n 2, 1) := by decide +kernel
theorem d_Lex_reads_20 : decode b_Lex_reads 20 = .ok (.ifCond .eq 44, 3) := by decide +kernel
theorem d_Lex_reads_23 : decode b_Lex_reads 23 = .ok (.iload_n 3, 1) := by decide +kernel
theorem d_Lex_reads_24 : decode b_Lex_reads 24 = .ok (.aload_n 0, 1) := by decide +kernel
theorem d_Lex_reads_25 : decode b_Lex_reads 25 = .ok (.getfield 42, 3) := by decide +kernel
theorem d_Lex_reads_28 : decode b_Lex_reads 28 = .ok (.if_icmp .ge 36, 3) := by decide +kernel
theorem d_Lex_reads_31 : decode b_Lex_reads 31 = .ok (.aload_n 0, 1) := by decide +kernel
theorem d_Lex_reads_32 : decode b_Lex_reads 32 = .ok (.getfield 9, 3) := by decide +kernel
theorem d_Lex_reads_35 : decode b_Lex_reads 35 = .ok (.aload_n 0, 1) := by decide +kernel
theorem d_Lex_reads_36 : decode b_Lex_reads 36 = .ok (.getfield 39, 3) := by decide +kernel
theorem d_Lex_reads_39 : decode b_Lex_reads 39 = .ok (.iload_n 3, 1) := by decide +kernel
theorem d_Lex_reads_40 : decode b_Lex_reads 40 = .ok (.iadd, 1) := by decide +kernel
theorem d_Lex_reads_41 : decode b_Lex_reads 41 = .ok (.invokevirtual 58, 3) := by decide +kernel
theorem d_Lex_reads_44 : decode b_Lex_reads 44 = .ok (.aload_n 1, 1) := by decide +kernel
theorem d_Lex_reads_45 : decode b_Lex_reads 45 = .ok (.iload_n 3, 1) := by decide +kernel
theorem d_Lex_reads_46 : decode b_Lex_reads 46 = .ok (.invokevirtual 133, 3) := by decide +kernel
theorem d_Lex_reads_49 : decode b_Lex_reads 49 = .ok (.if_icmp .ne 7, 3) := by decide +kernel
theorem d_Lex_reads_52 : decode b_Lex_reads 52 = .ok (.iconst 1, 1) := by decide +kernel
theorem d_Lex_reads_53 : decode b_Lex_reads 53 = .ok (.goto 4, 3) := by decide +kernel
theorem d_Lex_reads_56 : decode b_Lex_reads 56 = .ok (.iconst 0, 1) := by decide +kernel
theorem d_Lex_reads_57 : decode b_Lex_reads 57 = .ok (.istore_n 2, 1) := by decide +kernel
theorem d_Lex_reads_58 : decode b_Lex_reads 58 = .ok (.iinc 3 1, 3) := by decide +kernel
theorem d_Lex_reads_61 : decode b_Lex_reads 61 = .ok (.goto (-42), 3) := by decide +kernel
theorem d_Lex_reads_64 : decode b_Lex_reads 64 = .ok (.iload_n 2, 1) := by decide +kernel
theorem d_Lex_reads_65 : decode b_Lex_reads 65 = .ok (.ireturn, 1) := by decide +kernel
theorem d_Lex_wordKind_0 : decode b_Lex_wordKind 0 = .ok (.aload_n 0, 1) := by decide +kernel
theorem d_Lex_wordKind_1 : decode b_Lex_wordKind 1 = .ok (.getfield 9, 3) := by decide +kernel
theorem d_Lex_wordKind_4 : decode b_Lex_wordKind 4 = .ok (.aload_n 0, 1) := by decide +kernel
theorem d_Lex_wordKind_5 : decode b_Lex_wordKind 5 = .ok (.getfield 39, 3) := by decide +kernel
theorem d_Lex_wordKind_8 : decode b_Lex_wordKind 8 = .ok (.invokevirtual 58, 3) := by decide +kernel
theorem d_Lex_wordKind_11 : decode b_Lex_wordKind 11 = .ok (.tableswitch 359 80 116 #[271, 359, 359, 359, 287, 359, 359, 359, 359, 359, 359, 359, 359, 359, 359, 359, 359, 161, 359, 207, 176, 223, 331, 359, 359, 303, 359, 359, 239, 359, 359, 359, 359, 359, 255, 359, 191], 161) := by decide +kernel
theorem d_Lex_wordKind_172 : decode b_Lex_wordKind 172 = .ok (.aload_n 0, 1) := by decide +kernel
theorem d_Lex_wordKind_173 : decode b_Lex_wordKind 173 = .ok (.ldc 99, 2) := by decide +kernel
theorem d_Lex_wordKind_175 : decode b_Lex_wordKind 175 = .ok (.invokevirtual 101, 3) := by decide +kernel
theorem d_Lex_wordKind_178 : decode b_Lex_wordKind 178 = .ok (.ifCond .eq 7, 3) := by decide +kernel
theorem d_Lex_wordKind_181 : decode b_Lex_wordKind 181 = .ok (.iconst 4, 1) := by decide +kernel
theorem d_Lex_wordKind_182 : decode b_Lex_wordKind 182 = .ok (.goto 4, 3) := by decide +kernel
theorem d_Lex_wordKind_185 : decode b_Lex_wordKind 185 = .ok (.iconst 2, 1) := by decide +kernel
theorem d_Lex_wordKind_186 : decode b_Lex_wordKind 186 = .ok (.ireturn, 1) := by decide +kernel
theorem d_Lex_wordKind_187 : decode b_Lex_wordKind 187 = .ok (.aload_n 0, 1) := by decide +kernel
theorem d_Lex_wordKind_188 : decode b_Lex_wordKind 188 = .ok (.ldc 105, 2) := by decide +kernel
theorem d_Lex_wordKind_190 : decode b_Lex_wordKind 190 = .ok (.invokevirtual 101, 3) := by decide +kernel
theorem d_Lex_wordKind_193 : decode b_Lex_wordKind 193 = .ok (.ifCond .eq 7, 3) := by decide +kernel
theorem d_Lex_wordKind_196 : decode b_Lex_wordKind 196 = .ok (.iconst 5, 1) := by decide +kernel
theorem d_Lex_wordKind_197 : decode b_Lex_wordKind 197 = .ok (.goto 4, 3) := by decide +kernel
theorem d_Lex_wordKind_200 : decode b_Lex_wordKind 200 = .ok (.iconst 2, 1) := by decide +kernel
theorem d_Lex_wordKind_201 : decode b_Lex_wordKind 201 = .ok (.ireturn, 1) := by decide +kernel
theorem d_Lex_wordKind_202 : decode b_Lex_wordKind 202 = .ok (.aload_n 0, 1) := by decide +kernel
theorem d_Lex_wordKind_203 : decode b_Lex_wordKind 203 = .ok (.ldc 107, 2) := by decide +kernel
theorem d_Lex_wordKind_205 : decode b_Lex_wordKind 205 = .ok (.invokevirtual 101, 3) := by decide +kernel
theorem d_Lex_wordKind_208 : decode b_Lex_wordKind 208 = .ok (.ifCond .eq 8, 3) := by decide +kernel
theorem d_Lex_wordKind_211 : decode b_Lex_wordKind 211 = .ok (.bipush 6, 2) := by decide +kernel
theorem d_Lex_wordKind_213 : decode b_Lex_wordKind 213 = .ok (.goto 4, 3) := by decide +kernel
theorem d_Lex_wordKind_216 : decode b_Lex_wordKind 216 = .ok (.iconst 2, 1) := by decide +kernel
theorem d_Lex_wordKind_217 : decode b_Lex_wordKind 217 = .ok (.ireturn, 1) := by decide +kernel
theorem d_Lex_wordKind_218 : decode b_Lex_wordKind 218 = .ok (.aload_n 0, 1) := by decide +kernel
theorem d_Lex_wordKind_219 : decode b_Lex_wordKind 219 = .ok (.ldc 109, 2) := by decide +kernel
theorem d_Lex_wordKind_221 : decode b_Lex_wordKind 221 = .ok (.invokevirtual 101, 3) := by decide +kernel
theorem d_Lex_wordKind_224 : decode b_Lex_wordKind 224 = .ok (.ifCond .eq 8, 3) := by decide +kernel
theorem d_Lex_wordKind_227 : decode b_Lex_wordKind 227 = .ok (.bipush 8, 2) := by decide +kernel
theorem d_Lex_wordKind_229 : decode b_Lex_wordKind 229 = .ok (.goto 4, 3) := by decide +kernel
theorem d_Lex_wordKind_232 : decode b_Lex_wordKind 232 = .ok (.iconst 2, 1) := by decide +kernel
theorem d_Lex_wordKind_233 : decode b_Lex_wordKind 233 = .ok (.ireturn, 1) := by decide +kernel
theorem d_Lex_wordKind_234 : decode b_Lex_wordKind 234 = .ok (.aload_n 0, 1) := by decide +kernel
theorem d_Lex_wordKind_235 : decode b_Lex_wordKind 235 = .ok (.ldc 111, 2) := by decide +kernel
theorem d_Lex_wordKind_237 : decode b_Lex_wordKind 237 = .ok (.invokevirtual 101, 3) := by decide +kernel
theorem d_Lex_wordKind_240 : decode b_Lex_wordKind 240 = .ok (.ifCond .eq 8, 3) := by decide +kernel
theorem d_Lex_wordKind_243 : decode b_Lex_wordKind 243 = .ok (.bipush 9, 2) := by decide +kernel
theorem d_Lex_wordKind_245 : decode b_Lex_wordKind 245 = .ok (.goto 4, 3) := by decide +kernel
theorem d_Lex_wordKind_248 : decode b_Lex_wordKind 248 = .ok (.iconst 2, 1) := by decide +kernel
theorem d_Lex_wordKind_249 : decode b_Lex_wordKind 249 = .ok (.ireturn, 1) := by decide +kernel
theorem d_Lex_wordKind_250 : decode b_Lex_wordKind 250 = .ok (.aload_n 0, 1) := by decide +kernel
theorem d_Lex_wordKind_251 : decode b_Lex_wordKind 251 = .ok (.ldc 113, 2) := by decide +kernel
theorem d_Lex_wordKind_253 : decode b_Lex_wordKind 253 = .ok (.invokevirtual 101, 3) := by decide +kernel
theorem d_Lex_wordKind_256 : decode b_Lex_wordKind 256 = .ok (.ifCond .eq 8, 3) := by decide +kernel
theorem d_Lex_wordKind_259 : decode b_Lex_wordKind 259 = .ok (.bipush 12, 2) := by decide +kernel
theorem d_Lex_wordKind_261 : decode b_Lex_wordKind 261 = .ok (.goto 4, 3) := by decide +kernel
theorem d_Lex_wordKind_264 : decode b_Lex_wordKind 264 = .ok (.iconst 2, 1) := by decide +kernel
theorem d_Lex_wordKind_265 : decode b_Lex_wordKind 265 = .ok (.ireturn, 1) := by decide +kernel
theorem d_Lex_wordKind_266 : decode b_Lex_wordKind 266 = .ok (.aload_n 0, 1) := by decide +kernel
theorem d_Lex_wordKind_267 : decode b_Lex_wordKind 267 = .ok (.ldc 115, 2) := by decide +kernel
theorem d_Lex_wordKind_269 : decode b_Lex_wordKind 269 = .ok (.invokevirtual 101, 3) := by decide +kernel
theorem d_Lex_wordKind_272 : decode b_Lex_wordKind 272 = .ok (.ifCond .eq 8, 3) := by decide +kernel
theorem d_Lex_wordKind_275 : decode b_Lex_wordKind 275 = .ok (.bipush 16, 2) := by decide +kernel
theorem d_Lex_wordKind_277 : decode b_Lex_wordKind 277 = .ok (.goto 4, 3) := by decide +kernel
theorem d_Lex_wordKind_280 : decode b_Lex_wordKind 280 = .ok (.iconst 2, 1) := by decide +kernel
theorem d_Lex_wordKind_281 : decode b_Lex_wordKind 281 = .ok (.ireturn, 1) := by decide +kernel
theorem d_Lex_wordKind_282 : decode b_Lex_wordKind 282 = .ok (.aload_n 0, 1) := by decide +kernel
theorem d_Lex_wordKind_283 : decode b_Lex_wordKind 283 = .ok (.ldc 117, 2) := by decide +kernel
theorem d_Lex_wordKind_285 : decode b_Lex_wordKind 285 = .ok (.invokevirtual 101, 3) := by decide +kernel
theorem d_Lex_wordKind_288 : decode b_Lex_wordKind 288 = .ok (.ifCond .eq 8, 3) := by decide +kernel
theorem d_Lex_wordKind_291 : decode b_Lex_wordKind 291 = .ok (.bipush 14, 2) := by decide +kernel
theorem d_Lex_wordKind_293 : decode b_Lex_wordKind 293 = .ok (.goto 4, 3) := by decide +kernel
theorem d_Lex_wordKind_296 : decode b_Lex_wordKind 296 = .ok (.iconst 2, 1) := by decide +kernel
theorem d_Lex_wordKind_297 : decode b_Lex_wordKind 297 = .ok (.ireturn, 1) := by decide +kernel
theorem d_Lex_wordKind_298 : decode b_Lex_wordKind 298 = .ok (.aload_n 0, 1) := by decide +kernel
theorem d_Lex_wordKind_299 : decode b_Lex_wordKind 299 = .ok (.ldc 119, 2) := by decide +kernel
theorem d_Lex_wordKind_301 : decode b_Lex_wordKind 301 = .ok (.invokevirtual 101, 3) := by decide +kernel
theorem d_Lex_wordKind_304 : decode b_Lex_wordKind 304 = .ok (.ifCond .eq 8, 3) := by decide +kernel
theorem d_Lex_wordKind_307 : decode b_Lex_wordKind 307 = .ok (.bipush 15, 2) := by decide +kernel
theorem d_Lex_wordKind_309 : decode b_Lex_wordKind 309 = .ok (.goto 4, 3) := by decide +kernel
theorem d_Lex_wordKind_312 : decode b_Lex_wordKind 312 = .ok (.iconst 2, 1) := by decide +kernel
theorem d_Lex_wordKind_313 : decode b_Lex_wordKind 313 = .ok (.ireturn, 1) := by decide +kernel
theorem d_Lex_wordKind_314 : decode b_Lex_wordKind 314 = .ok (.aload_n 0, 1) := by decide +kernel
theorem d_Lex_wordKind_315 : decode b_Lex_wordKind 315 = .ok (.ldc 121, 2) := by decide +kernel
theorem d_Lex_wordKind_317 : decode b_Lex_wordKind 317 = .ok (.invokevirtual 101, 3) := by decide +kernel
theorem d_Lex_wordKind_320 : decode b_Lex_wordKind 320 = .ok (.ifCond .eq 6, 3) := by decide +kernel
theorem d_Lex_wordKind_323 : decode b_Lex_wordKind 323 = .ok (.bipush 13, 2) := by decide +kernel
theorem d_Lex_wordKind_325 : decode b_Lex_wordKind 325 = .ok (.ireturn, 1) := by decide +kernel
theorem d_Lex_wordKind_326 : decode b_Lex_wordKind 326 = .ok (.aload_n 0, 1) := by decide +kernel
theorem d_Lex_wordKind_327 : decode b_Lex_wordKind 327 = .ok (.ldc 123, 2) := by decide +kernel
theorem d_Lex_wordKind_329 : decode b_Lex_wordKind 329 = .ok (.invokevirtual 101, 3) := by decide +kernel
theorem d_Lex_wordKind_332 : decode b_Lex_wordKind 332 = .ok (.ifCond .eq 8, 3) := by decide +kernel
theorem d_Lex_wordKind_335 : decode b_Lex_wordKind 335 = .ok (.bipush 7, 2) := by decide +kernel
theorem d_Lex_wordKind_337 : decode b_Lex_wordKind 337 = .ok (.goto 4, 3) := by decide +kernel
theorem d_Lex_wordKind_340 : decode b_Lex_wordKind 340 = .ok (.iconst 2, 1) := by decide +kernel
theorem d_Lex_wordKind_341 : decode b_Lex_wordKind 341 = .ok (.ireturn, 1) := by decide +kernel
theorem d_Lex_wordKind_342 : decode b_Lex_wordKind 342 = .ok (.aload_n 0, 1) := by decide +kernel
theorem d_Lex_wordKind_343 : decode b_Lex_wordKind 343 = .ok (.ldc 125, 2) := by decide +kernel
theorem d_Lex_wordKind_345 : decode b_Lex_wordKind 345 = .ok (.invokevirtual 101, 3) := by decide +kernel
theorem d_Lex_wordKind_348 : decode b_Lex_wordKind 348 = .ok (.ifCond .eq 6, 3) := by decide +kernel
theorem d_Lex_wordKind_351 : decode b_Lex_wordKind 351 = .ok (.bipush 10, 2) := by decide +kernel
theorem d_Lex_wordKind_353 : decode b_Lex_wordKind 353 = .ok (.ireturn, 1) := by decide +kernel
theorem d_Lex_wordKind_354 : decode b_Lex_wordKind 354 = .ok (.aload_n 0, 1) := by decide +kernel
theorem d_Lex_wordKind_355 : decode b_Lex_wordKind 355 = .ok (.ldc 127, 2) := by decide +kernel
theorem d_Lex_wordKind_357 : decode b_Lex_wordKind 357 = .ok (.invokevirtual 101, 3) := by decide +kernel
theorem d_Lex_wordKind_360 : decode b_Lex_wordKind 360 = .ok (.ifCond .eq 8, 3) := by decide +kernel
theorem d_Lex_wordKind_363 : decode b_Lex_wordKind 363 = .ok (.bipush 11, 2) := by decide +kernel
theorem d_Lex_wordKind_365 : decode b_Lex_wordKind 365 = .ok (.goto 4, 3) := by decide +kernel
theorem d_Lex_wordKind_368 : decode b_Lex_wordKind 368 = .ok (.iconst 2, 1) := by decide +kernel
theorem d_Lex_wordKind_369 : decode b_Lex_wordKind 369 = .ok (.ireturn, 1) := by decide +kernel
theorem d_Lex_wordKind_370 : decode b_Lex_wordKind 370 = .ok (.iconst 2, 1) := by decide +kernel
theorem d_Lex_wordKind_371 : decode b_Lex_wordKind 371 = .ok (.ireturn, 1) := by decide +kernel
theorem d_Lex_scanWord_0 : decode b_Lex_scanWord 0 = .ok (.aload_n 0, 1) := by decide +kernel
theorem d_Lex_scanWord_1 : decode b_Lex_scanWord 1 = .ok (.getfield 28, 3) := by decide +kernel
theorem d_Lex_scanWord_4 : decode b_Lex_scanWord 4 = .ok (.aload_n 0, 1) := by decide +kernel
theorem d_Lex_scanWord_5 : decode b_Lex_scanWord 5 = .ok (.getfield 9, 3) := by decide +kernel
theorem d_Lex_scanWord_8 : decode b_Lex_scanWord 8 = .ok (.invokevirtual 73, 3) := by decide +kernel
theorem d_Lex_scanWord_11 : decode b_Lex_scanWord 11 = .ok (.if_icmp .ge 33, 3) := by decide +kernel
theorem d_Lex_scanWord_14 : decode b_Lex_scanWord 14 = .ok (.aload_n 0, 1) := by decide +kernel
theorem d_Lex_scanWord_15 : decode b_Lex_scanWord 15 = .ok (.getfield 9, 3) := by decide +kernel
theorem d_Lex_scanWord_18 : decode b_Lex_scanWord 18 = .ok (.aload_n 0, 1) := by decide +kernel
theorem d_Lex_scanWord_19 : decode b_Lex_scanWord 19 = .ok (.getfield 28, 3) := by decide +kernel
theorem d_Lex_scanWord_22 : decode b_Lex_scanWord 22 = .ok (.invokevirtual 58, 3) := by decide +kernel
theorem d_Lex_scanWord_25 : decode b_Lex_scanWord 25 = .ok (.invokestatic 93, 3) := by decide +kernel
theorem d_Lex_scanWord_28 : decode b_Lex_scanWord 28 = .ok (.ifCond .eq 16, 3) := by decide +kernel
theorem d_Lex_scanWord_31 : decode b_Lex_scanWord 31 = .ok (.aload_n 0, 1) := by decide +kernel
theorem d_Lex_scanWord_32 : decode b_Lex_scanWord 32 = .ok (.dup, 1) := by decide +kernel
theorem d_Lex_scanWord_33 : decode b_Lex_scanWord 33 = .ok (.getfield 28, 3) := by decide +kernel
theorem d_Lex_scanWord_36 : decode b_Lex_scanWord 36 = .ok (.iconst 1, 1) := by decide +kernel
theorem d_Lex_scanWord_37 : decode b_Lex_scanWord 37 = .ok (.iadd, 1) := by decide +kernel
theorem d_Lex_scanWord_38 : decode b_Lex_scanWord 38 = .ok (.putfield 28, 3) := by decide +kernel
theorem d_Lex_scanWord_41 : decode b_Lex_scanWord 41 = .ok (.goto (-41), 3) := by decide +kernel
theorem d_Lex_scanWord_44 : decode b_Lex_scanWord 44 = .ok (.aload_n 0, 1) := by decide +kernel
theorem d_Lex_scanWord_45 : decode b_Lex_scanWord 45 = .ok (.getfield 28, 3) := by decide +kernel
theorem d_Lex_scanWord_48 : decode b_Lex_scanWord 48 = .ok (.aload_n 0, 1) := by decide +kernel
theorem d_Lex_scanWord_49 : decode b_Lex_scanWord 49 = .ok (.getfield 39, 3) := by decide +kernel
theorem d_Lex_scanWord_52 : decode b_Lex_scanWord 52 = .ok (.isub, 1) := by decide +kernel
theorem d_Lex_scanWord_53 : decode b_Lex_scanWord 53 = .ok (.bipush 31, 2) := by decide +kernel
theorem d_Lex_scanWord_55 : decode b_Lex_scanWord 55 = .ok (.if_icmp .gt 7, 3) := by decide +kernel
theorem d_Lex_scanWord_58 : decode b_Lex_scanWord 58 = .ok (.iconst 1, 1) := by decide +kernel
theorem d_Lex_scanWord_59 : decode b_Lex_scanWord 59 = .ok (.goto 4, 3) := by decide +kernel
theorem d_Lex_scanWord_62 : decode b_Lex_scanWord 62 = .ok (.iconst 0, 1) := by decide +kernel
theorem d_Lex_scanWord_63 : decode b_Lex_scanWord 63 = .ok (.istore_n 1, 1) := by decide +kernel
theorem d_Lex_scanWord_64 : decode b_Lex_scanWord 64 = .ok (.aload_n 0, 1) := by decide +kernel
theorem d_Lex_scanWord_65 : decode b_Lex_scanWord 65 = .ok (.iload_n 1, 1) := by decide +kernel
theorem d_Lex_scanWord_66 : decode b_Lex_scanWord 66 = .ok (.ifCond .eq 15, 3) := by decide +kernel
theorem d_Lex_scanWord_69 : decode b_Lex_scanWord 69 = .ok (.aload_n 0, 1) := by decide +kernel
theorem d_Lex_scanWord_70 : decode b_Lex_scanWord 70 = .ok (.getfield 28, 3) := by decide +kernel
theorem d_Lex_scanWord_73 : decode b_Lex_scanWord 73 = .ok (.aload_n 0, 1) := by decide +kernel
theorem d_Lex_scanWord_74 : decode b_Lex_scanWord 74 = .ok (.getfield 39, 3) := by decide +kernel
theorem d_Lex_scanWord_77 : decode b_Lex_scanWord 77 = .ok (.isub, 1) := by decide +kernel
theorem d_Lex_scanWord_78 : decode b_Lex_scanWord 78 = .ok (.goto 4, 3) := by decide +kernel
theorem d_Lex_scanWord_81 : decode b_Lex_scanWord 81 = .ok (.iconst 0, 1) := by decide +kernel
theorem d_Lex_scanWord_82 : decode b_Lex_scanWord 82 = .ok (.putfield 42, 3) := by decide +kernel
theorem d_Lex_scanWord_85 : decode b_Lex_scanWord 85 = .ok (.aload_n 0, 1) := by decide +kernel
theorem d_Lex_scanWord_86 : decode b_Lex_scanWord 86 = .ok (.iload_n 1, 1) := by decide +kernel
theorem d_Lex_scanWord_87 : decode b_Lex_scanWord 87 = .ok (.ifCond .eq 10, 3) := by decide +kernel
theorem d_Lex_scanWord_90 : decode b_Lex_scanWord 90 = .ok (.aload_n 0, 1) := by decide +kernel
theorem d_Lex_scanWord_91 : decode b_Lex_scanWord 91 = .ok (.invokevirtual 96, 3) := by decide +kernel
theorem d_Lex_scanWord_94 : decode b_Lex_scanWord 94 = .ok (.goto 4, 3) := by decide +kernel
theorem d_Lex_scanWord_97 : decode b_Lex_scanWord 97 = .ok (.iconst 1, 1) := by decide +kernel
theorem d_Lex_scanWord_98 : decode b_Lex_scanWord 98 = .ok (.putfield 32, 3) := by decide +kernel
theorem d_Lex_scanWord_101 : decode b_Lex_scanWord 101 = .ok (.return_, 1) := by decide +kernel
theorem d_Lex_scanNumber_0 : decode b_Lex_scanNumber 0 = .ok (.aload_n 0, 1) := by decide +kernel
theorem d_Lex_scanNumber_1 : decode b_Lex_scanNumber 1 = .ok (.getfield 28, 3) := by decide +kernel
theorem d_Lex_scanNumber_4 : decode b_Lex_scanNumber 4 = .ok (.aload_n 0, 1) := by decide +kernel
theorem d_Lex_scanNumber_5 : decode b_Lex_scanNumber 5 = .ok (.getfield 9, 3) := by decide +kernel
theorem d_Lex_scanNumber_8 : decode b_Lex_scanNumber 8 = .ok (.invokevirtual 73, 3) := by decide +kernel
theorem d_Lex_scanNumber_11 : decode b_Lex_scanNumber 11 = .ok (.if_icmp .ge 33, 3) := by decide +kernel
theorem d_Lex_scanNumber_14 : decode b_Lex_scanNumber 14 = .ok (.aload_n 0, 1) := by decide +kernel
theorem d_Lex_scanNumber_15 : decode b_Lex_scanNumber 15 = .ok (.getfield 9, 3) := by decide +kernel
theorem d_Lex_scanNumber_18 : decode b_Lex_scanNumber 18 = .ok (.aload_n 0, 1) := by decide +kernel
theorem d_Lex_scanNumber_19 : decode b_Lex_scanNumber 19 = .ok (.getfield 28, 3) := by decide +kernel
theorem d_Lex_scanNumber_22 : decode b_Lex_scanNumber 22 = .ok (.invokevirtual 58, 3) := by decide +kernel
theorem d_Lex_scanNumber_25 : decode b_Lex_scanNumber 25 = .ok (.invokestatic 84, 3) := by decide +kernel
theorem d_Lex_scanNumber_28 : decode b_Lex_scanNumber 28 = .ok (.ifCond .eq 16, 3) := by decide +kernel
theorem d_Lex_scanNumber_31 : decode b_Lex_scanNumber 31 = .ok (.aload_n 0, 1) := by decide +kernel
theorem d_Lex_scanNumber_32 : decode b_Lex_scanNumber 32 = .ok (.dup, 1) := by decide +kernel
theorem d_Lex_scanNumber_33 : decode b_Lex_scanNumber 33 = .ok (.getfield 28, 3) := by decide +kernel
theorem d_Lex_scanNumber_36 : decode b_Lex_scanNumber 36 = .ok (.iconst 1, 1) := by decide +kernel
theorem d_Lex_scanNumber_37 : decode b_Lex_scanNumber 37 = .ok (.iadd, 1) := by decide +kernel
theorem d_Lex_scanNumber_38 : decode b_Lex_scanNumber 38 = .ok (.putfield 28, 3) := by decide +kernel
theorem d_Lex_scanNumber_41 : decode b_Lex_scanNumber 41 = .ok (.goto (-41), 3) := by decide +kernel
theorem d_Lex_scanNumber_44 : decode b_Lex_scanNumber 44 = .ok (.aload_n 0, 1) := by decide +kernel
theorem d_Lex_scanNumber_45 : decode b_Lex_scanNumber 45 = .ok (.getfield 28, 3) := by decide +kernel
theorem d_Lex_scanNumber_48 : decode b_Lex_scanNumber 48 = .ok (.aload_n 0, 1) := by decide +kernel
theorem d_Lex_scanNumber_49 : decode b_Lex_scanNumber 49 = .ok (.getfield 39, 3) := by decide +kernel
theorem d_Lex_scanNumber_52 : decode b_Lex_scanNumber 52 = .ok (.isub, 1) := by decide +kernel
theorem d_Lex_scanNumber_53 : decode b_Lex_scanNumber 53 = .ok (.iconst 4, 1) := by decide +kernel
theorem d_Lex_scanNumber_54 : decode b_Lex_scanNumber 54 = .ok (.if_icmp .gt 7, 3) := by decide +kernel
theorem d_Lex_scanNumber_57 : decode b_Lex_scanNumber 57 = .ok (.iconst 1, 1) := by decide +kernel
theorem d_Lex_scanNumber_58 : decode b_Lex_scanNumber 58 = .ok (.goto 4, 3) := by decide +kernel
theorem d_Lex_scanNumber_61 : decode b_Lex_scanNumber 61 = .ok (.iconst 0, 1) := by decide +kernel
theorem d_Lex_scanNumber_62 : decode b_Lex_scanNumber 62 = .ok (.istore_n 1, 1) := by decide +kernel
theorem d_Lex_scanNumber_63 : decode b_Lex_scanNumber 63 = .ok (.aload_n 0, 1) := by decide +kernel
theorem d_Lex_scanNumber_64 : decode b_Lex_scanNumber 64 = .ok (.iload_n 1, 1) := by decide +kernel
theorem d_Lex_scanNumber_65 : decode b_Lex_scanNumber 65 = .ok (.ifCond .eq 15, 3) := by decide +kernel
theorem d_Lex_scanNumber_68 : decode b_Lex_scanNumber 68 = .ok (.aload_n 0, 1) := by decide +kernel
theorem d_Lex_scanNumber_69 : decode b_Lex_scanNumber 69 = .ok (.getfield 28, 3) := by decide +kernel
theorem d_Lex_scanNumber_72 : decode b_Lex_scanNumber 72 = .ok (.aload_n 0, 1) := by decide +kernel
theorem d_Lex_scanNumber_73 : decode b_Lex_scanNumber 73 = .ok (.getfield 39, 3) := by decide +kernel
theorem d_Lex_scanNumber_76 : decode b_Lex_scanNumber 76 = .ok (.isub, 1) := by decide +kernel
theorem d_Lex_scanNumber_77 : decode b_Lex_scanNumber 77 = .ok (.goto 4, 3) := by decide +kernel
theorem d_Lex_scanNumber_80 : decode b_Lex_scanNumber 80 = .ok (.iconst 0, 1) := by decide +kernel
theorem d_Lex_scanNumber_81 : decode b_Lex_scanNumber 81 = .ok (.putfield 42, 3) := by decide +kernel
theorem d_Lex_scanNumber_84 : decode b_Lex_scanNumber 84 = .ok (.aload_n 0, 1) := by decide +kernel
theorem d_Lex_scanNumber_85 : decode b_Lex_scanNumber 85 = .ok (.iload_n 1, 1) := by decide +kernel
theorem d_Lex_scanNumber_86 : decode b_Lex_scanNumber 86 = .ok (.ifCond .eq 7, 3) := by decide +kernel
theorem d_Lex_scanNumber_89 : decode b_Lex_scanNumber 89 = .ok (.iconst 3, 1) := by decide +kernel
theorem d_Lex_scanNumber_90 : decode b_Lex_scanNumber 90 = .ok (.goto 4, 3) := by decide +kernel
theorem d_Lex_scanNumber_93 : decode b_Lex_scanNumber 93 = .ok (.iconst 1, 1) := by decide +kernel
theorem d_Lex_scanNumber_94 : decode b_Lex_scanNumber 94 = .ok (.putfield 32, 3) := by decide +kernel
theorem d_Lex_scanNumber_97 : decode b_Lex_scanNumber 97 = .ok (.return_, 1) := by decide +kernel
theorem d_Lex_scanSign_0 : decode b_Lex_scanSign 0 = .ok (.iload_n 1, 1) := by decide +kernel
theorem d_Lex_scanSign_1 : decode b_Lex_scanSign 1 = .ok (.bipush 58, 2) := by decide +kernel
theorem d_Lex_scanSign_3 : decode b_Lex_scanSign 3 = .ok (.if_icmp .ne 9, 3) := by decide +kernel
theorem d_Lex_scanSign_6 : decode b_Lex_scanSign 6 = .ok (.iload_n 2, 1) := by decide +kernel
theorem d_Lex_scanSign_7 : decode b_Lex_scanSign 7 = .ok (.bipush 61, 2) := by decide +kernel
theorem d_Lex_scanSign_9 : decode b_Lex_scanSign 9 = .ok (.if_icmp .eq 27, 3) := by decide +kernel
theorem d_Lex_scanSign_12 : decode b_Lex_scanSign 12 = .ok (.iload_n 1, 1) := by decide +kernel
theorem d_Lex_scanSign_13 : decode b_Lex_scanSign 13 = .ok (.bipush 61, 2) := by decide +kernel
theorem d_Lex_scanSign_15 : decode b_Lex_scanSign 15 = .ok (.if_icmp .ne 9, 3) := by decide +kernel
theorem d_Lex_scanSign_18 : decode b_Lex_scanSign 18 = .ok (.iload_n 2, 1) := by decide +kernel
theorem d_Lex_scanSign_19 : decode b_Lex_scanSign 19 = .ok (.bipush 62, 2) := by decide +kernel
theorem d_Lex_scanSign_21 : decode b_Lex_scanSign 21 = .ok (.if_icmp .eq 15, 3) := by decide +kernel
theorem d_Lex_scanSign_24 : decode b_Lex_scanSign 24 = .ok (.iload_n 1, 1) := by decide +kernel
theorem d_Lex_scanSign_25 : decode b_Lex_scanSign 25 = .ok (.bipush 45, 2) := by decide +kernel
theorem d_Lex_scanSign_27 : decode b_Lex_scanSign 27 = .ok (.if_icmp .ne 13, 3) := by decide +kernel
theorem d_Lex_scanSign_30 : decode b_Lex_scanSign 30 = .ok (.iload_n 2, 1) := by decide +kernel
theorem d_Lex_scanSign_31 : decode b_Lex_scanSign 31 = .ok (.bipush 62, 2) := by decide +kernel
theorem d_Lex_scanSign_33 : decode b_Lex_scanSign 33 = .ok (.if_icmp .ne 7, 3) := by decide +kernel
theorem d_Lex_scanSign_36 : decode b_Lex_scanSign 36 = .ok (.iconst 1, 1) := by decide +kernel
theorem d_Lex_scanSign_37 : decode b_Lex_scanSign 37 = .ok (.goto 4, 3) := by decide +kernel
theorem d_Lex_scanSign_40 : decode b_Lex_scanSign 40 = .ok (.iconst 0, 1) := by decide +kernel
theorem d_Lex_scanSign_41 : decode b_Lex_scanSign 41 = .ok (.istore_n 3, 1) := by decide +kernel
theorem d_Lex_scanSign_42 : decode b_Lex_scanSign 42 = .ok (.aload_n 0, 1) := by decide +kernel
theorem d_Lex_scanSign_43 : decode b_Lex_scanSign 43 = .ok (.dup, 1) := by decide +kernel
theorem d_Lex_scanSign_44 : decode b_Lex_scanSign 44 = .ok (.getfield 28, 3) := by decide +kernel
theorem d_Lex_scanSign_47 : decode b_Lex_scanSign 47 = .ok (.iload_n 3, 1) := by decide +kernel
theorem d_Lex_scanSign_48 : decode b_Lex_scanSign 48 = .ok (.ifCond .eq 7, 3) := by decide +kernel
theorem d_Lex_scanSign_51 : decode b_Lex_scanSign 51 = .ok (.iconst 2, 1) := by decide +kernel
theorem d_Lex_scanSign_52 : decode b_Lex_scanSign 52 = .ok (.goto 4, 3) := by decide +kernel
theorem d_Lex_scanSign_55 : decode b_Lex_scanSign 55 = .ok (.iconst 1, 1) := by decide +kernel
theorem d_Lex_scanSign_56 : decode b_Lex_scanSign 56 = .ok (.iadd, 1) := by decide +kernel
theorem d_Lex_scanSign_57 : decode b_Lex_scanSign 57 = .ok (.putfield 28, 3) := by decide +kernel
theorem d_Lex_scanSign_60 : decode b_Lex_scanSign 60 = .ok (.iload_n 1, 1) := by decide +kernel
theorem d_Lex_scanSign_61 : decode b_Lex_scanSign 61 = .ok (.lookupswitch 206 #[(40, 91), (41, 100), (44, 127), (45, 189), (46, 136), (58, 154), (61, 172), (123, 109), (124, 145), (125, 118)], 91) := by decide +kernel
theorem d_Lex_scanSign_152 : decode b_Lex_scanSign 152 = .ok (.aload_n 0, 1) := by decide +kernel
theorem d_Lex_scanSign_153 : decode b_Lex_scanSign 153 = .ok (.bipush 17, 2) := by decide +kernel
theorem d_Lex_scanSign_155 : decode b_Lex_scanSign 155 = .ok (.putfield 32, 3) := by decide +kernel
theorem d_Lex_scanSign_158 : decode b_Lex_scanSign 158 = .ok (.goto 114, 3) := by decide +kernel
theorem d_Lex_scanSign_161 : decode b_Lex_scanSign 161 = .ok (.aload_n 0, 1) := by decide +kernel
theorem d_Lex_scanSign_162 : decode b_Lex_scanSign 162 = .ok (.bipush 18, 2) := by decide +kernel
theorem d_Lex_scanSign_164 : decode b_Lex_scanSign 164 = .ok (.putfield 32, 3) := by decide +kernel
theorem d_Lex_scanSign_167 : decode b_Lex_scanSign 167 = .ok (.goto 105, 3) := by decide +kernel
theorem d_Lex_scanSign_170 : decode b_Lex_scanSign 170 = .ok (.aload_n 0, 1) := by decide +kernel
theorem d_Lex_scanSign_171 : decode b_Lex_scanSign 171 = .ok (.bipush 19, 2) := by decide +kernel
theorem d_Lex_scanSign_173 : decode b_Lex_scanSign 173 = .ok (.putfield 32, 3) := by decide +kernel
theorem d_Lex_scanSign_176 : decode b_Lex_scanSign 176 = .ok (.goto 96, 3) := by decide +kernel
theorem d_Lex_scanSign_179 : decode b_Lex_scanSign 179 = .ok (.aload_n 0, 1) := by decide +kernel
theorem d_Lex_scanSign_180 : decode b_Lex_scanSign 180 = .ok (.bipush 20, 2) := by decide +kernel
theorem d_Lex_scanSign_182 : decode b_Lex_scanSign 182 = .ok (.putfield 32, 3) := by decide +kernel
theorem d_Lex_scanSign_185 : decode b_Lex_scanSign 185 = .ok (.goto 87, 3) := by decide +kernel
theorem d_Lex_scanSign_188 : decode b_Lex_scanSign 188 = .ok (.aload_n 0, 1) := by decide +kernel
theorem d_Lex_scanSign_189 : decode b_Lex_scanSign 189 = .ok (.bipush 22, 2) := by decide +kernel
theorem d_Lex_scanSign_191 : decode b_Lex_scanSign 191 = .ok (.putfield 32, 3) := by decide +kernel
theorem d_Lex_scanSign_194 : decode b_Lex_scanSign 194 = .ok (.goto 78, 3) := by decide +kernel
theorem d_Lex_scanSign_197 : decode b_Lex_scanSign 197 = .ok (.aload_n 0, 1) := by decide +kernel
theorem d_Lex_scanSign_198 : decode b_Lex_scanSign 198 = .ok (.bipush 23, 2) := by decide +kernel
theorem d_Lex_scanSign_200 : decode b_Lex_scanSign 200 = .ok (.putfield 32, 3) := by decide +kernel
theorem d_Lex_scanSign_203 : decode b_Lex_scanSign 203 = .ok (.goto 69, 3) := by decide +kernel
theorem d_Lex_scanSign_206 : decode b_Lex_scanSign 206 = .ok (.aload_n 0, 1) := by decide +kernel
theorem d_Lex_scanSign_207 : decode b_Lex_scanSign 207 = .ok (.bipush 24, 2) := by decide +kernel
theorem d_Lex_scanSign_209 : decode b_Lex_scanSign 209 = .ok (.putfield 32, 3) := by decide +kernel
theorem d_Lex_scanSign_212 : decode b_Lex_scanSign 212 = .ok (.goto 60, 3) := by decide +kernel
theorem d_Lex_scanSign_215 : decode b_Lex_scanSign 215 = .ok (.aload_n 0, 1) := by decide +kernel
theorem d_Lex_scanSign_216 : decode b_Lex_scanSign 216 = .ok (.iload_n 3, 1) := by decide +kernel
theorem d_Lex_scanSign_217 : decode b_Lex_scanSign 217 = .ok (.ifCond .eq 8, 3) := by decide +kernel
theorem d_Lex_scanSign_220 : decode b_Lex_scanSign 220 = .ok (.bipush 25, 2) := by decide +kernel
theorem d_Lex_scanSign_222 : decode b_Lex_scanSign 222 = .ok (.goto 5, 3) := by decide +kernel
theorem d_Lex_scanSign_225 : decode b_Lex_scanSign 225 = .ok (.bipush 21, 2) := by decide +kernel
theorem d_Lex_scanSign_227 : decode b_Lex_scanSign 227 = .ok (.putfield 32, 3) := by decide +kernel
theorem d_Lex_scanSign_230 : decode b_Lex_scanSign 230 = .ok (.goto 42, 3) := by decide +kernel
theorem d_Lex_scanSign_233 : decode b_Lex_scanSign 233 = .ok (.aload_n 0, 1) := by decide +kernel
theorem d_Lex_scanSign_234 : decode b_Lex_scanSign 234 = .ok (.iload_n 3, 1) := by decide +kernel
theorem d_Lex_scanSign_235 : decode b_Lex_scanSign 235 = .ok (.ifCond .eq 8, 3) := by decide +kernel
theorem d_Lex_scanSign_238 : decode b_Lex_scanSign 238 = .ok (.bipush 26, 2) := by decide +kernel
theorem d_Lex_scanSign_240 : decode b_Lex_scanSign 240 = .ok (.goto 4, 3) := by decide +kernel
theorem d_Lex_scanSign_243 : decode b_Lex_scanSign 243 = .ok (.iconst 1, 1) := by decide +kernel
theorem d_Lex_scanSign_244 : decode b_Lex_scanSign 244 = .ok (.putfield 32, 3) := by decide +kernel
theorem d_Lex_scanSign_247 : decode b_Lex_scanSign 247 = .ok (.goto 25, 3) := by decide +kernel
theorem d_Lex_scanSign_250 : decode b_Lex_scanSign 250 = .ok (.aload_n 0, 1) := by decide +kernel
theorem d_Lex_scanSign_251 : decode b_Lex_scanSign 251 = .ok (.iload_n 3, 1) := by decide +kernel
theorem d_Lex_scanSign_252 : decode b_Lex_scanSign 252 = .ok (.ifCond .eq 8, 3) := by decide +kernel
theorem d_Lex_scanSign_255 : decode b_Lex_scanSign 255 = .ok (.bipush 27, 2) := by decide +kernel
theorem d_Lex_scanSign_257 : decode b_Lex_scanSign 257 = .ok (.goto 4, 3) := by decide +kernel
theorem d_Lex_scanSign_260 : decode b_Lex_scanSign 260 = .ok (.iconst 1, 1) := by decide +kernel
theorem d_Lex_scanSign_261 : decode b_Lex_scanSign 261 = .ok (.putfield 32, 3) := by decide +kernel
theorem d_Lex_scanSign_264 : decode b_Lex_scanSign 264 = .ok (.goto 8, 3) := by decide +kernel
theorem d_Lex_scanSign_267 : decode b_Lex_scanSign 267 = .ok (.aload_n 0, 1) := by decide +kernel
theorem d_Lex_scanSign_268 : decode b_Lex_scanSign 268 = .ok (.iconst 1, 1) := by decide +kernel
theorem d_Lex_scanSign_269 : decode b_Lex_scanSign 269 = .ok (.putfield 32, 3) := by decide +kernel
theorem d_Lex_scanSign_272 : decode b_Lex_scanSign 272 = .ok (.return_, 1) := by decide +kernel
theorem d_Lex_scan_0 : decode b_Lex_scan 0 = .ok (.aload_n 0, 1) := by decide +kernel
theorem d_Lex_scan_1 : decode b_Lex_scan 1 = .ok (.invokevirtual 70, 3) := by decide +kernel
theorem d_Lex_scan_4 : decode b_Lex_scan 4 = .ok (.aload_n 0, 1) := by decide +kernel
theorem d_Lex_scan_5 : decode b_Lex_scan 5 = .ok (.aload_n 0, 1) := by decide +kernel
theorem d_Lex_scan_6 : decode b_Lex_scan 6 = .ok (.getfield 28, 3) := by decide +kernel
theorem d_Lex_scan_9 : decode b_Lex_scan 9 = .ok (.putfield 39, 3) := by decide +kernel
theorem d_Lex_scan_12 : decode b_Lex_scan 12 = .ok (.aload_n 0, 1) := by decide +kernel
theorem d_Lex_scan_13 : decode b_Lex_scan 13 = .ok (.iconst 0, 1) := by decide +kernel
theorem d_Lex_scan_14 : decode b_Lex_scan 14 = .ok (.putfield 42, 3) := by decide +kernel
theorem d_Lex_scan_17 : decode b_Lex_scan 17 = .ok (.aload_n 0, 1) := by decide +kernel
theorem d_Lex_scan_18 : decode b_Lex_scan 18 = .ok (.getfield 9, 3) := by decide +kernel
theorem d_Lex_scan_21 : decode b_Lex_scan 21 = .ok (.aload_n 0, 1) := by decide +kernel
theorem d_Lex_scan_22 : decode b_Lex_scan 22 = .ok (.getfield 28, 3) := by decide +kernel
theorem d_Lex_scan_25 : decode b_Lex_scan 25 = .ok (.invokevirtual 58, 3) := by decide +kernel
theorem d_Lex_scan_28 : decode b_Lex_scan 28 = .ok (.istore_n 1, 1) := by decide +kernel
theorem d_Lex_scan_29 : decode b_Lex_scan 29 = .ok (.aload_n 0, 1) := by decide +kernel
theorem d_Lex_scan_30 : decode b_Lex_scan 30 = .ok (.getfield 28, 3) := by decide +kernel
theorem d_Lex_scan_33 : decode b_Lex_scan 33 = .ok (.aload_n 0, 1) := by decide +kernel
theorem d_Lex_scan_34 : decode b_Lex_scan 34 = .ok (.getfield 9, 3) := by decide +kernel
theorem d_Lex_scan_37 : decode b_Lex_scan 37 = .ok (.invokevirtual 73, 3) := by decide +kernel
theorem d_Lex_scan_40 : decode b_Lex_scan 40 = .ok (.if_icmp .lt 11, 3) := by decide +kernel
theorem d_Lex_scan_43 : decode b_Lex_scan 43 = .ok (.aload_n 0, 1) := by decide +kernel
theorem d_Lex_scan_44 : decode b_Lex_scan 44 = .ok (.iconst 0, 1) := by decide +kernel
theorem d_Lex_scan_45 : decode b_Lex_scan 45 = .ok (.putfield 32, 3) := by decide +kernel
theorem d_Lex_scan_48 : decode b_Lex_scan 48 = .ok (.goto 49, 3) := by decide +kernel
theorem d_Lex_scan_51 : decode b_Lex_scan 51 = .ok (.iload_n 1, 1) := by decide +kernel
theorem d_Lex_scan_52 : decode b_Lex_scan 52 = .ok (.invokestatic 77, 3) := by decide +kernel
theorem d_Lex_scan_55 : decode b_Lex_scan 55 = .ok (.ifCond .eq 10, 3) := by decide +kernel
theorem d_Lex_scan_58 : decode b_Lex_scan 58 = .ok (.aload_n 0, 1) := by decide +kernel
theorem d_Lex_scan_59 : decode b_Lex_scan 59 = .ok (.invokevirtual 81, 3) := by decide +kernel
theorem d_Lex_scan_62 : decode b_Lex_scan 62 = .ok (.goto 35, 3) := by decide +kernel
theorem d_Lex_scan_65 : decode b_Lex_scan 65 = .ok (.iload_n 1, 1) := by decide +kernel
theorem d_Lex_scan_66 : decode b_Lex_scan 66 = .ok (.invokestatic 84, 3) := by decide +kernel
theorem d_Lex_scan_69 : decode b_Lex_scan 69 = .ok (.ifCond .eq 10, 3) := by decide +kernel
theorem d_Lex_scan_72 : decode b_Lex_scan 72 = .ok (.aload_n 0, 1) := by decide +kernel
theorem d_Lex_scan_73 : decode b_Lex_scan 73 = .ok (.invokevirtual 87, 3) := by decide +kernel
theorem d_Lex_scan_76 : decode b_Lex_scan 76 = .ok (.goto 21, 3) := by decide +kernel
theorem d_Lex_scan_79 : decode b_Lex_scan 79 = .ok (.aload_n 0, 1) := by decide +kernel
theorem d_Lex_scan_80 : decode b_Lex_scan 80 = .ok (.iload_n 1, 1) := by decide +kernel
theorem d_Lex_scan_81 : decode b_Lex_scan 81 = .ok (.aload_n 0, 1) := by decide +kernel
theorem d_Lex_scan_82 : decode b_Lex_scan 82 = .ok (.getfield 9, 3) := by decide +kernel
theorem d_Lex_scan_85 : decode b_Lex_scan 85 = .ok (.aload_n 0, 1) := by decide +kernel
theorem d_Lex_scan_86 : decode b_Lex_scan 86 = .ok (.getfield 28, 3) := by decide +kernel
theorem d_Lex_scan_89 : decode b_Lex_scan 89 = .ok (.iconst 1, 1) := by decide +kernel
theorem d_Lex_scan_90 : decode b_Lex_scan 90 = .ok (.iadd, 1) := by decide +kernel
theorem d_Lex_scan_91 : decode b_Lex_scan 91 = .ok (.invokevirtual 58, 3) := by decide +kernel
theorem d_Lex_scan_94 : decode b_Lex_scan 94 = .ok (.invokevirtual 90, 3) := by decide +kernel
theorem d_Lex_scan_97 : decode b_Lex_scan 97 = .ok (.return_, 1) := by decide +kernel
theorem d_Lex_named_0 : decode b_Lex_named 0 = .ok (.iload_n 0, 1) := by decide +kernel
theorem d_Lex_named_1 : decode b_Lex_named 1 = .ok (.bipush 32, 2) := by decide +kernel
theorem d_Lex_named_3 : decode b_Lex_named 3 = .ok (.imul, 1) := by decide +kernel
theorem d_Lex_named_4 : decode b_Lex_named 4 = .ok (.iload_n 1, 1) := by decide +kernel
theorem d_Lex_named_5 : decode b_Lex_named 5 = .ok (.iadd, 1) := by decide +kernel
theorem d_Lex_named_6 : decode b_Lex_named 6 = .ok (.ireturn, 1) := by decide +kernel
theorem d_Lex_advance_0 : decode b_Lex_advance 0 = .ok (.aload_n 0, 1) := by decide +kernel
theorem d_Lex_advance_1 : decode b_Lex_advance 1 = .ok (.dup, 1) := by decide +kernel
theorem d_Lex_advance_2 : decode b_Lex_advance 2 = .ok (.getfield 52, 3) := by decide +kernel
theorem d_Lex_advance_5 : decode b_Lex_advance 5 = .ok (.iconst 1, 1) := by decide +kernel
theorem d_Lex_advance_6 : decode b_Lex_advance 6 = .ok (.iadd, 1) := by decide +kernel
theorem d_Lex_advance_7 : decode b_Lex_advance 7 = .ok (.putfield 52, 3) := by decide +kernel
theorem d_Lex_advance_10 : decode b_Lex_advance 10 = .ok (.aload_n 0, 1) := by decide +kernel
theorem d_Lex_advance_11 : decode b_Lex_advance 11 = .ok (.getfield 21, 3) := by decide +kernel
theorem d_Lex_advance_14 : decode b_Lex_advance 14 = .ok (.aload_n 0, 1) := by decide +kernel
theorem d_Lex_advance_15 : decode b_Lex_advance 15 = .ok (.getfield 52, 3) := by decide +kernel
theorem d_Lex_advance_18 : decode b_Lex_advance 18 = .ok (.invokevirtual 58, 3) := by decide +kernel
theorem d_Lex_advance_21 : decode b_Lex_advance 21 = .ok (.istore_n 1, 1) := by decide +kernel
theorem d_Lex_advance_22 : decode b_Lex_advance 22 = .ok (.aload_n 0, 1) := by decide +kernel
theorem d_Lex_advance_23 : decode b_Lex_advance 23 = .ok (.iload_n 1, 1) := by decide +kernel
theorem d_Lex_advance_24 : decode b_Lex_advance 24 = .ok (.bipush 32, 2) := by decide +kernel
theorem d_Lex_advance_26 : decode b_Lex_advance 26 = .ok (.irem, 1) := by decide +kernel
theorem d_Lex_advance_27 : decode b_Lex_advance 27 = .ok (.putfield 32, 3) := by decide +kernel
theorem d_Lex_advance_30 : decode b_Lex_advance 30 = .ok (.aload_n 0, 1) := by decide +kernel
theorem d_Lex_advance_31 : decode b_Lex_advance 31 = .ok (.iload_n 1, 1) := by decide +kernel
theorem d_Lex_advance_32 : decode b_Lex_advance 32 = .ok (.bipush 32, 2) := by decide +kernel
theorem d_Lex_advance_34 : decode b_Lex_advance 34 = .ok (.idiv, 1) := by decide +kernel
theorem d_Lex_advance_35 : decode b_Lex_advance 35 = .ok (.bipush 32, 2) := by decide +kernel
theorem d_Lex_advance_37 : decode b_Lex_advance 37 = .ok (.irem, 1) := by decide +kernel
theorem d_Lex_advance_38 : decode b_Lex_advance 38 = .ok (.putfield 42, 3) := by decide +kernel
theorem d_Lex_advance_41 : decode b_Lex_advance 41 = .ok (.aload_n 0, 1) := by decide +kernel
theorem d_Lex_advance_42 : decode b_Lex_advance 42 = .ok (.iload_n 1, 1) := by decide +kernel
theorem d_Lex_advance_43 : decode b_Lex_advance 43 = .ok (.bipush 32, 2) := by decide +kernel
theorem d_Lex_advance_45 : decode b_Lex_advance 45 = .ok (.idiv, 1) := by decide +kernel
theorem d_Lex_advance_46 : decode b_Lex_advance 46 = .ok (.bipush 32, 2) := by decide +kernel
theorem d_Lex_advance_48 : decode b_Lex_advance 48 = .ok (.idiv, 1) := by decide +kernel
theorem d_Lex_advance_49 : decode b_Lex_advance 49 = .ok (.putfield 39, 3) := by decide +kernel
theorem d_Lex_advance_52 : decode b_Lex_advance 52 = .ok (.return_, 1) := by decide +kernel
theorem d_Lex_begin_0 : decode b_Lex_begin 0 = .ok (.aload_n 0, 1) := by decide +kernel
theorem d_Lex_begin_1 : decode b_Lex_begin 1 = .ok (.getfield 21, 3) := by decide +kernel
theorem d_Lex_begin_4 : decode b_Lex_begin 4 = .ok (.iconst 0, 1) := by decide +kernel
theorem d_Lex_begin_5 : decode b_Lex_begin 5 = .ok (.invokevirtual 24, 3) := by decide +kernel
theorem d_Lex_begin_8 : decode b_Lex_begin 8 = .ok (.aload_n 0, 1) := by decide +kernel
theorem d_Lex_begin_9 : decode b_Lex_begin 9 = .ok (.iconst 0, 1) := by decide +kernel
theorem d_Lex_begin_10 : decode b_Lex_begin 10 = .ok (.putfield 28, 3) := by decide +kernel
theorem d_Lex_begin_13 : decode b_Lex_begin 13 = .ok (.aload_n 0, 1) := by decide +kernel
theorem d_Lex_begin_14 : decode b_Lex_begin 14 = .ok (.iconst 1, 1) := by decide +kernel
theorem d_Lex_begin_15 : decode b_Lex_begin 15 = .ok (.putfield 32, 3) := by decide +kernel
theorem d_Lex_begin_18 : decode b_Lex_begin 18 = .ok (.iconst 0, 1) := by decide +kernel
theorem d_Lex_begin_19 : decode b_Lex_begin 19 = .ok (.istore_n 1, 1) := by decide +kernel
theorem d_Lex_begin_20 : decode b_Lex_begin 20 = .ok (.iload_n 1, 1) := by decide +kernel
theorem d_Lex_begin_21 : decode b_Lex_begin 21 = .ok (.ldc 35, 2) := by decide +kernel
theorem d_Lex_begin_23 : decode b_Lex_begin 23 = .ok (.if_icmp .gt 46, 3) := by decide +kernel
theorem d_Lex_begin_26 : decode b_Lex_begin 26 = .ok (.aload_n 0, 1) := by decide +kernel
theorem d_Lex_begin_27 : decode b_Lex_begin 27 = .ok (.getfield 32, 3) := by decide +kernel
theorem d_Lex_begin_30 : decode b_Lex_begin 30 = .ok (.ifCond .eq 39, 3) := by decide +kernel
theorem d_Lex_begin_33 : decode b_Lex_begin 33 = .ok (.aload_n 0, 1) := by decide +kernel
theorem d_Lex_begin_34 : decode b_Lex_begin 34 = .ok (.invokevirtual 36, 3) := by decide +kernel
theorem d_Lex_begin_37 : decode b_Lex_begin 37 = .ok (.aload_n 0, 1) := by decide +kernel
theorem d_Lex_begin_38 : decode b_Lex_begin 38 = .ok (.getfield 21, 3) := by decide +kernel
theorem d_Lex_begin_41 : decode b_Lex_begin 41 = .ok (.aload_n 0, 1) := by decide +kernel
theorem d_Lex_begin_42 : decode b_Lex_begin 42 = .ok (.getfield 39, 3) := by decide +kernel
theorem d_Lex_begin_45 : decode b_Lex_begin 45 = .ok (.aload_n 0, 1) := by decide +kernel
theorem d_Lex_begin_46 : decode b_Lex_begin 46 = .ok (.getfield 42, 3) := by decide +kernel
theorem d_Lex_begin_49 : decode b_Lex_begin 49 = .ok (.invokestatic 45, 3) := by decide +kernel
theorem d_Lex_begin_52 : decode b_Lex_begin 52 = .ok (.bipush 32, 2) := by decide +kernel
theorem d_Lex_begin_54 : decode b_Lex_begin 54 = .ok (.imul, 1) := by decide +kernel
theorem d_Lex_begin_55 : decode b_Lex_begin 55 = .ok (.aload_n 0, 1) := by decide +kernel
theorem d_Lex_begin_56 : decode b_Lex_begin 56 = .ok (.getfield 32, 3) := by decide +kernel
theorem d_Lex_begin_59 : decode b_Lex_begin 59 = .ok (.iadd, 1) := by decide +kernel
theorem d_Lex_begin_60 : decode b_Lex_begin 60 = .ok (.invokevirtual 49, 3) := by decide +kernel
theorem d_Lex_begin_63 : decode b_Lex_begin 63 = .ok (.iinc 1 1, 3) := by decide +kernel
theorem d_Lex_begin_66 : decode b_Lex_begin 66 = .ok (.goto (-46), 3) := by decide +kernel
theorem d_Lex_begin_69 : decode b_Lex_begin 69 = .ok (.aload_n 0, 1) := by decide +kernel
theorem d_Lex_begin_70 : decode b_Lex_begin 70 = .ok (.iconst (-1), 1) := by decide +kernel
theorem d_Lex_begin_71 : decode b_Lex_begin 71 = .ok (.putfield 52, 3) := by decide +kernel
theorem d_Lex_begin_74 : decode b_Lex_begin 74 = .ok (.aload_n 0, 1) := by decide +kernel
theorem d_Lex_begin_75 : decode b_Lex_begin 75 = .ok (.invokevirtual 55, 3) := by decide +kernel
theorem d_Lex_begin_78 : decode b_Lex_begin 78 = .ok (.return_, 1) := by decide +kernel
theorem d_Lex_kind_0 : decode b_Lex_kind 0 = .ok (.aload_n 0, 1) := by decide +kernel
theorem d_Lex_kind_1 : decode b_Lex_kind 1 = .ok (.getfield 32, 3) := by decide +kernel
theorem d_Lex_kind_4 : decode b_Lex_kind 4 = .ok (.ireturn, 1) := by decide +kernel
theorem d_Lex_start_0 : decode b_Lex_start 0 = .ok (.aload_n 0, 1) := by decide +kernel
theorem d_Lex_start_1 : decode b_Lex_start 1 = .ok (.getfield 39, 3) := by decide +kernel
theorem d_Lex_start_4 : decode b_Lex_start 4 = .ok (.ireturn, 1) := by decide +kernel
theorem d_Lex_lengthOf_0 : decode b_Lex_lengthOf 0 = .ok (.iload_n 0, 1) := by decide +kernel
theorem d_Lex_lengthOf_1 : decode b_Lex_lengthOf 1 = .ok (.bipush 32, 2) := by decide +kernel
theorem d_Lex_lengthOf_3 : decode b_Lex_lengthOf 3 = .ok (.irem, 1) := by decide +kernel
theorem d_Lex_lengthOf_4 : decode b_Lex_lengthOf 4 = .ok (.ireturn, 1) := by decide +kernel
theorem d_Lex_startOf_0 : decode b_Lex_startOf 0 = .ok (.iload_n 0, 1) := by decide +kernel
theorem d_Lex_startOf_1 : decode b_Lex_startOf 1 = .ok (.bipush 32, 2) := by decide +kernel
theorem d_Lex_startOf_3 : decode b_Lex_startOf 3 = .ok (.idiv, 1) := by decide +kernel
theorem d_Lex_startOf_4 : decode b_Lex_startOf 4 = .ok (.ireturn, 1) := by decide +kernel
theorem d_Lex_standsAt_0 : decode b_Lex_standsAt 0 = .ok (.iload_n 2, 1) := by decide +kernel
theorem d_Lex_standsAt_1 : decode b_Lex_standsAt 1 = .ok (.invokestatic 64, 3) := by decide +kernel
theorem d_Lex_standsAt_4 : decode b_Lex_standsAt 4 = .ok (.aload_n 0, 1) := by decide +kernel
theorem d_Lex_standsAt_5 : decode b_Lex_standsAt 5 = .ok (.getfield 42, 3) := by decide +kernel
theorem d_Lex_standsAt_8 : decode b_Lex_standsAt 8 = .ok (.if_icmp .ne 7, 3) := by decide +kernel
theorem d_Lex_standsAt_11 : decode b_Lex_standsAt 11 = .ok (.iconst 1, 1) := by decide +kernel
theorem d_Lex_standsAt_12 : decode b_Lex_standsAt 12 = .ok (.goto 4, 3) := by decide +kernel
theorem d_Lex_standsAt_15 : decode b_Lex_standsAt 15 = .ok (.iconst 0, 1) := by decide +kernel
theorem d_Lex_standsAt_16 : decode b_Lex_standsAt 16 = .ok (.istore_n 3, 1) := by decide +kernel
theorem d_Lex_standsAt_17 : decode b_Lex_standsAt 17 = .ok (.iconst 0, 1) := by decide +kernel
theorem d_Lex_standsAt_18 : decode b_Lex_standsAt 18 = .ok (.istore 4, 2) := by decide +kernel
theorem d_Lex_standsAt_20 : decode b_Lex_standsAt 20 = .ok (.iload_n 3, 1) := by decide +kernel
theorem d_Lex_standsAt_21 : decode b_Lex_standsAt 21 = .ok (.ifCond .eq 52, 3) := by decide +kernel
theorem d_Lex_standsAt_24 : decode b_Lex_standsAt 24 = .ok (.iload 4, 2) := by decide +kernel
theorem d_Lex_standsAt_26 : decode b_Lex_standsAt 26 = .ok (.aload_n 0, 1) := by decide +kernel
theorem d_Lex_standsAt_27 : decode b_Lex_standsAt 27 = .ok (.getfield 42, 3) := by decide +kernel
theorem d_Lex_standsAt_30 : decode b_Lex_standsAt 30 = .ok (.if_icmp .ge 43, 3) := by decide +kernel
theorem d_Lex_standsAt_33 : decode b_Lex_standsAt 33 = .ok (.aload_n 1, 1) := by decide +kernel
theorem d_Lex_standsAt_34 : decode b_Lex_standsAt 34 = .ok (.iload_n 2, 1) := by decide +kernel
theorem d_Lex_standsAt_35 : decode b_Lex_standsAt 35 = .ok (.invokestatic 67, 3) := by decide +kernel
theorem d_Lex_standsAt_38 : decode b_Lex_standsAt 38 = .ok (.iload 4, 2) := by decide +kernel
theorem d_Lex_standsAt_40 : decode b_Lex_standsAt 40 = .ok (.iadd, 1) := by decide +kernel
theorem d_Lex_standsAt_41 : decode b_Lex_standsAt 41 = .ok (.invokevirtual 58, 3) := by decide +kernel
theorem d_Lex_standsAt_44 : decode b_Lex_standsAt 44 = .ok (.aload_n 0, 1) := by decide +kernel
theorem d_Lex_standsAt_45 : decode b_Lex_standsAt 45 = .ok (.getfield 9, 3) := by decide +kernel
theorem d_Lex_standsAt_48 : decode b_Lex_standsAt 48 = .ok (.aload_n 0, 1) := by decide +kernel
theorem d_Lex_standsAt_49 : decode b_Lex_standsAt 49 = .ok (.getfield 39, 3) := by decide +kernel
theorem d_Lex_standsAt_52 : decode b_Lex_standsAt 52 = .ok (.iload 4, 2) := by decide +kernel
theorem d_Lex_standsAt_54 : decode b_Lex_standsAt 54 = .ok (.iadd, 1) := by decide +kernel
theorem d_Lex_standsAt_55 : decode b_Lex_standsAt 55 = .ok (.invokevirtual 58, 3) := by decide +kernel
theorem d_Lex_standsAt_58 : decode b_Lex_standsAt 58 = .ok (.if_icmp .ne 7, 3) := by decide +kernel
theorem d_Lex_standsAt_61 : decode b_Lex_standsAt 61 = .ok (.iconst 1, 1) := by decide +kernel
theorem d_Lex_standsAt_62 : decode b_Lex_standsAt 62 = .ok (.goto 4, 3) := by decide +kernel
theorem d_Lex_standsAt_65 : decode b_Lex_standsAt 65 = .ok (.iconst 0, 1) := by decide +kernel
theorem d_Lex_standsAt_66 : decode b_Lex_standsAt 66 = .ok (.istore_n 3, 1) := by decide +kernel
theorem d_Lex_standsAt_67 : decode b_Lex_standsAt 67 = .ok (.iinc 4 1, 3) := by decide +kernel
