theorem d_Terms_isUntouched_0 : decode b_Terms_isUntouched 0 = .ok (.iload_n 1, 1) := by decide +kernel
theorem d_Terms_isUntouched_1 : decode b_Terms_isUntouched 1 = .ok (.iconst 5, 1) := by decide +kernel
theorem d_Terms_isUntouched_2 : decode b_Terms_isUntouched 2 = .ok (.if_icmp .ne 5, 3) := by decide +kernel
theorem d_Terms_isUntouched_5 : decode b_Terms_isUntouched 5 = .ok (.iconst 0, 1) := by decide +kernel
theorem d_Terms_isUntouched_6 : decode b_Terms_isUntouched 6 = .ok (.ireturn, 1) := by decide +kernel
theorem d_Terms_isUntouched_7 : decode b_Terms_isUntouched 7 = .ok (.iload_n 1, 1) := by decide +kernel
theorem d_Terms_isUntouched_8 : decode b_Terms_isUntouched 8 = .ok (.iconst 2, 1) := by decide +kernel
theorem d_Terms_isUntouched_9 : decode b_Terms_isUntouched 9 = .ok (.if_icmp .ne 20, 3) := by decide +kernel
theorem d_Terms_isUntouched_12 : decode b_Terms_isUntouched 12 = .ok (.aload_n 0, 1) := by decide +kernel
theorem d_Terms_isUntouched_13 : decode b_Terms_isUntouched 13 = .ok (.iload_n 2, 1) := by decide +kernel
theorem d_Terms_isUntouched_14 : decode b_Terms_isUntouched 14 = .ok (.invokevirtual 84, 3) := by decide +kernel
theorem d_Terms_isUntouched_17 : decode b_Terms_isUntouched 17 = .ok (.iload_n 3, 1) := by decide +kernel
theorem d_Terms_isUntouched_18 : decode b_Terms_isUntouched 18 = .ok (.if_icmp .gt 7, 3) := by decide +kernel
theorem d_Terms_isUntouched_21 : decode b_Terms_isUntouched 21 = .ok (.iconst 1, 1) := by decide +kernel
theorem d_Terms_isUntouched_22 : decode b_Terms_isUntouched 22 = .ok (.goto 22, 3) := by decide +kernel
theorem d_Terms_isUntouched_25 : decode b_Terms_isUntouched 25 = .ok (.iconst 0, 1) := by decide +kernel
theorem d_Terms_isUntouched_26 : decode b_Terms_isUntouched 26 = .ok (.goto 18, 3) := by decide +kernel
theorem d_Terms_isUntouched_29 : decode b_Terms_isUntouched 29 = .ok (.aload_n 0, 1) := by decide +kernel
theorem d_Terms_isUntouched_30 : decode b_Terms_isUntouched 30 = .ok (.iload_n 2, 1) := by decide +kernel
theorem d_Terms_isUntouched_31 : decode b_Terms_isUntouched 31 = .ok (.invokevirtual 78, 3) := by decide +kernel
theorem d_Terms_isUntouched_34 : decode b_Terms_isUntouched 34 = .ok (.iload 4, 2) := by decide +kernel
theorem d_Terms_isUntouched_36 : decode b_Terms_isUntouched 36 = .ok (.if_icmp .gt 7, 3) := by decide +kernel
theorem d_Terms_isUntouched_39 : decode b_Terms_isUntouched 39 = .ok (.iconst 1, 1) := by decide +kernel
theorem d_Terms_isUntouched_40 : decode b_Terms_isUntouched 40 = .ok (.goto 4, 3) := by decide +kernel
theorem d_Terms_isUntouched_43 : decode b_Terms_isUntouched 43 = .ok (.iconst 0, 1) := by decide +kernel
theorem d_Terms_isUntouched_44 : decode b_Terms_isUntouched 44 = .ok (.ireturn, 1) := by decide +kernel
theorem d_Terms_changedName_0 : decode b_Terms_changedName 0 = .ok (.aload_n 0, 1) := by decide +kernel
theorem d_Terms_changedName_1 : decode b_Terms_changedName 1 = .ok (.iload_n 2, 1) := by decide +kernel
theorem d_Terms_changedName_2 : decode b_Terms_changedName 2 = .ok (.invokevirtual 56, 3) := by decide +kernel
theorem d_Terms_changedName_5 : decode b_Terms_changedName 5 = .ok (.istore 5, 2) := by decide +kernel
theorem d_Terms_changedName_7 : decode b_Terms_changedName 7 = .ok (.iload_n 1, 1) := by decide +kernel
theorem d_Terms_changedName_8 : decode b_Terms_changedName 8 = .ok (.tableswitch 46 2 4 #[28, 31, 36], 28) := by decide +kernel
theorem d_Terms_changedName_36 : decode b_Terms_changedName 36 = .ok (.iload 4, 2) := by decide +kernel
theorem d_Terms_changedName_38 : decode b_Terms_changedName 38 = .ok (.ireturn, 1) := by decide +kernel
theorem d_Terms_changedName_39 : decode b_Terms_changedName 39 = .ok (.iload 5, 2) := by decide +kernel
theorem d_Terms_changedName_41 : decode b_Terms_changedName 41 = .ok (.iload_n 3, 1) := by decide +kernel
theorem d_Terms_changedName_42 : decode b_Terms_changedName 42 = .ok (.iadd, 1) := by decide +kernel
theorem d_Terms_changedName_43 : decode b_Terms_changedName 43 = .ok (.ireturn, 1) := by decide +kernel
theorem d_Terms_changedName_44 : decode b_Terms_changedName 44 = .ok (.iload_n 3, 1) := by decide +kernel
theorem d_Terms_changedName_45 : decode b_Terms_changedName 45 = .ok (.iconst 1, 1) := by decide +kernel
theorem d_Terms_changedName_46 : decode b_Terms_changedName 46 = .ok (.isub, 1) := by decide +kernel
theorem d_Terms_changedName_47 : decode b_Terms_changedName 47 = .ok (.iload 5, 2) := by decide +kernel
theorem d_Terms_changedName_49 : decode b_Terms_changedName 49 = .ok (.isub, 1) := by decide +kernel
theorem d_Terms_changedName_50 : decode b_Terms_changedName 50 = .ok (.iload 4, 2) := by decide +kernel
theorem d_Terms_changedName_52 : decode b_Terms_changedName 52 = .ok (.iadd, 1) := by decide +kernel
theorem d_Terms_changedName_53 : decode b_Terms_changedName 53 = .ok (.ireturn, 1) := by decide +kernel
theorem d_Terms_changedName_54 : decode b_Terms_changedName 54 = .ok (.aload_n 0, 1) := by decide +kernel
theorem d_Terms_changedName_55 : decode b_Terms_changedName 55 = .ok (.iload_n 2, 1) := by decide +kernel
theorem d_Terms_changedName_56 : decode b_Terms_changedName 56 = .ok (.invokevirtual 52, 3) := by decide +kernel
theorem d_Terms_changedName_59 : decode b_Terms_changedName 59 = .ok (.iconst 2, 1) := by decide +kernel
theorem d_Terms_changedName_60 : decode b_Terms_changedName 60 = .ok (.if_icmp .ne 14, 3) := by decide +kernel
theorem d_Terms_changedName_63 : decode b_Terms_changedName 63 = .ok (.iload 5, 2) := by decide +kernel
theorem d_Terms_changedName_65 : decode b_Terms_changedName 65 = .ok (.bipush 101, 2) := by decide +kernel
theorem d_Terms_changedName_67 : decode b_Terms_changedName 67 = .ok (.if_icmp .ne 7, 3) := by decide +kernel
theorem d_Terms_changedName_70 : decode b_Terms_changedName 70 = .ok (.iload_n 3, 1) := by decide +kernel
theorem d_Terms_changedName_71 : decode b_Terms_changedName 71 = .ok (.goto 5, 3) := by decide +kernel
theorem d_Terms_changedName_74 : decode b_Terms_changedName 74 = .ok (.iload 5, 2) := by decide +kernel
theorem d_Terms_changedName_76 : decode b_Terms_changedName 76 = .ok (.ireturn, 1) := by decide +kernel
theorem d_Terms_changedKind_0 : decode b_Terms_changedKind 0 = .ok (.iload_n 0, 1) := by decide +kernel
theorem d_Terms_changedKind_1 : decode b_Terms_changedKind 1 = .ok (.iconst 2, 1) := by decide +kernel
theorem d_Terms_changedKind_2 : decode b_Terms_changedKind 2 = .ok (.if_icmp .ne 5, 3) := by decide +kernel
theorem d_Terms_changedKind_5 : decode b_Terms_changedKind 5 = .ok (.iconst 0, 1) := by decide +kernel
theorem d_Terms_changedKind_6 : decode b_Terms_changedKind 6 = .ok (.ireturn, 1) := by decide +kernel
theorem d_Terms_changedKind_7 : decode b_Terms_changedKind 7 = .ok (.iload_n 0, 1) := by decide +kernel
theorem d_Terms_changedKind_8 : decode b_Terms_changedKind 8 = .ok (.iconst 4, 1) := by decide +kernel
theorem d_Terms_changedKind_9 : decode b_Terms_changedKind 9 = .ok (.if_icmp .ne 7, 3) := by decide +kernel
theorem d_Terms_changedKind_12 : decode b_Terms_changedKind 12 = .ok (.iconst 1, 1) := by decide +kernel
theorem d_Terms_changedKind_13 : decode b_Terms_changedKind 13 = .ok (.goto 4, 3) := by decide +kernel
theorem d_Terms_changedKind_16 : decode b_Terms_changedKind 16 = .ok (.iload_n 1, 1) := by decide +kernel
theorem d_Terms_changedKind_17 : decode b_Terms_changedKind 17 = .ok (.ireturn, 1) := by decide +kernel
theorem d_Terms_rewrite_0 : decode b_Terms_rewrite 0 = .ok (.aload_n 0, 1) := by decide +kernel
theorem d_Terms_rewrite_1 : decode b_Terms_rewrite 1 = .ok (.getfield 21, 3) := by decide +kernel
theorem d_Terms_rewrite_4 : decode b_Terms_rewrite 4 = .ok (.iconst 0, 1) := by decide +kernel
theorem d_Terms_rewrite_5 : decode b_Terms_rewrite 5 = .ok (.invokevirtual 109, 3) := by decide +kernel
theorem d_Terms_rewrite_8 : decode b_Terms_rewrite 8 = .ok (.aload_n 0, 1) := by decide +kernel
theorem d_Terms_rewrite_9 : decode b_Terms_rewrite 9 = .ok (.getfield 25, 3) := by decide +kernel
theorem d_Terms_rewrite_12 : decode b_Terms_rewrite 12 = .ok (.iconst 0, 1) := by decide +kernel
theorem d_Terms_rewrite_13 : decode b_Terms_rewrite 13 = .ok (.invokevirtual 109, 3) := by decide +kernel
theorem d_Terms_rewrite_16 : decode b_Terms_rewrite 16 = .ok (.aload_n 0, 1) := by decide +kernel
theorem d_Terms_rewrite_17 : decode b_Terms_rewrite 17 = .ok (.getfield 28, 3) := by decide +kernel
theorem d_Terms_rewrite_20 : decode b_Terms_rewrite 20 = .ok (.iconst 0, 1) := by decide +kernel
theorem d_Terms_rewrite_21 : decode b_Terms_rewrite 21 = .ok (.invokevirtual 109, 3) := by decide +kernel
theorem d_Terms_rewrite_24 : decode b_Terms_rewrite 24 = .ok (.aload_n 0, 1) := by decide +kernel
theorem d_Terms_rewrite_25 : decode b_Terms_rewrite 25 = .ok (.getfield 21, 3) := by decide +kernel
theorem d_Terms_rewrite_28 : decode b_Terms_rewrite 28 = .ok (.iload_n 2, 1) := by decide +kernel
theorem d_Terms_rewrite_29 : decode b_Terms_rewrite 29 = .ok (.invokevirtual 112, 3) := by decide +kernel
theorem d_Terms_rewrite_32 : decode b_Terms_rewrite 32 = .ok (.aload_n 0, 1) := by decide +kernel
theorem d_Terms_rewrite_33 : decode b_Terms_rewrite 33 = .ok (.getfield 25, 3) := by decide +kernel
theorem d_Terms_rewrite_36 : decode b_Terms_rewrite 36 = .ok (.iconst 0, 1) := by decide +kernel
theorem d_Terms_rewrite_37 : decode b_Terms_rewrite 37 = .ok (.invokevirtual 112, 3) := by decide +kernel
theorem d_Terms_rewrite_40 : decode b_Terms_rewrite 40 = .ok (.iconst 0, 1) := by decide +kernel
theorem d_Terms_rewrite_41 : decode b_Terms_rewrite 41 = .ok (.istore 4, 2) := by decide +kernel
theorem d_Terms_rewrite_43 : decode b_Terms_rewrite 43 = .ok (.iload 4, 2) := by decide +kernel
theorem d_Terms_rewrite_45 : decode b_Terms_rewrite 45 = .ok (.ldc 17, 2) := by decide +kernel
theorem d_Terms_rewrite_47 : decode b_Terms_rewrite 47 = .ok (.if_icmp .ge 293, 3) := by decide +kernel
theorem d_Terms_rewrite_50 : decode b_Terms_rewrite 50 = .ok (.aload_n 0, 1) := by decide +kernel
theorem d_Terms_rewrite_51 : decode b_Terms_rewrite 51 = .ok (.getfield 21, 3) := by decide +kernel
theorem d_Terms_rewrite_54 : decode b_Terms_rewrite 54 = .ok (.invokevirtual 115, 3) := by decide +kernel
theorem d_Terms_rewrite_57 : decode b_Terms_rewrite 57 = .ok (.ifCond .le 283, 3) := by decide +kernel
theorem d_Terms_rewrite_60 : decode b_Terms_rewrite 60 = .ok (.aload_n 0, 1) := by decide +kernel
theorem d_Terms_rewrite_61 : decode b_Terms_rewrite 61 = .ok (.getfield 25, 3) := by decide +kernel
theorem d_Terms_rewrite_64 : decode b_Terms_rewrite 64 = .ok (.invokevirtual 118, 3) := by decide +kernel
theorem d_Terms_rewrite_67 : decode b_Terms_rewrite 67 = .ok (.istore 5, 2) := by decide +kernel
theorem d_Terms_rewrite_69 : decode b_Terms_rewrite 69 = .ok (.aload_n 0, 1) := by decide +kernel
theorem d_Terms_rewrite_70 : decode b_Terms_rewrite 70 = .ok (.getfield 21, 3) := by decide +kernel
theorem d_Terms_rewrite_73 : decode b_Terms_rewrite 73 = .ok (.invokevirtual 118, 3) := by decide +kernel
theorem d_Terms_rewrite_76 : decode b_Terms_rewrite 76 = .ok (.istore 6, 2) := by decide +kernel
theorem d_Terms_rewrite_78 : decode b_Terms_rewrite 78 = .ok (.iload 6, 2) := by decide +kernel
theorem d_Terms_rewrite_80 : decode b_Terms_rewrite 80 = .ok (.ifCond .ge 47, 3) := by decide +kernel
theorem d_Terms_rewrite_83 : decode b_Terms_rewrite 83 = .ok (.aload_n 0, 1) := by decide +kernel
theorem d_Terms_rewrite_84 : decode b_Terms_rewrite 84 = .ok (.getfield 28, 3) := by decide +kernel
theorem d_Terms_rewrite_87 : decode b_Terms_rewrite 87 = .ok (.invokevirtual 118, 3) := by decide +kernel
theorem d_Terms_rewrite_90 : decode b_Terms_rewrite 90 = .ok (.istore 7, 2) := by decide +kernel
theorem d_Terms_rewrite_92 : decode b_Terms_rewrite 92 = .ok (.aload_n 0, 1) := by decide +kernel
theorem d_Terms_rewrite_93 : decode b_Terms_rewrite 93 = .ok (.getfield 28, 3) := by decide +kernel
theorem d_Terms_rewrite_96 : decode b_Terms_rewrite 96 = .ok (.invokevirtual 118, 3) := by decide +kernel
theorem d_Terms_rewrite_99 : decode b_Terms_rewrite 99 = .ok (.istore 8, 2) := by decide +kernel
theorem d_Terms_rewrite_101 : decode b_Terms_rewrite 101 = .ok (.aload_n 0, 1) := by decide +kernel
theorem d_Terms_rewrite_102 : decode b_Terms_rewrite 102 = .ok (.getfield 28, 3) := by decide +kernel
theorem d_Terms_rewrite_105 : decode b_Terms_rewrite 105 = .ok (.aload_n 0, 1) := by decide +kernel
theorem d_Terms_rewrite_106 : decode b_Terms_rewrite 106 = .ok (.aload_n 0, 1) := by decide +kernel
theorem d_Terms_rewrite_107 : decode b_Terms_rewrite 107 = .ok (.iconst (-1), 1) := by decide +kernel
theorem d_Terms_rewrite_108 : decode b_Terms_rewrite 108 = .ok (.iload 6, 2) := by decide +kernel
theorem d_Terms_rewrite_110 : decode b_Terms_rewrite 110 = .ok (.isub, 1) := by decide +kernel
theorem d_Terms_rewrite_111 : decode b_Terms_rewrite 111 = .ok (.invokevirtual 52, 3) := by decide +kernel
theorem d_Terms_rewrite_114 : decode b_Terms_rewrite 114 = .ok (.iload 8, 2) := by decide +kernel
theorem d_Terms_rewrite_116 : decode b_Terms_rewrite 116 = .ok (.iload 7, 2) := by decide +kernel
theorem d_Terms_rewrite_118 : decode b_Terms_rewrite 118 = .ok (.invokevirtual 121, 3) := by decide +kernel
theorem d_Terms_rewrite_121 : decode b_Terms_rewrite 121 = .ok (.invokevirtual 112, 3) := by decide +kernel
theorem d_Terms_rewrite_124 : decode b_Terms_rewrite 124 = .ok (.goto 210, 3) := by decide +kernel
theorem d_Terms_rewrite_127 : decode b_Terms_rewrite 127 = .ok (.aload_n 0, 1) := by decide +kernel
theorem d_Terms_rewrite_128 : decode b_Terms_rewrite 128 = .ok (.iload_n 1, 1) := by decide +kernel
theorem d_Terms_rewrite_129 : decode b_Terms_rewrite 129 = .ok (.iload 6, 2) := by decide +kernel
theorem d_Terms_rewrite_131 : decode b_Terms_rewrite 131 = .ok (.iload_n 3, 1) := by decide +kernel
theorem d_Terms_rewrite_132 : decode b_Terms_rewrite 132 = .ok (.iload 5, 2) := by decide +kernel
theorem d_Terms_rewrite_134 : decode b_Terms_rewrite 134 = .ok (.invokevirtual 124, 3) := by decide +kernel
theorem d_Terms_rewrite_137 : decode b_Terms_rewrite 137 = .ok (.ifCond .eq 15, 3) := by decide +kernel
theorem d_Terms_rewrite_140 : decode b_Terms_rewrite 140 = .ok (.aload_n 0, 1) := by decide +kernel
theorem d_Terms_rewrite_141 : decode b_Terms_rewrite 141 = .ok (.getfield 28, 3) := by decide +kernel
theorem d_Terms_rewrite_144 : decode b_Terms_rewrite 144 = .ok (.iload 6, 2) := by decide +kernel
theorem d_Terms_rewrite_146 : decode b_Terms_rewrite 146 = .ok (.invokevirtual 112, 3) := by decide +kernel
theorem d_Terms_rewrite_149 : decode b_Terms_rewrite 149 = .ok (.goto 185, 3) := by decide +kernel
theorem d_Terms_rewrite_152 : decode b_Terms_rewrite 152 = .ok (.aload_n 0, 1) := by decide +kernel
theorem d_Terms_rewrite_153 : decode b_Terms_rewrite 153 = .ok (.iload 6, 2) := by decide +kernel
theorem d_Terms_rewrite_155 : decode b_Terms_rewrite 155 = .ok (.invokevirtual 52, 3) := by decide +kernel
theorem d_Terms_rewrite_158 : decode b_Terms_rewrite 158 = .ok (.iconst 5, 1) := by decide +kernel
theorem d_Terms_rewrite_159 : decode b_Terms_rewrite 159 = .ok (.if_icmp .ge 19, 3) := by decide +kernel
theorem d_Terms_rewrite_162 : decode b_Terms_rewrite 162 = .ok (.iload_n 1, 1) := by decide +kernel
theorem d_Terms_rewrite_163 : decode b_Terms_rewrite 163 = .ok (.iconst 1, 1) := by decide +kernel
theorem d_Terms_rewrite_164 : decode b_Terms_rewrite 164 = .ok (.if_icmp .gt 14, 3) := by decide +kernel
theorem d_Terms_rewrite_167 : decode b_Terms_rewrite 167 = .ok (.aload_n 0, 1) := by decide +kernel
theorem d_Terms_rewrite_168 : decode b_Terms_rewrite 168 = .ok (.getfield 28, 3) := by decide +kernel
theorem d_Terms_rewrite_171 : decode b_Terms_rewrite 171 = .ok (.iload_n 3, 1) := by decide +kernel
theorem d_Terms_rewrite_172 : decode b_Terms_rewrite 172 = .ok (.invokevirtual 112, 3) := by decide +kernel
theorem d_Terms_rewrite_175 : decode b_Terms_rewrite 175 = .ok (.goto 159, 3) := by decide +kernel
theorem d_Terms_rewrite_178 : decode b_Terms_rewrite 178 = .ok (.aload_n 0, 1) := by decide +kernel
theorem d_Terms_rewrite_179 : decode b_Terms_rewrite 179 = .ok (.iload 6, 2) := by decide +kernel
theorem d_Terms_rewrite_181 : decode b_Terms_rewrite 181 = .ok (.invokevirtual 52, 3) := by decide +kernel
theorem d_Terms_rewrite_184 : decode b_Terms_rewrite 184 = .ok (.iconst 5, 1) := by decide +kernel
theorem d_Terms_rewrite_185 : decode b_Terms_rewrite 185 = .ok (.if_icmp .ge 76, 3) := by decide +kernel
theorem d_Terms_rewrite_188 : decode b_Terms_rewrite 188 = .ok (.aload_n 0, 1) := by decide +kernel
theorem d_Terms_rewrite_189 : decode b_Terms_rewrite 189 = .ok (.iload_n 1, 1) := by decide +kernel
theorem d_Terms_rewrite_190 : decode b_Terms_rewrite 190 = .ok (.iload 6, 2) := by decide +kernel
theorem d_Terms_rewrite_192 : decode b_Terms_rewrite 192 = .ok (.iload_n 3, 1) := by decide +kernel
theorem d_Terms_rewrite_193 : decode b_Terms_rewrite 193 = .ok (.iload 5, 2) := by decide +kernel
theorem d_Terms_rewrite_195 : decode b_Terms_rewrite 195 = .ok (.invokevirtual 128, 3) := by decide +kernel
theorem d_Terms_rewrite_198 : decode b_Terms_rewrite 198 = .ok (.istore 7, 2) := by decide +kernel
theorem d_Terms_rewrite_200 : decode b_Terms_rewrite 200 = .ok (.aload_n 0, 1) := by decide +kernel
theorem d_Terms_rewrite_201 : decode b_Terms_rewrite 201 = .ok (.iload 6, 2) := by decide +kernel
theorem d_Terms_rewrite_203 : decode b_Terms_rewrite 203 = .ok (.invokevirtual 52, 3) := by decide +kernel
theorem d_Terms_rewrite_206 : decode b_Terms_rewrite 206 = .ok (.iconst 4, 1) := by decide +kernel
theorem d_Terms_rewrite_207 : decode b_Terms_rewrite 207 = .ok (.if_icmp .ne 18, 3) := by decide +kernel
theorem d_Terms_rewrite_210 : decode b_Terms_rewrite 210 = .ok (.aload_n 0, 1) := by decide +kernel
theorem d_Terms_rewrite_211 : decode b_Terms_rewrite 211 = .ok (.iload 6, 2) := by decide +kernel
theorem d_Terms_rewrite_213 : decode b_Terms_rewrite 213 = .ok (.invokevirtual 59, 3) := by decide +kernel
theorem d_Terms_rewrite_216 : decode b_Terms_rewrite 216 = .ok (.bipush 101, 2) := by decide +kernel
theorem d_Terms_rewrite_218 : decode b_Terms_rewrite 218 = .ok (.if_icmp .ne 7, 3) := by decide +kernel
theorem d_Terms_rewrite_221 : decode b_Terms_rewrite 221 = .ok (.iload_n 3, 1) := by decide +kernel
theorem d_Terms_rewrite_222 : decode b_Terms_rewrite 222 = .ok (.goto 9, 3) := by decide +kernel
theorem d_Terms_rewrite_225 : decode b_Terms_rewrite 225 = .ok (.aload_n 0, 1) := by decide +kernel
theorem d_Terms_rewrite_226 : decode b_Terms_rewrite 226 = .ok (.iload 6, 2) := by decide +kernel
theorem d_Terms_rewrite_228 : decode b_Terms_rewrite 228 = .ok (.invokevirtual 59, 3) := by decide +kernel
theorem d_Terms_rewrite_231 : decode b_Terms_rewrite 231 = .ok (.istore 8, 2) := by decide +kernel
theorem d_Terms_rewrite_233 : decode b_Terms_rewrite 233 = .ok (.aload_n 0, 1) := by decide +kernel
theorem d_Terms_rewrite_234 : decode b_Terms_rewrite 234 = .ok (.getfield 28, 3) := by decide +kernel
theorem d_Terms_rewrite_237 : decode b_Terms_rewrite 237 = .ok (.aload_n 0, 1) := by decide +kernel
theorem d_Terms_rewrite_238 : decode b_Terms_rewrite 238 = .ok (.iload_n 1, 1) := by decide +kernel
theorem d_Terms_rewrite_239 : decode b_Terms_rewrite 239 = .ok (.aload_n 0, 1) := by decide +kernel
theorem d_Terms_rewrite_240 : decode b_Terms_rewrite 240 = .ok (.iload 6, 2) := by decide +kernel
theorem d_Terms_rewrite_242 : decode b_Terms_rewrite 242 = .ok (.invokevirtual 52, 3) := by decide +kernel
theorem d_Terms_rewrite_245 : decode b_Terms_rewrite 245 = .ok (.invokestatic 132, 3) := by decide +kernel
theorem d_Terms_rewrite_248 : decode b_Terms_rewrite 248 = .ok (.iload 7, 2) := by decide +kernel
theorem d_Terms_rewrite_250 : decode b_Terms_rewrite 250 = .ok (.iload 8, 2) := by decide +kernel
theorem d_Terms_rewrite_252 : decode b_Terms_rewrite 252 = .ok (.invokevirtual 121, 3) := by decide +kernel
theorem d_Terms_rewrite_255 : decode b_Terms_rewrite 255 = .ok (.invokevirtual 112, 3) := by decide +kernel
theorem d_Terms_rewrite_258 : decode b_Terms_rewrite 258 = .ok (.goto 76, 3) := by decide +kernel
theorem d_Terms_rewrite_261 : decode b_Terms_rewrite 261 = .ok (.aload_n 0, 1) := by decide +kernel
theorem d_Terms_rewrite_262 : decode b_Terms_rewrite 262 = .ok (.getfield 21, 3) := by decide +kernel
theorem d_Terms_rewrite_265 : decode b_Terms_rewrite 265 = .ok (.iconst (-1), 1) := by decide +kernel
theorem d_Terms_rewrite_266 : decode b_Terms_rewrite 266 = .ok (.iload 6, 2) := by decide +kernel
theorem d_Terms_rewrite_268 : decode b_Terms_rewrite 268 = .ok (.isub, 1) := by decide +kernel
theorem d_Terms_rewrite_269 : decode b_Terms_rewrite 269 = .ok (.invokevirtual 112, 3) := by decide +kernel
theorem d_Terms_rewrite_272 : decode b_Terms_rewrite 272 = .ok (.aload_n 0, 1) := by decide +kernel
theorem d_Terms_rewrite_273 : decode b_Terms_rewrite 273 = .ok (.getfield 25, 3) := by decide +kernel
theorem d_Terms_rewrite_276 : decode b_Terms_rewrite 276 = .ok (.iconst 0, 1) := by decide +kernel
theorem d_Terms_rewrite_277 : decode b_Terms_rewrite 277 = .ok (.invokevirtual 112, 3) := by decide +kernel
theorem d_Terms_rewrite_280 : decode b_Terms_rewrite 280 = .ok (.aload_n 0, 1) := by decide +kernel
theorem d_Terms_rewrite_281 : decode b_Terms_rewrite 281 = .ok (.getfield 21, 3) := by decide +kernel
theorem d_Terms_rewrite_284 : decode b_Terms_rewrite 284 = .ok (.aload_n 0, 1) := by decide +kernel
theorem d_Terms_rewrite_285 : decode b_Terms_rewrite 285 = .ok (.iload 6, 2) := by decide +kernel
theorem d_Terms_rewrite_287 : decode b_Terms_rewrite 287 = .ok (.invokevirtual 59, 3) := by decide +kernel
theorem d_Terms_rewrite_290 : decode b_Terms_rewrite 290 = .ok (.invokevirtual 112, 3) := by decide +kernel
theorem d_Terms_rewrite_293 : decode b_Terms_rewrite 293 = .ok (.aload_n 0, 1) := by decide +kernel
theorem d_Terms_rewrite_294 : decode b_Terms_rewrite 294 = .ok (.getfield 25, 3) := by decide +kernel
theorem d_Terms_rewrite_297 : decode b_Terms_rewrite 297 = .ok (.iload 5, 2) := by decide +kernel
theorem d_Terms_rewrite_299 : decode b_Terms_rewrite 299 = .ok (.aload_n 0, 1) := by decide +kernel
theorem d_Terms_rewrite_300 : decode b_Terms_rewrite 300 = .ok (.iload 6, 2) := by decide +kernel
theorem d_Terms_rewrite_302 : decode b_Terms_rewrite 302 = .ok (.invokevirtual 52, 3) := by decide +kernel
theorem d_Terms_rewrite_305 : decode b_Terms_rewrite 305 = .ok (.invokestatic 81, 3) := by decide +kernel
theorem d_Terms_rewrite_308 : decode b_Terms_rewrite 308 = .ok (.iadd, 1) := by decide +kernel
theorem d_Terms_rewrite_309 : decode b_Terms_rewrite 309 = .ok (.invokevirtual 112, 3) := by decide +kernel
theorem d_Terms_rewrite_312 : decode b_Terms_rewrite 312 = .ok (.aload_n 0, 1) := by decide +kernel
theorem d_Terms_rewrite_313 : decode b_Terms_rewrite 313 = .ok (.getfield 21, 3) := by decide +kernel
theorem d_Terms_rewrite_316 : decode b_Terms_rewrite 316 = .ok (.aload_n 0, 1) := by decide +kernel
theorem d_Terms_rewrite_317 : decode b_Terms_rewrite 317 = .ok (.iload 6, 2) := by decide +kernel
theorem d_Terms_rewrite_319 : decode b_Terms_rewrite 319 = .ok (.invokevirtual 56, 3) := by decide +kernel
theorem d_Terms_rewrite_322 : decode b_Terms_rewrite 322 = .ok (.invokevirtual 112, 3) := by decide +kernel
theorem d_Terms_rewrite_325 : decode b_Terms_rewrite 325 = .ok (.aload_n 0, 1) := by decide +kernel
theorem d_Terms_rewrite_326 : decode b_Terms_rewrite 326 = .ok (.getfield 25, 3) := by decide +kernel
theorem d_Terms_rewrite_329 : decode b_Terms_rewrite 329 = .ok (.iload 5, 2) := by decide +kernel
theorem d_Terms_rewrite_331 : decode b_Terms_rewrite 331 = .ok (.invokevirtual 112, 3) := by decide +kernel
theorem d_Terms_rewrite_334 : decode b_Terms_rewrite 334 = .ok (.iinc 4 1, 3) := by decide +kernel
theorem d_Terms_rewrite_337 : decode b_Terms_rewrite 337 = .ok (.goto (-294), 3) := by decide +kernel
theorem d_Terms_rewrite_340 : decode b_Terms_rewrite 340 = .ok (.aload_n 0, 1) := by decide +kernel
theorem d_Terms_rewrite_341 : decode b_Terms_rewrite 341 = .ok (.getfield 28, 3) := by decide +kernel
theorem d_Terms_rewrite_344 : decode b_Terms_rewrite 344 = .ok (.invokevirtual 118, 3) := by decide +kernel
theorem d_Terms_rewrite_347 : decode b_Terms_rewrite 347 = .ok (.istore 4, 2) := by decide +kernel
theorem d_Terms_rewrite_349 : decode b_Terms_rewrite 349 = .ok (.iload_n 1, 1) := by decide +kernel
theorem d_Terms_rewrite_350 : decode b_Terms_rewrite 350 = .ok (.ifCond .eq 8, 3) := by decide +kernel
theorem d_Terms_rewrite_353 : decode b_Terms_rewrite 353 = .ok (.iload_n 1, 1) := by decide +kernel
theorem d_Terms_rewrite_354 : decode b_Terms_rewrite 354 = .ok (.iconst 2, 1) := by decide +kernel
theorem d_Terms_rewrite_355 : decode b_Terms_rewrite 355 = .ok (.if_icmp .ne 16, 3) := by decide +kernel
theorem d_Terms_rewrite_358 : decode b_Terms_rewrite 358 = .ok (.aload_n 0, 1) := by decide +kernel
theorem d_Terms_rewrite_359 : decode b_Terms_rewrite 359 = .ok (.getfield 9, 3) := by decide +kernel
theorem d_Terms_rewrite_362 : decode b_Terms_rewrite 362 = .ok (.aload_n 0, 1) := by decide +kernel
theorem d_Terms_rewrite_363 : decode b_Terms_rewrite 363 = .ok (.iload 4, 2) := by decide +kernel
theorem d_Terms_rewrite_365 : decode b_Terms_rewrite 365 = .ok (.invokevirtual 66, 3) := by decide +kernel
theorem d_Terms_rewrite_368 : decode b_Terms_rewrite 368 = .ok (.invokevirtual 135, 3) := by decide +kernel
theorem d_Terms_rewrite_371 : decode b_Terms_rewrite 371 = .ok (.iload 4, 2) := by decide +kernel
theorem d_Terms_rewrite_373 : decode b_Terms_rewrite 373 = .ok (.ireturn, 1) := by decide +kernel
theorem d_Terms_has_0 : decode b_Terms_has 0 = .ok (.aload_n 0, 1) := by decide +kernel
theorem d_Terms_has_1 : decode b_Terms_has 1 = .ok (.getfield 21, 3) := by decide +kernel
theorem d_Terms_has_4 : decode b_Terms_has 4 = .ok (.iconst 0, 1) := by decide +kernel
theorem d_Terms_has_5 : decode b_Terms_has 5 = .ok (.invokevirtual 109, 3) := by decide +kernel
theorem d_Terms_has_8 : decode b_Terms_has 8 = .ok (.aload_n 0, 1) := by decide +kernel
theorem d_Terms_has_9 : decode b_Terms_has 9 = .ok (.getfield 25, 3) := by decide +kernel
theorem d_Terms_has_12 : decode b_Terms_has 12 = .ok (.iconst 0, 1) := by decide +kernel
theorem d_Terms_has_13 : decode b_Terms_has 13 = .ok (.invokevirtual 109, 3) := by decide +kernel
theorem d_Terms_has_16 : decode b_Terms_has 16 = .ok (.aload_n 0, 1) := by decide +kernel
theorem d_Terms_has_17 : decode b_Terms_has 17 = .ok (.getfield 21, 3) := by decide +kernel
theorem d_Terms_has_20 : decode b_Terms_has 20 = .ok (.iload_n 1, 1) := by decide +kernel
theorem d_Terms_has_21 : decode b_Terms_has 21 = .ok (.invokevirtual 112, 3) := by decide +kernel
theorem d_Terms_has_24 : decode b_Terms_has 24 = .ok (.aload_n 0, 1) := by decide +kernel
theorem d_Terms_has_25 : decode b_Terms_has 25 = .ok (.getfield 25, 3) := by decide +kernel
theorem d_Terms_has_28 : decode b_Terms_has 28 = .ok (.iconst 0, 1) := by decide +kernel
theorem d_Terms_has_29 : decode b_Terms_has 29 = .ok (.invokevirtual 112, 3) := by decide +kernel
theorem d_Terms_has_32 : decode b_Terms_has 32 = .ok (.iconst 0, 1) := by decide +kernel
theorem d_Terms_has_33 : decode b_Terms_has 33 = .ok (.istore 4, 2) := by decide +kernel
theorem d_Terms_has_35 : decode b_Terms_has 35 = .ok (.iload 4, 2) := by decide +kernel
theorem d_Terms_has_37 : decode b_Terms_has 37 = .ok (.ldc 17, 2) := by decide +kernel
theorem d_Terms_has_39 : decode b_Terms_has 39 = .ok (.if_icmp .ge 153, 3) := by decide +kernel
theorem d_Terms_has_42 : decode b_Terms_has 42 = .ok (.aload_n 0, 1) := by decide +kernel
theorem d_Terms_has_43 : decode b_Terms_has 43 = .ok (.getfield 21, 3) := by decide +kernel
theorem d_Terms_has_46 : decode b_Terms_has 46 = .ok (.invokevirtual 115, 3) := by decide +kernel
theorem d_Terms_has_49 : decode b_Terms_has 49 = .ok (.ifCond .le 143, 3) := by decide +kernel
theorem d_Terms_has_52 : decode b_Terms_has 52 = .ok (.aload_n 0, 1) := by decide +kernel
theorem d_Terms_has_53 : decode b_Terms_has 53 = .ok (.getfield 25, 3) := by decide +kernel
theorem d_Terms_has_56 : decode b_Terms_has 56 = .ok (.invokevirtual 118, 3) := by decide +kernel
theorem d_Terms_has_59 : decode b_Terms_has 59 = .ok (.istore 5, 2) := by decide +kernel
theorem d_Terms_has_61 : decode b_Terms_has 61 = .ok (.aload_n 0, 1) := by decide +kernel
theorem d_Terms_has_62 : decode b_Terms_has 62 = .ok (.getfield 21, 3) := by decide +kernel
theorem d_Terms_has_65 : decode b_Terms_has 65 = .ok (.invokevirtual 118, 3) := by decide +kernel
theorem d_Terms_has_68 : decode b_Terms_has 68 = .ok (.istore 6, 2) := by decide +kernel
theorem d_Terms_has_70 : decode b_Terms_has 70 = .ok (.iload_n 2, 1) := by decide +kernel
theorem d_Terms_has_71 : decode b_Terms_has 71 = .ok (.ifCond .ne 10, 3) := by decide +kernel
theorem d_Terms_has_74 : decode b_Terms_has 74 = .ok (.iload_n 3, 1) := by decide +kernel
theorem d_Terms_has_75 : decode b_Terms_has 75 = .ok (.iload 5, 2) := by decide +kernel
theorem d_Terms_has_77 : decode b_Terms_has 77 = .ok (.iadd, 1) := by decide +kernel
theorem d_Terms_has_78 : decode b_Terms_has 78 = .ok (.goto 4, 3) := by decide +kernel
theorem d_Terms_has_81 : decode b_Terms_has 81 = .ok (.iload_n 3, 1) := by decide +kernel
theorem d_Terms_has_82 : decode b_Terms_has 82 = .ok (.istore 7, 2) := by decide +kernel
theorem d_Terms_has_84 : decode b_Terms_has 84 = .ok (.aload_n 0, 1) := by decide +kernel
theorem d_Terms_has_85 : decode b_Terms_has 85 = .ok (.iload 6, 2) := by decide +kernel
theorem d_Terms_has_87 : decode b_Terms_has 87 = .ok (.invokevirtual 52, 3) := by decide +kernel
theorem d_Terms_has_90 : decode b_Terms_has 90 = .ok (.iload_n 2, 1) := by decide +kernel
theorem d_Terms_has_91 : decode b_Terms_has 91 = .ok (.if_icmp .ne 16, 3) := by decide +kernel
theorem d_Terms_has_94 : decode b_Terms_has 94 = .ok (.aload_n 0, 1) := by decide +kernel
theorem d_Terms_has_95 : decode b_Terms_has 95 = .ok (.iload 6, 2) := by decide +kernel
theorem d_Terms_has_97 : decode b_Terms_has 97 = .ok (.invokevirtual 56, 3) := by decide +kernel
theorem d_Terms_has_100 : decode b_Terms_has 100 = .ok (.iload 7, 2) := by decide +kernel
theorem d_Terms_has_102 : decode b_Terms_has 102 = .ok (.if_icmp .ne 5, 3) := by decide +kernel
theorem d_Terms_has_105 : decode b_Terms_has 105 = .ok (.iconst 1, 1) := by decide +kernel
theorem d_Terms_has_106 : decode b_Terms_has 106 = .ok (.ireturn, 1) := by decide +kernel
theorem d_Terms_has_107 : decode b_Terms_has 107 = .ok (.aload_n 0, 1) := by decide +kernel
theorem d_Terms_has_108 : decode b_Terms_has 108 = .ok (.iload 6, 2) := by decide +kernel
theorem d_Terms_has_110 : decode b_Terms_has 110 = .ok (.invokevirtual 52, 3) := by decide +kernel
theorem d_Terms_has_113 : decode b_Terms_has 113 = .ok (.iconst 5, 1) := by decide +kernel
theorem d_Terms_has_114 : decode b_Terms_has 114 = .ok (.if_icmp .lt 72, 3) := by decide +kernel
theorem d_Terms_has_117 : decode b_Terms_has 117 = .ok (.iload_n 2, 1) := by decide +kernel
theorem d_Terms_has_118 : decode b_Terms_has 118 = .ok (.ifCond .ne 14, 3) := by decide +kernel
theorem d_Terms_has_121 : decode b_Terms_has 121 = .ok (.aload_n 0, 1) := by decide +kernel
theorem d_Terms_has_122 : decode b_Terms_has 122 = .ok (.iload 6, 2) := by decide +kernel
theorem d_Terms_has_124 : decode b_Terms_has 124 = .ok (.invokevirtual 78, 3) := by decide +kernel
theorem d_Terms_has_127 : decode b_Terms_has 127 = .ok (.iload 7, 2) := by decide +kernel
theorem d_Terms_has_129 : decode b_Terms_has 129 = .ok (.if_icmp .le 57, 3) := by decide +kernel
theorem d_Terms_has_132 : decode b_Terms_has 132 = .ok (.aload_n 0, 1) := by decide +kernel
theorem d_Terms_has_133 : decode b_Terms_has 133 = .ok (.getfield 21, 3) := by decide +kernel
theorem d_Terms_has_136 : decode b_Terms_has 136 = .ok (.aload_n 0, 1) := by decide +kernel
theorem d_Terms_has_137 : decode b_Terms_has 137 = .ok (.iload 6, 2) := by decide +kernel
theorem d_Terms_has_139 : decode b_Terms_has 139 = .ok (.invokevirtual 59, 3) := by decide +kernel
theorem d_Terms_has_142 : decode b_Terms_has 142 = .ok (.invokevirtual 112, 3) := by decide +kernel
theorem d_Terms_has_145 : decode b_Terms_has 145 = .ok (.aload_n 0, 1) := by decide +kernel
theorem d_Terms_has_146 : decode b_Terms_has 146 = .ok (.getfield 25, 3) := by decide +kernel
theorem d_Terms_has_149 : decode b_Terms_has 149 = .ok (.iload 5, 2) := by decide +kernel
theorem d_Terms_has_151 : decode b_Terms_has 151 = .ok (.aload_n 0, 1) := by decide +kernel
theorem d_Terms_has_152 : decode b_Terms_has 152 = .ok (.iload 6, 2) := by decide +kernel
theorem d_Terms_has_154 : decode b_Terms_has 154 = .ok (.invokevirtual 52, 3) := by decide +kernel
theorem d_Terms_has_157 : decode b_Terms_has 157 = .ok (.invokestatic 81, 3) := by decide +kernel
theorem d_Terms_has_160 : decode b_Terms_has 160 = .ok (.iadd, 1) := by decide +kernel
theorem d_Terms_has_161 : decode b_Terms_has 161 = .ok (.invokevirtual 112, 3) := by decide +kernel
theorem d_Terms_has_164 : decode b_Terms_has 164 = .ok (.aload_n 0, 1) := by decide +kernel
theorem d_Terms_has_165 : decode b_Terms_has 165 = .ok (.getfield 21, 3) := by decide +kernel
theorem d_Terms_has_168 : decode b_Terms_has 168 = .ok (.aload_n 0, 1) := by decide +kernel
theorem d_Terms_has_169 : decode b_Terms_has 169 = .ok (.iload 6, 2) := by decide +kernel
theorem d_Terms_has_171 : decode b_Terms_has 171 = .ok (.invokevirtual 56, 3) := by decide +kernel
theorem d_Terms_has_174 : decode b_Terms_has 174 = .ok (.invokevirtual 112, 3) := by decide +kernel
theorem d_Terms_has_177 : decode b_Terms_has 177 = .ok (.aload_n 0, 1) := by decide +kernel
theorem d_Terms_has_178 : decode b_Terms_has 178 = .ok (.getfield 25, 3) := by decide +kernel
theorem d_Terms_has_181 : decode b_Terms_has 181 = .ok (.iload 5, 2) := by decide +kernel
theorem d_Terms_has_183 : decode b_Terms_has 183 = .ok (.invokevirtual 112, 3) := by decide +kernel
theorem d_Terms_has_186 : decode b_Terms_has 186 = .ok (.iinc 4 1, 3) := by decide +kernel
theorem d_Terms_has_189 : decode b_Terms_has 189 = .ok (.goto (-154), 3) := by decide +kernel
theorem d_Terms_has_192 : decode b_Terms_has 192 = .ok (.iconst 0, 1) := by decide +kernel
theorem d_Terms_has_193 : decode b_Terms_has 193 = .ok (.ireturn, 1) := by decide +kernel
