theorem d_Fam_rule_200 : decode b_Fam_rule 200 = .ok (.istore 5, 2) := by decide +kernel
theorem d_Fam_rule_202 : decode b_Fam_rule 202 = .ok (.aload_n 0, 1) := by decide +kernel
theorem d_Fam_rule_203 : decode b_Fam_rule 203 = .ok (.getfield 66, 3) := by decide +kernel
theorem d_Fam_rule_206 : decode b_Fam_rule 206 = .ok (.iconst 1, 1) := by decide +kernel
theorem d_Fam_rule_207 : decode b_Fam_rule 207 = .ok (.isub, 1) := by decide +kernel
theorem d_Fam_rule_208 : decode b_Fam_rule 208 = .ok (.istore 6, 2) := by decide +kernel
theorem d_Fam_rule_210 : decode b_Fam_rule 210 = .ok (.iload 6, 2) := by decide +kernel
theorem d_Fam_rule_212 : decode b_Fam_rule 212 = .ok (.ifCond .lt 31, 3) := by decide +kernel
theorem d_Fam_rule_215 : decode b_Fam_rule 215 = .ok (.aload_n 0, 1) := by decide +kernel
theorem d_Fam_rule_216 : decode b_Fam_rule 216 = .ok (.getfield 19, 3) := by decide +kernel
theorem d_Fam_rule_219 : decode b_Fam_rule 219 = .ok (.bipush 7, 2) := by decide +kernel
theorem d_Fam_rule_221 : decode b_Fam_rule 221 = .ok (.aload_n 0, 1) := by decide +kernel
theorem d_Fam_rule_222 : decode b_Fam_rule 222 = .ok (.getfield 27, 3) := by decide +kernel
theorem d_Fam_rule_225 : decode b_Fam_rule 225 = .ok (.iload 6, 2) := by decide +kernel
theorem d_Fam_rule_227 : decode b_Fam_rule 227 = .ok (.invokevirtual 132, 3) := by decide +kernel
theorem d_Fam_rule_230 : decode b_Fam_rule 230 = .ok (.iload 5, 2) := by decide +kernel
theorem d_Fam_rule_232 : decode b_Fam_rule 232 = .ok (.invokevirtual 180, 3) := by decide +kernel
theorem d_Fam_rule_235 : decode b_Fam_rule 235 = .ok (.istore 5, 2) := by decide +kernel
theorem d_Fam_rule_237 : decode b_Fam_rule 237 = .ok (.iinc 6 (-1), 3) := by decide +kernel
theorem d_Fam_rule_240 : decode b_Fam_rule 240 = .ok (.goto (-30), 3) := by decide +kernel
theorem d_Fam_rule_243 : decode b_Fam_rule 243 = .ok (.iload 5, 2) := by decide +kernel
theorem d_Fam_rule_245 : decode b_Fam_rule 245 = .ok (.ireturn, 1) := by decide +kernel
theorem d_Fam_build_0 : decode b_Fam_build 0 = .ok (.aload_n 0, 1) := by decide +kernel
theorem d_Fam_build_1 : decode b_Fam_build 1 = .ok (.invokevirtual 197, 3) := by decide +kernel
theorem d_Fam_build_4 : decode b_Fam_build 4 = .ok (.aload_n 0, 1) := by decide +kernel
theorem d_Fam_build_5 : decode b_Fam_build 5 = .ok (.getfield 19, 3) := by decide +kernel
theorem d_Fam_build_8 : decode b_Fam_build 8 = .ok (.aload_n 0, 1) := by decide +kernel
theorem d_Fam_build_9 : decode b_Fam_build 9 = .ok (.getfield 27, 3) := by decide +kernel
theorem d_Fam_build_12 : decode b_Fam_build 12 = .ok (.invokevirtual 200, 3) := by decide +kernel
theorem d_Fam_build_15 : decode b_Fam_build 15 = .ok (.invokevirtual 203, 3) := by decide +kernel
theorem d_Fam_build_18 : decode b_Fam_build 18 = .ok (.aload_n 0, 1) := by decide +kernel
theorem d_Fam_build_19 : decode b_Fam_build 19 = .ok (.invokevirtual 206, 3) := by decide +kernel
theorem d_Fam_build_22 : decode b_Fam_build 22 = .ok (.aload_n 0, 1) := by decide +kernel
theorem d_Fam_build_23 : decode b_Fam_build 23 = .ok (.getfield 50, 3) := by decide +kernel
theorem d_Fam_build_26 : decode b_Fam_build 26 = .ok (.iconst 0, 1) := by decide +kernel
theorem d_Fam_build_27 : decode b_Fam_build 27 = .ok (.invokevirtual 142, 3) := by decide +kernel
theorem d_Fam_build_30 : decode b_Fam_build 30 = .ok (.iconst 0, 1) := by decide +kernel
theorem d_Fam_build_31 : decode b_Fam_build 31 = .ok (.istore_n 1, 1) := by decide +kernel
theorem d_Fam_build_32 : decode b_Fam_build 32 = .ok (.iload_n 1, 1) := by decide +kernel
theorem d_Fam_build_33 : decode b_Fam_build 33 = .ok (.aload_n 0, 1) := by decide +kernel
theorem d_Fam_build_34 : decode b_Fam_build 34 = .ok (.getfield 73, 3) := by decide +kernel
theorem d_Fam_build_37 : decode b_Fam_build 37 = .ok (.if_icmp .ge 21, 3) := by decide +kernel
theorem d_Fam_build_40 : decode b_Fam_build 40 = .ok (.aload_n 0, 1) := by decide +kernel
theorem d_Fam_build_41 : decode b_Fam_build 41 = .ok (.getfield 50, 3) := by decide +kernel
theorem d_Fam_build_44 : decode b_Fam_build 44 = .ok (.aload_n 0, 1) := by decide +kernel
theorem d_Fam_build_45 : decode b_Fam_build 45 = .ok (.iload_n 1, 1) := by decide +kernel
theorem d_Fam_build_46 : decode b_Fam_build 46 = .ok (.invokevirtual 209, 3) := by decide +kernel
theorem d_Fam_build_49 : decode b_Fam_build 49 = .ok (.invokevirtual 178, 3) := by decide +kernel
theorem d_Fam_build_52 : decode b_Fam_build 52 = .ok (.iinc 1 1, 3) := by decide +kernel
theorem d_Fam_build_55 : decode b_Fam_build 55 = .ok (.goto (-23), 3) := by decide +kernel
theorem d_Fam_build_58 : decode b_Fam_build 58 = .ok (.aload_n 0, 1) := by decide +kernel
theorem d_Fam_build_59 : decode b_Fam_build 59 = .ok (.getfield 23, 3) := by decide +kernel
theorem d_Fam_build_62 : decode b_Fam_build 62 = .ok (.invokevirtual 212, 3) := by decide +kernel
theorem d_Fam_build_65 : decode b_Fam_build 65 = .ok (.aload_n 0, 1) := by decide +kernel
theorem d_Fam_build_66 : decode b_Fam_build 66 = .ok (.getfield 19, 3) := by decide +kernel
theorem d_Fam_build_69 : decode b_Fam_build 69 = .ok (.aload_n 0, 1) := by decide +kernel
theorem d_Fam_build_70 : decode b_Fam_build 70 = .ok (.getfield 23, 3) := by decide +kernel
theorem d_Fam_build_73 : decode b_Fam_build 73 = .ok (.aload_n 0, 1) := by decide +kernel
theorem d_Fam_build_74 : decode b_Fam_build 74 = .ok (.getfield 59, 3) := by decide +kernel
theorem d_Fam_build_77 : decode b_Fam_build 77 = .ok (.iconst 1, 1) := by decide +kernel
theorem d_Fam_build_78 : decode b_Fam_build 78 = .ok (.invokevirtual 110, 3) := by decide +kernel
theorem d_Fam_build_81 : decode b_Fam_build 81 = .ok (.invokevirtual 215, 3) := by decide +kernel
theorem d_Fam_build_84 : decode b_Fam_build 84 = .ok (.iadd, 1) := by decide +kernel
theorem d_Fam_build_85 : decode b_Fam_build 85 = .ok (.istore_n 1, 1) := by decide +kernel
theorem d_Fam_build_86 : decode b_Fam_build 86 = .ok (.aload_n 0, 1) := by decide +kernel
theorem d_Fam_build_87 : decode b_Fam_build 87 = .ok (.invokevirtual 217, 3) := by decide +kernel
theorem d_Fam_build_90 : decode b_Fam_build 90 = .ok (.istore_n 2, 1) := by decide +kernel
theorem d_Fam_build_91 : decode b_Fam_build 91 = .ok (.iload_n 1, 1) := by decide +kernel
theorem d_Fam_build_92 : decode b_Fam_build 92 = .ok (.aload_n 0, 1) := by decide +kernel
theorem d_Fam_build_93 : decode b_Fam_build 93 = .ok (.getfield 19, 3) := by decide +kernel
theorem d_Fam_build_96 : decode b_Fam_build 96 = .ok (.iload_n 2, 1) := by decide +kernel
theorem d_Fam_build_97 : decode b_Fam_build 97 = .ok (.invokevirtual 215, 3) := by decide +kernel
theorem d_Fam_build_100 : decode b_Fam_build 100 = .ok (.iadd, 1) := by decide +kernel
theorem d_Fam_build_101 : decode b_Fam_build 101 = .ok (.istore_n 1, 1) := by decide +kernel
theorem d_Fam_build_102 : decode b_Fam_build 102 = .ok (.aload_n 0, 1) := by decide +kernel
theorem d_Fam_build_103 : decode b_Fam_build 103 = .ok (.getfield 23, 3) := by decide +kernel
theorem d_Fam_build_106 : decode b_Fam_build 106 = .ok (.aload_n 0, 1) := by decide +kernel
theorem d_Fam_build_107 : decode b_Fam_build 107 = .ok (.getfield 59, 3) := by decide +kernel
theorem d_Fam_build_110 : decode b_Fam_build 110 = .ok (.bipush 10, 2) := by decide +kernel
theorem d_Fam_build_112 : decode b_Fam_build 112 = .ok (.iload_n 2, 1) := by decide +kernel
theorem d_Fam_build_113 : decode b_Fam_build 113 = .ok (.invokevirtual 106, 3) := by decide +kernel
theorem d_Fam_build_116 : decode b_Fam_build 116 = .ok (.iconst 0, 1) := by decide +kernel
theorem d_Fam_build_117 : decode b_Fam_build 117 = .ok (.istore_n 3, 1) := by decide +kernel
theorem d_Fam_build_118 : decode b_Fam_build 118 = .ok (.iload_n 3, 1) := by decide +kernel
theorem d_Fam_build_119 : decode b_Fam_build 119 = .ok (.aload_n 0, 1) := by decide +kernel
theorem d_Fam_build_120 : decode b_Fam_build 120 = .ok (.getfield 73, 3) := by decide +kernel
theorem d_Fam_build_123 : decode b_Fam_build 123 = .ok (.if_icmp .ge 105, 3) := by decide +kernel
theorem d_Fam_build_126 : decode b_Fam_build 126 = .ok (.aload_n 0, 1) := by decide +kernel
theorem d_Fam_build_127 : decode b_Fam_build 127 = .ok (.iload_n 3, 1) := by decide +kernel
theorem d_Fam_build_128 : decode b_Fam_build 128 = .ok (.invokevirtual 220, 3) := by decide +kernel
theorem d_Fam_build_131 : decode b_Fam_build 131 = .ok (.istore 4, 2) := by decide +kernel
theorem d_Fam_build_133 : decode b_Fam_build 133 = .ok (.aload_n 0, 1) := by decide +kernel
theorem d_Fam_build_134 : decode b_Fam_build 134 = .ok (.getfield 27, 3) := by decide +kernel
theorem d_Fam_build_137 : decode b_Fam_build 137 = .ok (.aload_n 0, 1) := by decide +kernel
theorem d_Fam_build_138 : decode b_Fam_build 138 = .ok (.iload_n 3, 1) := by decide +kernel
theorem d_Fam_build_139 : decode b_Fam_build 139 = .ok (.invokevirtual 145, 3) := by decide +kernel
theorem d_Fam_build_142 : decode b_Fam_build 142 = .ok (.invokevirtual 165, 3) := by decide +kernel
theorem d_Fam_build_145 : decode b_Fam_build 145 = .ok (.istore 5, 2) := by decide +kernel
theorem d_Fam_build_147 : decode b_Fam_build 147 = .ok (.iload_n 1, 1) := by decide +kernel
theorem d_Fam_build_148 : decode b_Fam_build 148 = .ok (.aload_n 0, 1) := by decide +kernel
theorem d_Fam_build_149 : decode b_Fam_build 149 = .ok (.getfield 19, 3) := by decide +kernel
theorem d_Fam_build_152 : decode b_Fam_build 152 = .ok (.iload 4, 2) := by decide +kernel
theorem d_Fam_build_154 : decode b_Fam_build 154 = .ok (.invokevirtual 215, 3) := by decide +kernel
theorem d_Fam_build_157 : decode b_Fam_build 157 = .ok (.aload_n 0, 1) := by decide +kernel
theorem d_Fam_build_158 : decode b_Fam_build 158 = .ok (.getfield 19, 3) := by decide +kernel
theorem d_Fam_build_161 : decode b_Fam_build 161 = .ok (.iload 5, 2) := by decide +kernel
theorem d_Fam_build_163 : decode b_Fam_build 163 = .ok (.invokevirtual 215, 3) := by decide +kernel
theorem d_Fam_build_166 : decode b_Fam_build 166 = .ok (.iadd, 1) := by decide +kernel
theorem d_Fam_build_167 : decode b_Fam_build 167 = .ok (.iadd, 1) := by decide +kernel
theorem d_Fam_build_168 : decode b_Fam_build 168 = .ok (.istore_n 1, 1) := by decide +kernel
theorem d_Fam_build_169 : decode b_Fam_build 169 = .ok (.iload_n 1, 1) := by decide +kernel
theorem d_Fam_build_170 : decode b_Fam_build 170 = .ok (.sipush 30000, 3) := by decide +kernel
theorem d_Fam_build_173 : decode b_Fam_build 173 = .ok (.if_icmp .le 12, 3) := by decide +kernel
theorem d_Fam_build_176 : decode b_Fam_build 176 = .ok (.aload_n 0, 1) := by decide +kernel
theorem d_Fam_build_177 : decode b_Fam_build 177 = .ok (.getfield 15, 3) := by decide +kernel
theorem d_Fam_build_180 : decode b_Fam_build 180 = .ok (.bipush 10, 2) := by decide +kernel
theorem d_Fam_build_182 : decode b_Fam_build 182 = .ok (.invokevirtual 94, 3) := by decide +kernel
theorem d_Fam_build_185 : decode b_Fam_build 185 = .ok (.aload_n 0, 1) := by decide +kernel
theorem d_Fam_build_186 : decode b_Fam_build 186 = .ok (.getfield 23, 3) := by decide +kernel
theorem d_Fam_build_189 : decode b_Fam_build 189 = .ok (.aload_n 0, 1) := by decide +kernel
theorem d_Fam_build_190 : decode b_Fam_build 190 = .ok (.getfield 59, 3) := by decide +kernel
theorem d_Fam_build_193 : decode b_Fam_build 193 = .ok (.iconst 1, 1) := by decide +kernel
theorem d_Fam_build_194 : decode b_Fam_build 194 = .ok (.iadd, 1) := by decide +kernel
theorem d_Fam_build_195 : decode b_Fam_build 195 = .ok (.iload_n 3, 1) := by decide +kernel
theorem d_Fam_build_196 : decode b_Fam_build 196 = .ok (.iadd, 1) := by decide +kernel
theorem d_Fam_build_197 : decode b_Fam_build 197 = .ok (.iconst 1, 1) := by decide +kernel
theorem d_Fam_build_198 : decode b_Fam_build 198 = .ok (.iload 5, 2) := by decide +kernel
theorem d_Fam_build_200 : decode b_Fam_build 200 = .ok (.invokevirtual 106, 3) := by decide +kernel
theorem d_Fam_build_203 : decode b_Fam_build 203 = .ok (.aload_n 0, 1) := by decide +kernel
theorem d_Fam_build_204 : decode b_Fam_build 204 = .ok (.getfield 23, 3) := by decide +kernel
theorem d_Fam_build_207 : decode b_Fam_build 207 = .ok (.aload_n 0, 1) := by decide +kernel
theorem d_Fam_build_208 : decode b_Fam_build 208 = .ok (.getfield 59, 3) := by decide +kernel
theorem d_Fam_build_211 : decode b_Fam_build 211 = .ok (.iconst 1, 1) := by decide +kernel
theorem d_Fam_build_212 : decode b_Fam_build 212 = .ok (.iadd, 1) := by decide +kernel
theorem d_Fam_build_213 : decode b_Fam_build 213 = .ok (.iload_n 3, 1) := by decide +kernel
theorem d_Fam_build_214 : decode b_Fam_build 214 = .ok (.iadd, 1) := by decide +kernel
theorem d_Fam_build_215 : decode b_Fam_build 215 = .ok (.bipush 10, 2) := by decide +kernel
theorem d_Fam_build_217 : decode b_Fam_build 217 = .ok (.iload 4, 2) := by decide +kernel
theorem d_Fam_build_219 : decode b_Fam_build 219 = .ok (.invokevirtual 106, 3) := by decide +kernel
theorem d_Fam_build_222 : decode b_Fam_build 222 = .ok (.iinc 3 1, 3) := by decide +kernel
theorem d_Fam_build_225 : decode b_Fam_build 225 = .ok (.goto (-107), 3) := by decide +kernel
theorem d_Fam_build_228 : decode b_Fam_build 228 = .ok (.iload_n 1, 1) := by decide +kernel
theorem d_Fam_build_229 : decode b_Fam_build 229 = .ok (.sipush 30000, 3) := by decide +kernel
theorem d_Fam_build_232 : decode b_Fam_build 232 = .ok (.if_icmp .le 12, 3) := by decide +kernel
theorem d_Fam_build_235 : decode b_Fam_build 235 = .ok (.aload_n 0, 1) := by decide +kernel
theorem d_Fam_build_236 : decode b_Fam_build 236 = .ok (.getfield 15, 3) := by decide +kernel
theorem d_Fam_build_239 : decode b_Fam_build 239 = .ok (.bipush 10, 2) := by decide +kernel
theorem d_Fam_build_241 : decode b_Fam_build 241 = .ok (.invokevirtual 94, 3) := by decide +kernel
theorem d_Fam_build_244 : decode b_Fam_build 244 = .ok (.aload_n 0, 1) := by decide +kernel
theorem d_Fam_build_245 : decode b_Fam_build 245 = .ok (.getfield 23, 3) := by decide +kernel
theorem d_Fam_build_248 : decode b_Fam_build 248 = .ok (.iload_n 1, 1) := by decide +kernel
theorem d_Fam_build_249 : decode b_Fam_build 249 = .ok (.aload_n 0, 1) := by decide +kernel
theorem d_Fam_build_250 : decode b_Fam_build 250 = .ok (.getfield 23, 3) := by decide +kernel
theorem d_Fam_build_253 : decode b_Fam_build 253 = .ok (.invokevirtual 212, 3) := by decide +kernel
theorem d_Fam_build_256 : decode b_Fam_build 256 = .ok (.isub, 1) := by decide +kernel
theorem d_Fam_build_257 : decode b_Fam_build 257 = .ok (.invokevirtual 223, 3) := by decide +kernel
theorem d_Fam_build_260 : decode b_Fam_build 260 = .ok (.return_, 1) := by decide +kernel
