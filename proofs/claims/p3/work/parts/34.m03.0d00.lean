theorem d_Mod_sizeWith_0 : decode b_Mod_sizeWith 0 = .ok (.iconst 0, 1) := by decide +kernel
theorem d_Mod_sizeWith_1 : decode b_Mod_sizeWith 1 = .ok (.istore 4, 2) := by decide +kernel
theorem d_Mod_sizeWith_3 : decode b_Mod_sizeWith 3 = .ok (.iload_n 1, 1) := by decide +kernel
theorem d_Mod_sizeWith_4 : decode b_Mod_sizeWith 4 = .ok (.istore 5, 2) := by decide +kernel
theorem d_Mod_sizeWith_6 : decode b_Mod_sizeWith 6 = .ok (.aload_n 0, 1) := by decide +kernel
theorem d_Mod_sizeWith_7 : decode b_Mod_sizeWith 7 = .ok (.getfield 55, 3) := by decide +kernel
theorem d_Mod_sizeWith_10 : decode b_Mod_sizeWith 10 = .ok (.iload 5, 2) := by decide +kernel
theorem d_Mod_sizeWith_12 : decode b_Mod_sizeWith 12 = .ok (.baload, 1) := by decide +kernel
theorem d_Mod_sizeWith_13 : decode b_Mod_sizeWith 13 = .ok (.bipush 8, 2) := by decide +kernel
theorem d_Mod_sizeWith_15 : decode b_Mod_sizeWith 15 = .ok (.if_icmp .ne 43, 3) := by decide +kernel
theorem d_Mod_sizeWith_18 : decode b_Mod_sizeWith 18 = .ok (.iload 4, 2) := by decide +kernel
theorem d_Mod_sizeWith_20 : decode b_Mod_sizeWith 20 = .ok (.sipush 4000, 3) := by decide +kernel
theorem d_Mod_sizeWith_23 : decode b_Mod_sizeWith 23 = .ok (.if_icmp .ge 35, 3) := by decide +kernel
theorem d_Mod_sizeWith_26 : decode b_Mod_sizeWith 26 = .ok (.iload 4, 2) := by decide +kernel
theorem d_Mod_sizeWith_28 : decode b_Mod_sizeWith 28 = .ok (.iconst 1, 1) := by decide +kernel
theorem d_Mod_sizeWith_29 : decode b_Mod_sizeWith 29 = .ok (.aload_n 0, 1) := by decide +kernel
theorem d_Mod_sizeWith_30 : decode b_Mod_sizeWith 30 = .ok (.aload_n 0, 1) := by decide +kernel
theorem d_Mod_sizeWith_31 : decode b_Mod_sizeWith 31 = .ok (.getfield 62, 3) := by decide +kernel
theorem d_Mod_sizeWith_34 : decode b_Mod_sizeWith 34 = .ok (.iload 5, 2) := by decide +kernel
theorem d_Mod_sizeWith_36 : decode b_Mod_sizeWith 36 = .ok (.iaload, 1) := by decide +kernel
theorem d_Mod_sizeWith_37 : decode b_Mod_sizeWith 37 = .ok (.iload_n 2, 1) := by decide +kernel
theorem d_Mod_sizeWith_38 : decode b_Mod_sizeWith 38 = .ok (.iload_n 3, 1) := by decide +kernel
theorem d_Mod_sizeWith_39 : decode b_Mod_sizeWith 39 = .ok (.invokevirtual 363, 3) := by decide +kernel
theorem d_Mod_sizeWith_42 : decode b_Mod_sizeWith 42 = .ok (.iadd, 1) := by decide +kernel
theorem d_Mod_sizeWith_43 : decode b_Mod_sizeWith 43 = .ok (.iadd, 1) := by decide +kernel
theorem d_Mod_sizeWith_44 : decode b_Mod_sizeWith 44 = .ok (.istore 4, 2) := by decide +kernel
theorem d_Mod_sizeWith_46 : decode b_Mod_sizeWith 46 = .ok (.aload_n 0, 1) := by decide +kernel
theorem d_Mod_sizeWith_47 : decode b_Mod_sizeWith 47 = .ok (.getfield 58, 3) := by decide +kernel
theorem d_Mod_sizeWith_50 : decode b_Mod_sizeWith 50 = .ok (.iload 5, 2) := by decide +kernel
theorem d_Mod_sizeWith_52 : decode b_Mod_sizeWith 52 = .ok (.iaload, 1) := by decide +kernel
theorem d_Mod_sizeWith_53 : decode b_Mod_sizeWith 53 = .ok (.istore 5, 2) := by decide +kernel
theorem d_Mod_sizeWith_55 : decode b_Mod_sizeWith 55 = .ok (.goto (-49), 3) := by decide +kernel
theorem d_Mod_sizeWith_58 : decode b_Mod_sizeWith 58 = .ok (.aload_n 0, 1) := by decide +kernel
theorem d_Mod_sizeWith_59 : decode b_Mod_sizeWith 59 = .ok (.getfield 55, 3) := by decide +kernel
theorem d_Mod_sizeWith_62 : decode b_Mod_sizeWith 62 = .ok (.iload 5, 2) := by decide +kernel
theorem d_Mod_sizeWith_64 : decode b_Mod_sizeWith 64 = .ok (.baload, 1) := by decide +kernel
theorem d_Mod_sizeWith_65 : decode b_Mod_sizeWith 65 = .ok (.tableswitch 166 4 9 #[39, 166, 70, 70, 166, 111], 39) := by decide +kernel
theorem d_Mod_sizeWith_104 : decode b_Mod_sizeWith 104 = .ok (.sipush 4000, 3) := by decide +kernel
theorem d_Mod_sizeWith_107 : decode b_Mod_sizeWith 107 = .ok (.iload 4, 2) := by decide +kernel
theorem d_Mod_sizeWith_109 : decode b_Mod_sizeWith 109 = .ok (.aload_n 0, 1) := by decide +kernel
theorem d_Mod_sizeWith_110 : decode b_Mod_sizeWith 110 = .ok (.getfield 58, 3) := by decide +kernel
theorem d_Mod_sizeWith_113 : decode b_Mod_sizeWith 113 = .ok (.iload 5, 2) := by decide +kernel
theorem d_Mod_sizeWith_115 : decode b_Mod_sizeWith 115 = .ok (.iaload, 1) := by decide +kernel
theorem d_Mod_sizeWith_116 : decode b_Mod_sizeWith 116 = .ok (.iload_n 3, 1) := by decide +kernel
theorem d_Mod_sizeWith_117 : decode b_Mod_sizeWith 117 = .ok (.if_icmp .ne 12, 3) := by decide +kernel
theorem d_Mod_sizeWith_120 : decode b_Mod_sizeWith 120 = .ok (.aload_n 0, 1) := by decide +kernel
theorem d_Mod_sizeWith_121 : decode b_Mod_sizeWith 121 = .ok (.getfield 68, 3) := by decide +kernel
theorem d_Mod_sizeWith_124 : decode b_Mod_sizeWith 124 = .ok (.iload_n 2, 1) := by decide +kernel
theorem d_Mod_sizeWith_125 : decode b_Mod_sizeWith 125 = .ok (.iaload, 1) := by decide +kernel
theorem d_Mod_sizeWith_126 : decode b_Mod_sizeWith 126 = .ok (.goto 4, 3) := by decide +kernel
theorem d_Mod_sizeWith_129 : decode b_Mod_sizeWith 129 = .ok (.iconst 1, 1) := by decide +kernel
theorem d_Mod_sizeWith_130 : decode b_Mod_sizeWith 130 = .ok (.iadd, 1) := by decide +kernel
theorem d_Mod_sizeWith_131 : decode b_Mod_sizeWith 131 = .ok (.invokestatic 328, 3) := by decide +kernel
theorem d_Mod_sizeWith_134 : decode b_Mod_sizeWith 134 = .ok (.ireturn, 1) := by decide +kernel
theorem d_Mod_sizeWith_135 : decode b_Mod_sizeWith 135 = .ok (.sipush 4000, 3) := by decide +kernel
theorem d_Mod_sizeWith_138 : decode b_Mod_sizeWith 138 = .ok (.iload 4, 2) := by decide +kernel
theorem d_Mod_sizeWith_140 : decode b_Mod_sizeWith 140 = .ok (.iconst 1, 1) := by decide +kernel
theorem d_Mod_sizeWith_141 : decode b_Mod_sizeWith 141 = .ok (.iadd, 1) := by decide +kernel
theorem d_Mod_sizeWith_142 : decode b_Mod_sizeWith 142 = .ok (.aload_n 0, 1) := by decide +kernel
theorem d_Mod_sizeWith_143 : decode b_Mod_sizeWith 143 = .ok (.aload_n 0, 1) := by decide +kernel
theorem d_Mod_sizeWith_144 : decode b_Mod_sizeWith 144 = .ok (.getfield 58, 3) := by decide +kernel
theorem d_Mod_sizeWith_147 : decode b_Mod_sizeWith 147 = .ok (.iload 5, 2) := by decide +kernel
theorem d_Mod_sizeWith_149 : decode b_Mod_sizeWith 149 = .ok (.iaload, 1) := by decide +kernel
theorem d_Mod_sizeWith_150 : decode b_Mod_sizeWith 150 = .ok (.iload_n 2, 1) := by decide +kernel
theorem d_Mod_sizeWith_151 : decode b_Mod_sizeWith 151 = .ok (.iload_n 3, 1) := by decide +kernel
theorem d_Mod_sizeWith_152 : decode b_Mod_sizeWith 152 = .ok (.invokevirtual 363, 3) := by decide +kernel
theorem d_Mod_sizeWith_155 : decode b_Mod_sizeWith 155 = .ok (.iadd, 1) := by decide +kernel
theorem d_Mod_sizeWith_156 : decode b_Mod_sizeWith 156 = .ok (.aload_n 0, 1) := by decide +kernel
theorem d_Mod_sizeWith_157 : decode b_Mod_sizeWith 157 = .ok (.aload_n 0, 1) := by decide +kernel
theorem d_Mod_sizeWith_158 : decode b_Mod_sizeWith 158 = .ok (.getfield 62, 3) := by decide +kernel
theorem d_Mod_sizeWith_161 : decode b_Mod_sizeWith 161 = .ok (.iload 5, 2) := by decide +kernel
theorem d_Mod_sizeWith_163 : decode b_Mod_sizeWith 163 = .ok (.iaload, 1) := by decide +kernel
theorem d_Mod_sizeWith_164 : decode b_Mod_sizeWith 164 = .ok (.iload_n 2, 1) := by decide +kernel
theorem d_Mod_sizeWith_165 : decode b_Mod_sizeWith 165 = .ok (.iload_n 3, 1) := by decide +kernel
theorem d_Mod_sizeWith_166 : decode b_Mod_sizeWith 166 = .ok (.iconst 1, 1) := by decide +kernel
theorem d_Mod_sizeWith_167 : decode b_Mod_sizeWith 167 = .ok (.iadd, 1) := by decide +kernel
theorem d_Mod_sizeWith_168 : decode b_Mod_sizeWith 168 = .ok (.invokevirtual 363, 3) := by decide +kernel
theorem d_Mod_sizeWith_171 : decode b_Mod_sizeWith 171 = .ok (.iadd, 1) := by decide +kernel
theorem d_Mod_sizeWith_172 : decode b_Mod_sizeWith 172 = .ok (.invokestatic 328, 3) := by decide +kernel
theorem d_Mod_sizeWith_175 : decode b_Mod_sizeWith 175 = .ok (.ireturn, 1) := by decide +kernel
theorem d_Mod_sizeWith_176 : decode b_Mod_sizeWith 176 = .ok (.sipush 4000, 3) := by decide +kernel
theorem d_Mod_sizeWith_179 : decode b_Mod_sizeWith 179 = .ok (.iload 4, 2) := by decide +kernel
theorem d_Mod_sizeWith_181 : decode b_Mod_sizeWith 181 = .ok (.iconst 1, 1) := by decide +kernel
theorem d_Mod_sizeWith_182 : decode b_Mod_sizeWith 182 = .ok (.iadd, 1) := by decide +kernel
theorem d_Mod_sizeWith_183 : decode b_Mod_sizeWith 183 = .ok (.aload_n 0, 1) := by decide +kernel
theorem d_Mod_sizeWith_184 : decode b_Mod_sizeWith 184 = .ok (.aload_n 0, 1) := by decide +kernel
theorem d_Mod_sizeWith_185 : decode b_Mod_sizeWith 185 = .ok (.getfield 58, 3) := by decide +kernel
theorem d_Mod_sizeWith_188 : decode b_Mod_sizeWith 188 = .ok (.iload 5, 2) := by decide +kernel
theorem d_Mod_sizeWith_190 : decode b_Mod_sizeWith 190 = .ok (.iaload, 1) := by decide +kernel
theorem d_Mod_sizeWith_191 : decode b_Mod_sizeWith 191 = .ok (.iload_n 2, 1) := by decide +kernel
theorem d_Mod_sizeWith_192 : decode b_Mod_sizeWith 192 = .ok (.iload_n 3, 1) := by decide +kernel
theorem d_Mod_sizeWith_193 : decode b_Mod_sizeWith 193 = .ok (.invokevirtual 363, 3) := by decide +kernel
theorem d_Mod_sizeWith_196 : decode b_Mod_sizeWith 196 = .ok (.iadd, 1) := by decide +kernel
theorem d_Mod_sizeWith_197 : decode b_Mod_sizeWith 197 = .ok (.aload_n 0, 1) := by decide +kernel
theorem d_Mod_sizeWith_198 : decode b_Mod_sizeWith 198 = .ok (.aload_n 0, 1) := by decide +kernel
theorem d_Mod_sizeWith_199 : decode b_Mod_sizeWith 199 = .ok (.getfield 62, 3) := by decide +kernel
theorem d_Mod_sizeWith_202 : decode b_Mod_sizeWith 202 = .ok (.iload 5, 2) := by decide +kernel
theorem d_Mod_sizeWith_204 : decode b_Mod_sizeWith 204 = .ok (.iaload, 1) := by decide +kernel
theorem d_Mod_sizeWith_205 : decode b_Mod_sizeWith 205 = .ok (.iload_n 2, 1) := by decide +kernel
theorem d_Mod_sizeWith_206 : decode b_Mod_sizeWith 206 = .ok (.iload_n 3, 1) := by decide +kernel
theorem d_Mod_sizeWith_207 : decode b_Mod_sizeWith 207 = .ok (.invokevirtual 363, 3) := by decide +kernel
theorem d_Mod_sizeWith_210 : decode b_Mod_sizeWith 210 = .ok (.iadd, 1) := by decide +kernel
theorem d_Mod_sizeWith_211 : decode b_Mod_sizeWith 211 = .ok (.aload_n 0, 1) := by decide +kernel
theorem d_Mod_sizeWith_212 : decode b_Mod_sizeWith 212 = .ok (.aload_n 0, 1) := by decide +kernel
theorem d_Mod_sizeWith_213 : decode b_Mod_sizeWith 213 = .ok (.getfield 65, 3) := by decide +kernel
theorem d_Mod_sizeWith_216 : decode b_Mod_sizeWith 216 = .ok (.iload 5, 2) := by decide +kernel
theorem d_Mod_sizeWith_218 : decode b_Mod_sizeWith 218 = .ok (.iaload, 1) := by decide +kernel
theorem d_Mod_sizeWith_219 : decode b_Mod_sizeWith 219 = .ok (.iload_n 2, 1) := by decide +kernel
theorem d_Mod_sizeWith_220 : decode b_Mod_sizeWith 220 = .ok (.iload_n 3, 1) := by decide +kernel
theorem d_Mod_sizeWith_221 : decode b_Mod_sizeWith 221 = .ok (.iconst 1, 1) := by decide +kernel
theorem d_Mod_sizeWith_222 : decode b_Mod_sizeWith 222 = .ok (.iadd, 1) := by decide +kernel
theorem d_Mod_sizeWith_223 : decode b_Mod_sizeWith 223 = .ok (.invokevirtual 363, 3) := by decide +kernel
theorem d_Mod_sizeWith_226 : decode b_Mod_sizeWith 226 = .ok (.iadd, 1) := by decide +kernel
theorem d_Mod_sizeWith_227 : decode b_Mod_sizeWith 227 = .ok (.invokestatic 328, 3) := by decide +kernel
theorem d_Mod_sizeWith_230 : decode b_Mod_sizeWith 230 = .ok (.ireturn, 1) := by decide +kernel
theorem d_Mod_sizeWith_231 : decode b_Mod_sizeWith 231 = .ok (.sipush 4000, 3) := by decide +kernel
theorem d_Mod_sizeWith_234 : decode b_Mod_sizeWith 234 = .ok (.iload 4, 2) := by decide +kernel
theorem d_Mod_sizeWith_236 : decode b_Mod_sizeWith 236 = .ok (.iconst 1, 1) := by decide +kernel
theorem d_Mod_sizeWith_237 : decode b_Mod_sizeWith 237 = .ok (.iadd, 1) := by decide +kernel
theorem d_Mod_sizeWith_238 : decode b_Mod_sizeWith 238 = .ok (.invokestatic 328, 3) := by decide +kernel
theorem d_Mod_sizeWith_241 : decode b_Mod_sizeWith 241 = .ok (.ireturn, 1) := by decide +kernel
