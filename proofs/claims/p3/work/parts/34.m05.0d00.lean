theorem d_Mod_map_0 : decode b_Mod_map 0 = .ok (.aload_n 0, 1) := by decide +kernel
theorem d_Mod_map_1 : decode b_Mod_map 1 = .ok (.getfield 80, 3) := by decide +kernel
theorem d_Mod_map_4 : decode b_Mod_map 4 = .ok (.istore_n 3, 1) := by decide +kernel
theorem d_Mod_map_5 : decode b_Mod_map 5 = .ok (.iload_n 1, 1) := by decide +kernel
theorem d_Mod_map_6 : decode b_Mod_map 6 = .ok (.istore 4, 2) := by decide +kernel
theorem d_Mod_map_8 : decode b_Mod_map 8 = .ok (.aload_n 0, 1) := by decide +kernel
theorem d_Mod_map_9 : decode b_Mod_map 9 = .ok (.getfield 55, 3) := by decide +kernel
theorem d_Mod_map_12 : decode b_Mod_map 12 = .ok (.iload 4, 2) := by decide +kernel
theorem d_Mod_map_14 : decode b_Mod_map 14 = .ok (.baload, 1) := by decide +kernel
theorem d_Mod_map_15 : decode b_Mod_map 15 = .ok (.bipush 8, 2) := by decide +kernel
theorem d_Mod_map_17 : decode b_Mod_map 17 = .ok (.if_icmp .ne 33, 3) := by decide +kernel
theorem d_Mod_map_20 : decode b_Mod_map 20 = .ok (.aload_n 0, 1) := by decide +kernel
theorem d_Mod_map_21 : decode b_Mod_map 21 = .ok (.getfield 77, 3) := by decide +kernel
theorem d_Mod_map_24 : decode b_Mod_map 24 = .ok (.aload_n 0, 1) := by decide +kernel
theorem d_Mod_map_25 : decode b_Mod_map 25 = .ok (.dup, 1) := by decide +kernel
theorem d_Mod_map_26 : decode b_Mod_map 26 = .ok (.getfield 80, 3) := by decide +kernel
theorem d_Mod_map_29 : decode b_Mod_map 29 = .ok (.dup_x1, 1) := by decide +kernel
theorem d_Mod_map_30 : decode b_Mod_map 30 = .ok (.iconst 1, 1) := by decide +kernel
theorem d_Mod_map_31 : decode b_Mod_map 31 = .ok (.iadd, 1) := by decide +kernel
theorem d_Mod_map_32 : decode b_Mod_map 32 = .ok (.putfield 80, 3) := by decide +kernel
theorem d_Mod_map_35 : decode b_Mod_map 35 = .ok (.iload 4, 2) := by decide +kernel
theorem d_Mod_map_37 : decode b_Mod_map 37 = .ok (.iastore, 1) := by decide +kernel
theorem d_Mod_map_38 : decode b_Mod_map 38 = .ok (.aload_n 0, 1) := by decide +kernel
theorem d_Mod_map_39 : decode b_Mod_map 39 = .ok (.getfield 58, 3) := by decide +kernel
theorem d_Mod_map_42 : decode b_Mod_map 42 = .ok (.iload 4, 2) := by decide +kernel
theorem d_Mod_map_44 : decode b_Mod_map 44 = .ok (.iaload, 1) := by decide +kernel
theorem d_Mod_map_45 : decode b_Mod_map 45 = .ok (.istore 4, 2) := by decide +kernel
theorem d_Mod_map_47 : decode b_Mod_map 47 = .ok (.goto (-39), 3) := by decide +kernel
theorem d_Mod_map_50 : decode b_Mod_map 50 = .ok (.aload_n 0, 1) := by decide +kernel
theorem d_Mod_map_51 : decode b_Mod_map 51 = .ok (.getfield 55, 3) := by decide +kernel
theorem d_Mod_map_54 : decode b_Mod_map 54 = .ok (.iload 4, 2) := by decide +kernel
theorem d_Mod_map_56 : decode b_Mod_map 56 = .ok (.baload, 1) := by decide +kernel
theorem d_Mod_map_57 : decode b_Mod_map 57 = .ok (.tableswitch 135 6 9 #[31, 31, 135, 78], 31) := by decide +kernel
theorem d_Mod_map_88 : decode b_Mod_map 88 = .ok (.aload_n 0, 1) := by decide +kernel
theorem d_Mod_map_89 : decode b_Mod_map 89 = .ok (.aload_n 0, 1) := by decide +kernel
theorem d_Mod_map_90 : decode b_Mod_map 90 = .ok (.getfield 58, 3) := by decide +kernel
theorem d_Mod_map_93 : decode b_Mod_map 93 = .ok (.iload 4, 2) := by decide +kernel
theorem d_Mod_map_95 : decode b_Mod_map 95 = .ok (.iaload, 1) := by decide +kernel
theorem d_Mod_map_96 : decode b_Mod_map 96 = .ok (.iload_n 2, 1) := by decide +kernel
theorem d_Mod_map_97 : decode b_Mod_map 97 = .ok (.invokevirtual 344, 3) := by decide +kernel
theorem d_Mod_map_100 : decode b_Mod_map 100 = .ok (.istore 6, 2) := by decide +kernel
theorem d_Mod_map_102 : decode b_Mod_map 102 = .ok (.aload_n 0, 1) := by decide +kernel
theorem d_Mod_map_103 : decode b_Mod_map 103 = .ok (.aload_n 0, 1) := by decide +kernel
theorem d_Mod_map_104 : decode b_Mod_map 104 = .ok (.getfield 55, 3) := by decide +kernel
theorem d_Mod_map_107 : decode b_Mod_map 107 = .ok (.iload 4, 2) := by decide +kernel
theorem d_Mod_map_109 : decode b_Mod_map 109 = .ok (.baload, 1) := by decide +kernel
theorem d_Mod_map_110 : decode b_Mod_map 110 = .ok (.iload 6, 2) := by decide +kernel
theorem d_Mod_map_112 : decode b_Mod_map 112 = .ok (.aload_n 0, 1) := by decide +kernel
theorem d_Mod_map_113 : decode b_Mod_map 113 = .ok (.aload_n 0, 1) := by decide +kernel
theorem d_Mod_map_114 : decode b_Mod_map 114 = .ok (.getfield 62, 3) := by decide +kernel
theorem d_Mod_map_117 : decode b_Mod_map 117 = .ok (.iload 4, 2) := by decide +kernel
theorem d_Mod_map_119 : decode b_Mod_map 119 = .ok (.iaload, 1) := by decide +kernel
theorem d_Mod_map_120 : decode b_Mod_map 120 = .ok (.iload_n 2, 1) := by decide +kernel
theorem d_Mod_map_121 : decode b_Mod_map 121 = .ok (.iconst 1, 1) := by decide +kernel
theorem d_Mod_map_122 : decode b_Mod_map 122 = .ok (.iadd, 1) := by decide +kernel
theorem d_Mod_map_123 : decode b_Mod_map 123 = .ok (.invokevirtual 344, 3) := by decide +kernel
theorem d_Mod_map_126 : decode b_Mod_map 126 = .ok (.iconst 0, 1) := by decide +kernel
theorem d_Mod_map_127 : decode b_Mod_map 127 = .ok (.invokevirtual 336, 3) := by decide +kernel
theorem d_Mod_map_130 : decode b_Mod_map 130 = .ok (.istore 5, 2) := by decide +kernel
theorem d_Mod_map_132 : decode b_Mod_map 132 = .ok (.goto 69, 3) := by decide +kernel
theorem d_Mod_map_135 : decode b_Mod_map 135 = .ok (.aload_n 0, 1) := by decide +kernel
theorem d_Mod_map_136 : decode b_Mod_map 136 = .ok (.aload_n 0, 1) := by decide +kernel
theorem d_Mod_map_137 : decode b_Mod_map 137 = .ok (.getfield 58, 3) := by decide +kernel
theorem d_Mod_map_140 : decode b_Mod_map 140 = .ok (.iload 4, 2) := by decide +kernel
theorem d_Mod_map_142 : decode b_Mod_map 142 = .ok (.iaload, 1) := by decide +kernel
theorem d_Mod_map_143 : decode b_Mod_map 143 = .ok (.iload_n 2, 1) := by decide +kernel
theorem d_Mod_map_144 : decode b_Mod_map 144 = .ok (.invokevirtual 344, 3) := by decide +kernel
theorem d_Mod_map_147 : decode b_Mod_map 147 = .ok (.istore 7, 2) := by decide +kernel
theorem d_Mod_map_149 : decode b_Mod_map 149 = .ok (.aload_n 0, 1) := by decide +kernel
theorem d_Mod_map_150 : decode b_Mod_map 150 = .ok (.aload_n 0, 1) := by decide +kernel
theorem d_Mod_map_151 : decode b_Mod_map 151 = .ok (.getfield 62, 3) := by decide +kernel
theorem d_Mod_map_154 : decode b_Mod_map 154 = .ok (.iload 4, 2) := by decide +kernel
theorem d_Mod_map_156 : decode b_Mod_map 156 = .ok (.iaload, 1) := by decide +kernel
theorem d_Mod_map_157 : decode b_Mod_map 157 = .ok (.iload_n 2, 1) := by decide +kernel
theorem d_Mod_map_158 : decode b_Mod_map 158 = .ok (.invokevirtual 344, 3) := by decide +kernel
theorem d_Mod_map_161 : decode b_Mod_map 161 = .ok (.istore 8, 2) := by decide +kernel
theorem d_Mod_map_163 : decode b_Mod_map 163 = .ok (.aload_n 0, 1) := by decide +kernel
theorem d_Mod_map_164 : decode b_Mod_map 164 = .ok (.bipush 9, 2) := by decide +kernel
theorem d_Mod_map_166 : decode b_Mod_map 166 = .ok (.iload 7, 2) := by decide +kernel
theorem d_Mod_map_168 : decode b_Mod_map 168 = .ok (.iload 8, 2) := by decide +kernel
theorem d_Mod_map_170 : decode b_Mod_map 170 = .ok (.aload_n 0, 1) := by decide +kernel
theorem d_Mod_map_171 : decode b_Mod_map 171 = .ok (.aload_n 0, 1) := by decide +kernel
theorem d_Mod_map_172 : decode b_Mod_map 172 = .ok (.getfield 65, 3) := by decide +kernel
theorem d_Mod_map_175 : decode b_Mod_map 175 = .ok (.iload 4, 2) := by decide +kernel
theorem d_Mod_map_177 : decode b_Mod_map 177 = .ok (.iaload, 1) := by decide +kernel
theorem d_Mod_map_178 : decode b_Mod_map 178 = .ok (.iload_n 2, 1) := by decide +kernel
theorem d_Mod_map_179 : decode b_Mod_map 179 = .ok (.iconst 1, 1) := by decide +kernel
theorem d_Mod_map_180 : decode b_Mod_map 180 = .ok (.iadd, 1) := by decide +kernel
theorem d_Mod_map_181 : decode b_Mod_map 181 = .ok (.invokevirtual 344, 3) := by decide +kernel
theorem d_Mod_map_184 : decode b_Mod_map 184 = .ok (.invokevirtual 336, 3) := by decide +kernel
theorem d_Mod_map_187 : decode b_Mod_map 187 = .ok (.istore 5, 2) := by decide +kernel
theorem d_Mod_map_189 : decode b_Mod_map 189 = .ok (.goto 12, 3) := by decide +kernel
theorem d_Mod_map_192 : decode b_Mod_map 192 = .ok (.aload_n 0, 1) := by decide +kernel
theorem d_Mod_map_193 : decode b_Mod_map 193 = .ok (.iload 4, 2) := by decide +kernel
theorem d_Mod_map_195 : decode b_Mod_map 195 = .ok (.iload_n 2, 1) := by decide +kernel
theorem d_Mod_map_196 : decode b_Mod_map 196 = .ok (.invokevirtual 347, 3) := by decide +kernel
theorem d_Mod_map_199 : decode b_Mod_map 199 = .ok (.istore 5, 2) := by decide +kernel
theorem d_Mod_map_201 : decode b_Mod_map 201 = .ok (.aload_n 0, 1) := by decide +kernel
theorem d_Mod_map_202 : decode b_Mod_map 202 = .ok (.getfield 80, 3) := by decide +kernel
theorem d_Mod_map_205 : decode b_Mod_map 205 = .ok (.iload_n 3, 1) := by decide +kernel
theorem d_Mod_map_206 : decode b_Mod_map 206 = .ok (.if_icmp .le 47, 3) := by decide +kernel
theorem d_Mod_map_209 : decode b_Mod_map 209 = .ok (.aload_n 0, 1) := by decide +kernel
theorem d_Mod_map_210 : decode b_Mod_map 210 = .ok (.dup, 1) := by decide +kernel
theorem d_Mod_map_211 : decode b_Mod_map 211 = .ok (.getfield 80, 3) := by decide +kernel
theorem d_Mod_map_214 : decode b_Mod_map 214 = .ok (.iconst 1, 1) := by decide +kernel
theorem d_Mod_map_215 : decode b_Mod_map 215 = .ok (.isub, 1) := by decide +kernel
theorem d_Mod_map_216 : decode b_Mod_map 216 = .ok (.putfield 80, 3) := by decide +kernel
theorem d_Mod_map_219 : decode b_Mod_map 219 = .ok (.aload_n 0, 1) := by decide +kernel
theorem d_Mod_map_220 : decode b_Mod_map 220 = .ok (.getfield 77, 3) := by decide +kernel
theorem d_Mod_map_223 : decode b_Mod_map 223 = .ok (.aload_n 0, 1) := by decide +kernel
theorem d_Mod_map_224 : decode b_Mod_map 224 = .ok (.getfield 80, 3) := by decide +kernel
theorem d_Mod_map_227 : decode b_Mod_map 227 = .ok (.iaload, 1) := by decide +kernel
theorem d_Mod_map_228 : decode b_Mod_map 228 = .ok (.istore 6, 2) := by decide +kernel
theorem d_Mod_map_230 : decode b_Mod_map 230 = .ok (.aload_n 0, 1) := by decide +kernel
theorem d_Mod_map_231 : decode b_Mod_map 231 = .ok (.iload 5, 2) := by decide +kernel
theorem d_Mod_map_233 : decode b_Mod_map 233 = .ok (.aload_n 0, 1) := by decide +kernel
theorem d_Mod_map_234 : decode b_Mod_map 234 = .ok (.aload_n 0, 1) := by decide +kernel
theorem d_Mod_map_235 : decode b_Mod_map 235 = .ok (.getfield 62, 3) := by decide +kernel
theorem d_Mod_map_238 : decode b_Mod_map 238 = .ok (.iload 6, 2) := by decide +kernel
theorem d_Mod_map_240 : decode b_Mod_map 240 = .ok (.iaload, 1) := by decide +kernel
theorem d_Mod_map_241 : decode b_Mod_map 241 = .ok (.iload_n 2, 1) := by decide +kernel
theorem d_Mod_map_242 : decode b_Mod_map 242 = .ok (.invokevirtual 344, 3) := by decide +kernel
theorem d_Mod_map_245 : decode b_Mod_map 245 = .ok (.invokevirtual 350, 3) := by decide +kernel
theorem d_Mod_map_248 : decode b_Mod_map 248 = .ok (.istore 5, 2) := by decide +kernel
theorem d_Mod_map_250 : decode b_Mod_map 250 = .ok (.goto (-49), 3) := by decide +kernel
theorem d_Mod_map_253 : decode b_Mod_map 253 = .ok (.iload 5, 2) := by decide +kernel
theorem d_Mod_map_255 : decode b_Mod_map 255 = .ok (.ireturn, 1) := by decide +kernel
