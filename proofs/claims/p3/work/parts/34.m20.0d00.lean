theorem d_Mod_heads_0 : decode b_Mod_heads 0 = .ok (.iconst 0, 1) := by decide +kernel
theorem d_Mod_heads_1 : decode b_Mod_heads 1 = .ok (.istore 4, 2) := by decide +kernel
theorem d_Mod_heads_3 : decode b_Mod_heads 3 = .ok (.iload 4, 2) := by decide +kernel
theorem d_Mod_heads_5 : decode b_Mod_heads 5 = .ok (.iload_n 1, 1) := by decide +kernel
theorem d_Mod_heads_6 : decode b_Mod_heads 6 = .ok (.if_icmp .ge 32, 3) := by decide +kernel
theorem d_Mod_heads_9 : decode b_Mod_heads 9 = .ok (.aload_n 0, 1) := by decide +kernel
theorem d_Mod_heads_10 : decode b_Mod_heads 10 = .ok (.getfield 235, 3) := by decide +kernel
theorem d_Mod_heads_13 : decode b_Mod_heads 13 = .ok (.aload_n 0, 1) := by decide +kernel
theorem d_Mod_heads_14 : decode b_Mod_heads 14 = .ok (.dup, 1) := by decide +kernel
theorem d_Mod_heads_15 : decode b_Mod_heads 15 = .ok (.getfield 238, 3) := by decide +kernel
theorem d_Mod_heads_18 : decode b_Mod_heads 18 = .ok (.dup_x1, 1) := by decide +kernel
theorem d_Mod_heads_19 : decode b_Mod_heads 19 = .ok (.iconst 1, 1) := by decide +kernel
theorem d_Mod_heads_20 : decode b_Mod_heads 20 = .ok (.iadd, 1) := by decide +kernel
theorem d_Mod_heads_21 : decode b_Mod_heads 21 = .ok (.putfield 238, 3) := by decide +kernel
theorem d_Mod_heads_24 : decode b_Mod_heads 24 = .ok (.aload_n 0, 1) := by decide +kernel
theorem d_Mod_heads_25 : decode b_Mod_heads 25 = .ok (.getfield 208, 3) := by decide +kernel
theorem d_Mod_heads_28 : decode b_Mod_heads 28 = .ok (.iload 4, 2) := by decide +kernel
theorem d_Mod_heads_30 : decode b_Mod_heads 30 = .ok (.iaload, 1) := by decide +kernel
theorem d_Mod_heads_31 : decode b_Mod_heads 31 = .ok (.iastore, 1) := by decide +kernel
theorem d_Mod_heads_32 : decode b_Mod_heads 32 = .ok (.iinc 4 1, 3) := by decide +kernel
theorem d_Mod_heads_35 : decode b_Mod_heads 35 = .ok (.goto (-32), 3) := by decide +kernel
theorem d_Mod_heads_38 : decode b_Mod_heads 38 = .ok (.aload_n 0, 1) := by decide +kernel
theorem d_Mod_heads_39 : decode b_Mod_heads 39 = .ok (.getfield 235, 3) := by decide +kernel
theorem d_Mod_heads_42 : decode b_Mod_heads 42 = .ok (.aload_n 0, 1) := by decide +kernel
theorem d_Mod_heads_43 : decode b_Mod_heads 43 = .ok (.dup, 1) := by decide +kernel
theorem d_Mod_heads_44 : decode b_Mod_heads 44 = .ok (.getfield 238, 3) := by decide +kernel
theorem d_Mod_heads_47 : decode b_Mod_heads 47 = .ok (.dup_x1, 1) := by decide +kernel
theorem d_Mod_heads_48 : decode b_Mod_heads 48 = .ok (.iconst 1, 1) := by decide +kernel
theorem d_Mod_heads_49 : decode b_Mod_heads 49 = .ok (.iadd, 1) := by decide +kernel
theorem d_Mod_heads_50 : decode b_Mod_heads 50 = .ok (.putfield 238, 3) := by decide +kernel
theorem d_Mod_heads_53 : decode b_Mod_heads 53 = .ok (.aload_n 0, 1) := by decide +kernel
theorem d_Mod_heads_54 : decode b_Mod_heads 54 = .ok (.getfield 58, 3) := by decide +kernel
theorem d_Mod_heads_57 : decode b_Mod_heads 57 = .ok (.iload_n 2, 1) := by decide +kernel
theorem d_Mod_heads_58 : decode b_Mod_heads 58 = .ok (.iaload, 1) := by decide +kernel
theorem d_Mod_heads_59 : decode b_Mod_heads 59 = .ok (.iastore, 1) := by decide +kernel
theorem d_Mod_heads_60 : decode b_Mod_heads 60 = .ok (.iconst 0, 1) := by decide +kernel
theorem d_Mod_heads_61 : decode b_Mod_heads 61 = .ok (.istore 4, 2) := by decide +kernel
theorem d_Mod_heads_63 : decode b_Mod_heads 63 = .ok (.iload 4, 2) := by decide +kernel
theorem d_Mod_heads_65 : decode b_Mod_heads 65 = .ok (.iload_n 3, 1) := by decide +kernel
theorem d_Mod_heads_66 : decode b_Mod_heads 66 = .ok (.if_icmp .ge 32, 3) := by decide +kernel
theorem d_Mod_heads_69 : decode b_Mod_heads 69 = .ok (.aload_n 0, 1) := by decide +kernel
theorem d_Mod_heads_70 : decode b_Mod_heads 70 = .ok (.getfield 235, 3) := by decide +kernel
theorem d_Mod_heads_73 : decode b_Mod_heads 73 = .ok (.aload_n 0, 1) := by decide +kernel
theorem d_Mod_heads_74 : decode b_Mod_heads 74 = .ok (.dup, 1) := by decide +kernel
theorem d_Mod_heads_75 : decode b_Mod_heads 75 = .ok (.getfield 238, 3) := by decide +kernel
theorem d_Mod_heads_78 : decode b_Mod_heads 78 = .ok (.dup_x1, 1) := by decide +kernel
theorem d_Mod_heads_79 : decode b_Mod_heads 79 = .ok (.iconst 1, 1) := by decide +kernel
theorem d_Mod_heads_80 : decode b_Mod_heads 80 = .ok (.iadd, 1) := by decide +kernel
theorem d_Mod_heads_81 : decode b_Mod_heads 81 = .ok (.putfield 238, 3) := by decide +kernel
theorem d_Mod_heads_84 : decode b_Mod_heads 84 = .ok (.aload_n 0, 1) := by decide +kernel
theorem d_Mod_heads_85 : decode b_Mod_heads 85 = .ok (.getfield 241, 3) := by decide +kernel
theorem d_Mod_heads_88 : decode b_Mod_heads 88 = .ok (.iload 4, 2) := by decide +kernel
theorem d_Mod_heads_90 : decode b_Mod_heads 90 = .ok (.iaload, 1) := by decide +kernel
theorem d_Mod_heads_91 : decode b_Mod_heads 91 = .ok (.iastore, 1) := by decide +kernel
theorem d_Mod_heads_92 : decode b_Mod_heads 92 = .ok (.iinc 4 1, 3) := by decide +kernel
theorem d_Mod_heads_95 : decode b_Mod_heads 95 = .ok (.goto (-32), 3) := by decide +kernel
theorem d_Mod_heads_98 : decode b_Mod_heads 98 = .ok (.return_, 1) := by decide +kernel
theorem d_Mod_ruleOf_0 : decode b_Mod_ruleOf 0 = .ok (.aload_n 0, 1) := by decide +kernel
theorem d_Mod_ruleOf_1 : decode b_Mod_ruleOf 1 = .ok (.iconst 0, 1) := by decide +kernel
theorem d_Mod_ruleOf_2 : decode b_Mod_ruleOf 2 = .ok (.putfield 238, 3) := by decide +kernel
theorem d_Mod_ruleOf_5 : decode b_Mod_ruleOf 5 = .ok (.aload_n 0, 1) := by decide +kernel
theorem d_Mod_ruleOf_6 : decode b_Mod_ruleOf 6 = .ok (.iload_n 3, 1) := by decide +kernel
theorem d_Mod_ruleOf_7 : decode b_Mod_ruleOf 7 = .ok (.iload 5, 2) := by decide +kernel
theorem d_Mod_ruleOf_9 : decode b_Mod_ruleOf 9 = .ok (.iload 6, 2) := by decide +kernel
theorem d_Mod_ruleOf_11 : decode b_Mod_ruleOf 11 = .ok (.invokevirtual 564, 3) := by decide +kernel
theorem d_Mod_ruleOf_14 : decode b_Mod_ruleOf 14 = .ok (.aload_n 0, 1) := by decide +kernel
theorem d_Mod_ruleOf_15 : decode b_Mod_ruleOf 15 = .ok (.getfield 217, 3) := by decide +kernel
theorem d_Mod_ruleOf_18 : decode b_Mod_ruleOf 18 = .ok (.iload_n 2, 1) := by decide +kernel
theorem d_Mod_ruleOf_19 : decode b_Mod_ruleOf 19 = .ok (.iaload, 1) := by decide +kernel
theorem d_Mod_ruleOf_20 : decode b_Mod_ruleOf 20 = .ok (.istore 7, 2) := by decide +kernel
theorem d_Mod_ruleOf_22 : decode b_Mod_ruleOf 22 = .ok (.aload_n 0, 1) := by decide +kernel
theorem d_Mod_ruleOf_23 : decode b_Mod_ruleOf 23 = .ok (.getfield 125, 3) := by decide +kernel
theorem d_Mod_ruleOf_26 : decode b_Mod_ruleOf 26 = .ok (.iload_n 1, 1) := by decide +kernel
theorem d_Mod_ruleOf_27 : decode b_Mod_ruleOf 27 = .ok (.iconst 1, 1) := by decide +kernel
theorem d_Mod_ruleOf_28 : decode b_Mod_ruleOf 28 = .ok (.iadd, 1) := by decide +kernel
theorem d_Mod_ruleOf_29 : decode b_Mod_ruleOf 29 = .ok (.iload_n 2, 1) := by decide +kernel
theorem d_Mod_ruleOf_30 : decode b_Mod_ruleOf 30 = .ok (.iadd, 1) := by decide +kernel
theorem d_Mod_ruleOf_31 : decode b_Mod_ruleOf 31 = .ok (.iaload, 1) := by decide +kernel
theorem d_Mod_ruleOf_32 : decode b_Mod_ruleOf 32 = .ok (.istore 8, 2) := by decide +kernel
theorem d_Mod_ruleOf_34 : decode b_Mod_ruleOf 34 = .ok (.iconst 0, 1) := by decide +kernel
theorem d_Mod_ruleOf_35 : decode b_Mod_ruleOf 35 = .ok (.istore 9, 2) := by decide +kernel
theorem d_Mod_ruleOf_37 : decode b_Mod_ruleOf 37 = .ok (.iload 9, 2) := by decide +kernel
theorem d_Mod_ruleOf_39 : decode b_Mod_ruleOf 39 = .ok (.iload 8, 2) := by decide +kernel
theorem d_Mod_ruleOf_41 : decode b_Mod_ruleOf 41 = .ok (.if_icmp .ge 35, 3) := by decide +kernel
theorem d_Mod_ruleOf_44 : decode b_Mod_ruleOf 44 = .ok (.aload_n 0, 1) := by decide +kernel
theorem d_Mod_ruleOf_45 : decode b_Mod_ruleOf 45 = .ok (.getfield 235, 3) := by decide +kernel
theorem d_Mod_ruleOf_48 : decode b_Mod_ruleOf 48 = .ok (.aload_n 0, 1) := by decide +kernel
theorem d_Mod_ruleOf_49 : decode b_Mod_ruleOf 49 = .ok (.dup, 1) := by decide +kernel
theorem d_Mod_ruleOf_50 : decode b_Mod_ruleOf 50 = .ok (.getfield 238, 3) := by decide +kernel
theorem d_Mod_ruleOf_53 : decode b_Mod_ruleOf 53 = .ok (.dup_x1, 1) := by decide +kernel
theorem d_Mod_ruleOf_54 : decode b_Mod_ruleOf 54 = .ok (.iconst 1, 1) := by decide +kernel
theorem d_Mod_ruleOf_55 : decode b_Mod_ruleOf 55 = .ok (.iadd, 1) := by decide +kernel
theorem d_Mod_ruleOf_56 : decode b_Mod_ruleOf 56 = .ok (.putfield 238, 3) := by decide +kernel
theorem d_Mod_ruleOf_59 : decode b_Mod_ruleOf 59 = .ok (.aload_n 0, 1) := by decide +kernel
theorem d_Mod_ruleOf_60 : decode b_Mod_ruleOf 60 = .ok (.getfield 223, 3) := by decide +kernel
theorem d_Mod_ruleOf_63 : decode b_Mod_ruleOf 63 = .ok (.iload 7, 2) := by decide +kernel
theorem d_Mod_ruleOf_65 : decode b_Mod_ruleOf 65 = .ok (.iload 9, 2) := by decide +kernel
theorem d_Mod_ruleOf_67 : decode b_Mod_ruleOf 67 = .ok (.iadd, 1) := by decide +kernel
theorem d_Mod_ruleOf_68 : decode b_Mod_ruleOf 68 = .ok (.iaload, 1) := by decide +kernel
theorem d_Mod_ruleOf_69 : decode b_Mod_ruleOf 69 = .ok (.iastore, 1) := by decide +kernel
theorem d_Mod_ruleOf_70 : decode b_Mod_ruleOf 70 = .ok (.iinc 9 1, 3) := by decide +kernel
theorem d_Mod_ruleOf_73 : decode b_Mod_ruleOf 73 = .ok (.goto (-36), 3) := by decide +kernel
theorem d_Mod_ruleOf_76 : decode b_Mod_ruleOf 76 = .ok (.aload_n 0, 1) := by decide +kernel
theorem d_Mod_ruleOf_77 : decode b_Mod_ruleOf 77 = .ok (.aload_n 0, 1) := by decide +kernel
theorem d_Mod_ruleOf_78 : decode b_Mod_ruleOf 78 = .ok (.getfield 241, 3) := by decide +kernel
theorem d_Mod_ruleOf_81 : decode b_Mod_ruleOf 81 = .ok (.iload_n 2, 1) := by decide +kernel
theorem d_Mod_ruleOf_82 : decode b_Mod_ruleOf 82 = .ok (.iaload, 1) := by decide +kernel
theorem d_Mod_ruleOf_83 : decode b_Mod_ruleOf 83 = .ok (.invokevirtual 353, 3) := by decide +kernel
theorem d_Mod_ruleOf_86 : decode b_Mod_ruleOf 86 = .ok (.istore 9, 2) := by decide +kernel
theorem d_Mod_ruleOf_88 : decode b_Mod_ruleOf 88 = .ok (.iconst 0, 1) := by decide +kernel
theorem d_Mod_ruleOf_89 : decode b_Mod_ruleOf 89 = .ok (.istore 10, 2) := by decide +kernel
theorem d_Mod_ruleOf_91 : decode b_Mod_ruleOf 91 = .ok (.iload 10, 2) := by decide +kernel
theorem d_Mod_ruleOf_93 : decode b_Mod_ruleOf 93 = .ok (.iload 8, 2) := by decide +kernel
theorem d_Mod_ruleOf_95 : decode b_Mod_ruleOf 95 = .ok (.if_icmp .ge 31, 3) := by decide +kernel
theorem d_Mod_ruleOf_98 : decode b_Mod_ruleOf 98 = .ok (.aload_n 0, 1) := by decide +kernel
theorem d_Mod_ruleOf_99 : decode b_Mod_ruleOf 99 = .ok (.iload 9, 2) := by decide +kernel
theorem d_Mod_ruleOf_101 : decode b_Mod_ruleOf 101 = .ok (.aload_n 0, 1) := by decide +kernel
theorem d_Mod_ruleOf_102 : decode b_Mod_ruleOf 102 = .ok (.aload_n 0, 1) := by decide +kernel
theorem d_Mod_ruleOf_103 : decode b_Mod_ruleOf 103 = .ok (.getfield 223, 3) := by decide +kernel
theorem d_Mod_ruleOf_106 : decode b_Mod_ruleOf 106 = .ok (.iload 7, 2) := by decide +kernel
theorem d_Mod_ruleOf_108 : decode b_Mod_ruleOf 108 = .ok (.iload 10, 2) := by decide +kernel
theorem d_Mod_ruleOf_110 : decode b_Mod_ruleOf 110 = .ok (.iadd, 1) := by decide +kernel
theorem d_Mod_ruleOf_111 : decode b_Mod_ruleOf 111 = .ok (.iaload, 1) := by decide +kernel
theorem d_Mod_ruleOf_112 : decode b_Mod_ruleOf 112 = .ok (.invokevirtual 353, 3) := by decide +kernel
theorem d_Mod_ruleOf_115 : decode b_Mod_ruleOf 115 = .ok (.invokevirtual 350, 3) := by decide +kernel
theorem d_Mod_ruleOf_118 : decode b_Mod_ruleOf 118 = .ok (.istore 9, 2) := by decide +kernel
theorem d_Mod_ruleOf_120 : decode b_Mod_ruleOf 120 = .ok (.iinc 10 1, 3) := by decide +kernel
theorem d_Mod_ruleOf_123 : decode b_Mod_ruleOf 123 = .ok (.goto (-32), 3) := by decide +kernel
theorem d_Mod_ruleOf_126 : decode b_Mod_ruleOf 126 = .ok (.iconst 0, 1) := by decide +kernel
theorem d_Mod_ruleOf_127 : decode b_Mod_ruleOf 127 = .ok (.istore 10, 2) := by decide +kernel
theorem d_Mod_ruleOf_129 : decode b_Mod_ruleOf 129 = .ok (.iload 10, 2) := by decide +kernel
theorem d_Mod_ruleOf_131 : decode b_Mod_ruleOf 131 = .ok (.iload 8, 2) := by decide +kernel
theorem d_Mod_ruleOf_133 : decode b_Mod_ruleOf 133 = .ok (.if_icmp .ge 183, 3) := by decide +kernel
theorem d_Mod_ruleOf_136 : decode b_Mod_ruleOf 136 = .ok (.aload_n 0, 1) := by decide +kernel
theorem d_Mod_ruleOf_137 : decode b_Mod_ruleOf 137 = .ok (.getfield 226, 3) := by decide +kernel
theorem d_Mod_ruleOf_140 : decode b_Mod_ruleOf 140 = .ok (.iload 7, 2) := by decide +kernel
theorem d_Mod_ruleOf_142 : decode b_Mod_ruleOf 142 = .ok (.iload 10, 2) := by decide +kernel
theorem d_Mod_ruleOf_144 : decode b_Mod_ruleOf 144 = .ok (.iadd, 1) := by decide +kernel
theorem d_Mod_ruleOf_145 : decode b_Mod_ruleOf 145 = .ok (.baload, 1) := by decide +kernel
theorem d_Mod_ruleOf_146 : decode b_Mod_ruleOf 146 = .ok (.ifCond .ne 6, 3) := by decide +kernel
theorem d_Mod_ruleOf_149 : decode b_Mod_ruleOf 149 = .ok (.goto 161, 3) := by decide +kernel
theorem d_Mod_ruleOf_152 : decode b_Mod_ruleOf 152 = .ok (.aload_n 0, 1) := by decide +kernel
theorem d_Mod_ruleOf_153 : decode b_Mod_ruleOf 153 = .ok (.getfield 238, 3) := by decide +kernel
theorem d_Mod_ruleOf_156 : decode b_Mod_ruleOf 156 = .ok (.istore 11, 2) := by decide +kernel
theorem d_Mod_ruleOf_158 : decode b_Mod_ruleOf 158 = .ok (.aload_n 0, 1) := by decide +kernel
theorem d_Mod_ruleOf_159 : decode b_Mod_ruleOf 159 = .ok (.aload_n 0, 1) := by decide +kernel
theorem d_Mod_ruleOf_160 : decode b_Mod_ruleOf 160 = .ok (.getfield 190, 3) := by decide +kernel
theorem d_Mod_ruleOf_163 : decode b_Mod_ruleOf 163 = .ok (.aload_n 0, 1) := by decide +kernel
theorem d_Mod_ruleOf_164 : decode b_Mod_ruleOf 164 = .ok (.getfield 223, 3) := by decide +kernel
theorem d_Mod_ruleOf_167 : decode b_Mod_ruleOf 167 = .ok (.iload 7, 2) := by decide +kernel
theorem d_Mod_ruleOf_169 : decode b_Mod_ruleOf 169 = .ok (.iload 10, 2) := by decide +kernel
theorem d_Mod_ruleOf_171 : decode b_Mod_ruleOf 171 = .ok (.iadd, 1) := by decide +kernel
theorem d_Mod_ruleOf_172 : decode b_Mod_ruleOf 172 = .ok (.iaload, 1) := by decide +kernel
theorem d_Mod_ruleOf_173 : decode b_Mod_ruleOf 173 = .ok (.iaload, 1) := by decide +kernel
theorem d_Mod_ruleOf_174 : decode b_Mod_ruleOf 174 = .ok (.invokevirtual 571, 3) := by decide +kernel
theorem d_Mod_ruleOf_177 : decode b_Mod_ruleOf 177 = .ok (.istore 12, 2) := by decide +kernel
theorem d_Mod_ruleOf_179 : decode b_Mod_ruleOf 179 = .ok (.aload_n 0, 1) := by decide +kernel
theorem d_Mod_ruleOf_180 : decode b_Mod_ruleOf 180 = .ok (.aload_n 0, 1) := by decide +kernel
theorem d_Mod_ruleOf_181 : decode b_Mod_ruleOf 181 = .ok (.aload_n 0, 1) := by decide +kernel
theorem d_Mod_ruleOf_182 : decode b_Mod_ruleOf 182 = .ok (.iconst 2, 1) := by decide +kernel
theorem d_Mod_ruleOf_183 : decode b_Mod_ruleOf 183 = .ok (.iload_n 1, 1) := by decide +kernel
theorem d_Mod_ruleOf_184 : decode b_Mod_ruleOf 184 = .ok (.iconst (-1), 1) := by decide +kernel
theorem d_Mod_ruleOf_185 : decode b_Mod_ruleOf 185 = .ok (.iconst 0, 1) := by decide +kernel
theorem d_Mod_ruleOf_186 : decode b_Mod_ruleOf 186 = .ok (.invokevirtual 336, 3) := by decide +kernel
theorem d_Mod_ruleOf_189 : decode b_Mod_ruleOf 189 = .ok (.iconst 0, 1) := by decide +kernel
theorem d_Mod_ruleOf_190 : decode b_Mod_ruleOf 190 = .ok (.iload_n 3, 1) := by decide +kernel
theorem d_Mod_ruleOf_191 : decode b_Mod_ruleOf 191 = .ok (.invokevirtual 555, 3) := by decide +kernel
theorem d_Mod_ruleOf_194 : decode b_Mod_ruleOf 194 = .ok (.iload 5, 2) := by decide +kernel
theorem d_Mod_ruleOf_196 : decode b_Mod_ruleOf 196 = .ok (.invokevirtual 350, 3) := by decide +kernel
theorem d_Mod_ruleOf_199 : decode b_Mod_ruleOf 199 = .ok (.istore 13, 2) := by decide +kernel
theorem d_Mod_ruleOf_201 : decode b_Mod_ruleOf 201 = .ok (.iconst 0, 1) := by decide +kernel
theorem d_Mod_ruleOf_202 : decode b_Mod_ruleOf 202 = .ok (.istore 14, 2) := by decide +kernel
theorem d_Mod_ruleOf_204 : decode b_Mod_ruleOf 204 = .ok (.iload 14, 2) := by decide +kernel
theorem d_Mod_ruleOf_206 : decode b_Mod_ruleOf 206 = .ok (.iload 6, 2) := by decide +kernel
theorem d_Mod_ruleOf_208 : decode b_Mod_ruleOf 208 = .ok (.if_icmp .ge 28, 3) := by decide +kernel
theorem d_Mod_ruleOf_211 : decode b_Mod_ruleOf 211 = .ok (.aload_n 0, 1) := by decide +kernel
theorem d_Mod_ruleOf_212 : decode b_Mod_ruleOf 212 = .ok (.iload 13, 2) := by decide +kernel
theorem d_Mod_ruleOf_214 : decode b_Mod_ruleOf 214 = .ok (.aload_n 0, 1) := by decide +kernel
theorem d_Mod_ruleOf_215 : decode b_Mod_ruleOf 215 = .ok (.aload_n 0, 1) := by decide +kernel
theorem d_Mod_ruleOf_216 : decode b_Mod_ruleOf 216 = .ok (.getfield 241, 3) := by decide +kernel
theorem d_Mod_ruleOf_219 : decode b_Mod_ruleOf 219 = .ok (.iload 14, 2) := by decide +kernel
theorem d_Mod_ruleOf_221 : decode b_Mod_ruleOf 221 = .ok (.iaload, 1) := by decide +kernel
theorem d_Mod_ruleOf_222 : decode b_Mod_ruleOf 222 = .ok (.invokevirtual 353, 3) := by decide +kernel
theorem d_Mod_ruleOf_225 : decode b_Mod_ruleOf 225 = .ok (.invokevirtual 350, 3) := by decide +kernel
theorem d_Mod_ruleOf_228 : decode b_Mod_ruleOf 228 = .ok (.istore 13, 2) := by decide +kernel
theorem d_Mod_ruleOf_230 : decode b_Mod_ruleOf 230 = .ok (.iinc 14 1, 3) := by decide +kernel
theorem d_Mod_ruleOf_233 : decode b_Mod_ruleOf 233 = .ok (.goto (-29), 3) := by decide +kernel
theorem d_Mod_ruleOf_236 : decode b_Mod_ruleOf 236 = .ok (.iload_n 3, 1) := by decide +kernel
theorem d_Mod_ruleOf_237 : decode b_Mod_ruleOf 237 = .ok (.istore 14, 2) := by decide +kernel
theorem d_Mod_ruleOf_239 : decode b_Mod_ruleOf 239 = .ok (.iload 14, 2) := by decide +kernel
theorem d_Mod_ruleOf_241 : decode b_Mod_ruleOf 241 = .ok (.iload_n 3, 1) := by decide +kernel
theorem d_Mod_ruleOf_242 : decode b_Mod_ruleOf 242 = .ok (.iload 4, 2) := by decide +kernel
theorem d_Mod_ruleOf_244 : decode b_Mod_ruleOf 244 = .ok (.iadd, 1) := by decide +kernel
theorem d_Mod_ruleOf_245 : decode b_Mod_ruleOf 245 = .ok (.if_icmp .ge 29, 3) := by decide +kernel
theorem d_Mod_ruleOf_248 : decode b_Mod_ruleOf 248 = .ok (.aload_n 0, 1) := by decide +kernel
theorem d_Mod_ruleOf_249 : decode b_Mod_ruleOf 249 = .ok (.iload 13, 2) := by decide +kernel
theorem d_Mod_ruleOf_251 : decode b_Mod_ruleOf 251 = .ok (.aload_n 0, 1) := by decide +kernel
theorem d_Mod_ruleOf_252 : decode b_Mod_ruleOf 252 = .ok (.iload 12, 2) := by decide +kernel
theorem d_Mod_ruleOf_254 : decode b_Mod_ruleOf 254 = .ok (.iload_n 3, 1) := by decide +kernel
theorem d_Mod_ruleOf_255 : decode b_Mod_ruleOf 255 = .ok (.iload 4, 2) := by decide +kernel
theorem d_Mod_ruleOf_257 : decode b_Mod_ruleOf 257 = .ok (.iadd, 1) := by decide +kernel
theorem d_Mod_ruleOf_258 : decode b_Mod_ruleOf 258 = .ok (.iload 14, 2) := by decide +kernel
theorem d_Mod_ruleOf_260 : decode b_Mod_ruleOf 260 = .ok (.invokevirtual 440, 3) := by decide +kernel
theorem d_Mod_ruleOf_263 : decode b_Mod_ruleOf 263 = .ok (.invokevirtual 350, 3) := by decide +kernel
theorem d_Mod_ruleOf_266 : decode b_Mod_ruleOf 266 = .ok (.istore 13, 2) := by decide +kernel
theorem d_Mod_ruleOf_268 : decode b_Mod_ruleOf 268 = .ok (.iinc 14 1, 3) := by decide +kernel
theorem d_Mod_ruleOf_271 : decode b_Mod_ruleOf 271 = .ok (.goto (-32), 3) := by decide +kernel
theorem d_Mod_ruleOf_274 : decode b_Mod_ruleOf 274 = .ok (.aload_n 0, 1) := by decide +kernel
theorem d_Mod_ruleOf_275 : decode b_Mod_ruleOf 275 = .ok (.iload 9, 2) := by decide +kernel
theorem d_Mod_ruleOf_277 : decode b_Mod_ruleOf 277 = .ok (.aload_n 0, 1) := by decide +kernel
theorem d_Mod_ruleOf_278 : decode b_Mod_ruleOf 278 = .ok (.bipush 7, 2) := by decide +kernel
theorem d_Mod_ruleOf_280 : decode b_Mod_ruleOf 280 = .ok (.iload 11, 2) := by decide +kernel
theorem d_Mod_ruleOf_282 : decode b_Mod_ruleOf 282 = .ok (.aload_n 0, 1) := by decide +kernel
theorem d_Mod_ruleOf_283 : decode b_Mod_ruleOf 283 = .ok (.iload 13, 2) := by decide +kernel
theorem d_Mod_ruleOf_285 : decode b_Mod_ruleOf 285 = .ok (.aload_n 0, 1) := by decide +kernel
theorem d_Mod_ruleOf_286 : decode b_Mod_ruleOf 286 = .ok (.aload_n 0, 1) := by decide +kernel
theorem d_Mod_ruleOf_287 : decode b_Mod_ruleOf 287 = .ok (.getfield 223, 3) := by decide +kernel
theorem d_Mod_ruleOf_290 : decode b_Mod_ruleOf 290 = .ok (.iload 7, 2) := by decide +kernel
theorem d_Mod_ruleOf_292 : decode b_Mod_ruleOf 292 = .ok (.iload 10, 2) := by decide +kernel
theorem d_Mod_ruleOf_294 : decode b_Mod_ruleOf 294 = .ok (.iadd, 1) := by decide +kernel
theorem d_Mod_ruleOf_295 : decode b_Mod_ruleOf 295 = .ok (.iaload, 1) := by decide +kernel
theorem d_Mod_ruleOf_296 : decode b_Mod_ruleOf 296 = .ok (.invokevirtual 574, 3) := by decide +kernel
theorem d_Mod_ruleOf_299 : decode b_Mod_ruleOf 299 = .ok (.invokevirtual 350, 3) := by decide +kernel
theorem d_Mod_ruleOf_302 : decode b_Mod_ruleOf 302 = .ok (.invokevirtual 558, 3) := by decide +kernel
theorem d_Mod_ruleOf_305 : decode b_Mod_ruleOf 305 = .ok (.invokevirtual 350, 3) := by decide +kernel
theorem d_Mod_ruleOf_308 : decode b_Mod_ruleOf 308 = .ok (.istore 9, 2) := by decide +kernel
theorem d_Mod_ruleOf_310 : decode b_Mod_ruleOf 310 = .ok (.iinc 10 1, 3) := by decide +kernel
theorem d_Mod_ruleOf_313 : decode b_Mod_ruleOf 313 = .ok (.goto (-184), 3) := by decide +kernel
theorem d_Mod_ruleOf_316 : decode b_Mod_ruleOf 316 = .ok (.aload_n 0, 1) := by decide +kernel
theorem d_Mod_ruleOf_317 : decode b_Mod_ruleOf 317 = .ok (.bipush 7, 2) := by decide +kernel
theorem d_Mod_ruleOf_319 : decode b_Mod_ruleOf 319 = .ok (.iconst 0, 1) := by decide +kernel
theorem d_Mod_ruleOf_320 : decode b_Mod_ruleOf 320 = .ok (.iload 9, 2) := by decide +kernel
theorem d_Mod_ruleOf_322 : decode b_Mod_ruleOf 322 = .ok (.invokevirtual 558, 3) := by decide +kernel
theorem d_Mod_ruleOf_325 : decode b_Mod_ruleOf 325 = .ok (.ireturn, 1) := by decide +kernel
theorem d_Mod_made_0 : decode b_Mod_made 0 = .ok (.iload_n 2, 1) := by decide +kernel
theorem d_Mod_made_1 : decode b_Mod_made 1 = .ok (.istore 7, 2) := by decide +kernel
theorem d_Mod_made_3 : decode b_Mod_made 3 = .ok (.iconst 0, 1) := by decide +kernel
theorem d_Mod_made_4 : decode b_Mod_made 4 = .ok (.istore 8, 2) := by decide +kernel
theorem d_Mod_made_6 : decode b_Mod_made 6 = .ok (.iload 8, 2) := by decide +kernel
theorem d_Mod_made_8 : decode b_Mod_made 8 = .ok (.iload 4, 2) := by decide +kernel
theorem d_Mod_made_10 : decode b_Mod_made 10 = .ok (.if_icmp .ge 55, 3) := by decide +kernel
theorem d_Mod_made_13 : decode b_Mod_made 13 = .ok (.aload_n 0, 1) := by decide +kernel
theorem d_Mod_made_14 : decode b_Mod_made 14 = .ok (.getfield 208, 3) := by decide +kernel
theorem d_Mod_made_17 : decode b_Mod_made 17 = .ok (.iload_n 3, 1) := by decide +kernel
theorem d_Mod_made_18 : decode b_Mod_made 18 = .ok (.iload 8, 2) := by decide +kernel
theorem d_Mod_made_20 : decode b_Mod_made 20 = .ok (.iadd, 1) := by decide +kernel
theorem d_Mod_made_21 : decode b_Mod_made 21 = .ok (.aload_n 0, 1) := by decide +kernel
theorem d_Mod_made_22 : decode b_Mod_made 22 = .ok (.getfield 58, 3) := by decide +kernel
theorem d_Mod_made_25 : decode b_Mod_made 25 = .ok (.aload_n 0, 1) := by decide +kernel
theorem d_Mod_made_26 : decode b_Mod_made 26 = .ok (.aload_n 0, 1) := by decide +kernel
theorem d_Mod_made_27 : decode b_Mod_made 27 = .ok (.aload_n 0, 1) := by decide +kernel
theorem d_Mod_made_28 : decode b_Mod_made 28 = .ok (.getfield 58, 3) := by decide +kernel
theorem d_Mod_made_31 : decode b_Mod_made 31 = .ok (.iload 7, 2) := by decide +kernel
theorem d_Mod_made_33 : decode b_Mod_made 33 = .ok (.iaload, 1) := by decide +kernel
theorem d_Mod_made_34 : decode b_Mod_made 34 = .ok (.iload_n 3, 1) := by decide +kernel
theorem d_Mod_made_35 : decode b_Mod_made 35 = .ok (.iload 8, 2) := by decide +kernel
theorem d_Mod_made_37 : decode b_Mod_made 37 = .ok (.iadd, 1) := by decide +kernel
theorem d_Mod_made_38 : decode b_Mod_made 38 = .ok (.iload_n 3, 1) := by decide +kernel
theorem d_Mod_made_39 : decode b_Mod_made 39 = .ok (.iload 8, 2) := by decide +kernel
theorem d_Mod_made_41 : decode b_Mod_made 41 = .ok (.iadd, 1) := by decide +kernel
theorem d_Mod_made_42 : decode b_Mod_made 42 = .ok (.invokevirtual 513, 3) := by decide +kernel
theorem d_Mod_made_45 : decode b_Mod_made 45 = .ok (.invokevirtual 468, 3) := by decide +kernel
theorem d_Mod_made_48 : decode b_Mod_made 48 = .ok (.iaload, 1) := by decide +kernel
theorem d_Mod_made_49 : decode b_Mod_made 49 = .ok (.iastore, 1) := by decide +kernel
theorem d_Mod_made_50 : decode b_Mod_made 50 = .ok (.aload_n 0, 1) := by decide +kernel
theorem d_Mod_made_51 : decode b_Mod_made 51 = .ok (.getfield 62, 3) := by decide +kernel
theorem d_Mod_made_54 : decode b_Mod_made 54 = .ok (.iload 7, 2) := by decide +kernel
theorem d_Mod_made_56 : decode b_Mod_made 56 = .ok (.iaload, 1) := by decide +kernel
theorem d_Mod_made_57 : decode b_Mod_made 57 = .ok (.istore 7, 2) := by decide +kernel
theorem d_Mod_made_59 : decode b_Mod_made 59 = .ok (.iinc 8 1, 3) := by decide +kernel
theorem d_Mod_made_62 : decode b_Mod_made 62 = .ok (.goto (-56), 3) := by decide +kernel
theorem d_Mod_made_65 : decode b_Mod_made 65 = .ok (.aload_n 0, 1) := by decide +kernel
theorem d_Mod_made_66 : decode b_Mod_made 66 = .ok (.aload_n 0, 1) := by decide +kernel
theorem d_Mod_made_67 : decode b_Mod_made 67 = .ok (.iconst 1, 1) := by decide +kernel
theorem d_Mod_made_68 : decode b_Mod_made 68 = .ok (.iload_n 1, 1) := by decide +kernel
theorem d_Mod_made_69 : decode b_Mod_made 69 = .ok (.iconst 0, 1) := by decide +kernel
theorem d_Mod_made_70 : decode b_Mod_made 70 = .ok (.iconst 0, 1) := by decide +kernel
theorem d_Mod_made_71 : decode b_Mod_made 71 = .ok (.invokevirtual 336, 3) := by decide +kernel
theorem d_Mod_made_74 : decode b_Mod_made 74 = .ok (.iconst 0, 1) := by decide +kernel
theorem d_Mod_made_75 : decode b_Mod_made 75 = .ok (.iload_n 3, 1) := by decide +kernel
theorem d_Mod_made_76 : decode b_Mod_made 76 = .ok (.iload 4, 2) := by decide +kernel
theorem d_Mod_made_78 : decode b_Mod_made 78 = .ok (.iadd, 1) := by decide +kernel
theorem d_Mod_made_79 : decode b_Mod_made 79 = .ok (.invokevirtual 555, 3) := by decide +kernel
theorem d_Mod_made_82 : decode b_Mod_made 82 = .ok (.istore 8, 2) := by decide +kernel
theorem d_Mod_made_84 : decode b_Mod_made 84 = .ok (.aload_n 0, 1) := by decide +kernel
theorem d_Mod_made_85 : decode b_Mod_made 85 = .ok (.iconst 0, 1) := by decide +kernel
theorem d_Mod_made_86 : decode b_Mod_made 86 = .ok (.putfield 238, 3) := by decide +kernel
theorem d_Mod_made_89 : decode b_Mod_made 89 = .ok (.iconst 0, 1) := by decide +kernel
theorem d_Mod_made_90 : decode b_Mod_made 90 = .ok (.istore 9, 2) := by decide +kernel
theorem d_Mod_made_92 : decode b_Mod_made 92 = .ok (.iload 9, 2) := by decide +kernel
theorem d_Mod_made_94 : decode b_Mod_made 94 = .ok (.iload 4, 2) := by decide +kernel
theorem d_Mod_made_96 : decode b_Mod_made 96 = .ok (.if_icmp .ge 34, 3) := by decide +kernel
theorem d_Mod_made_99 : decode b_Mod_made 99 = .ok (.aload_n 0, 1) := by decide +kernel
theorem d_Mod_made_100 : decode b_Mod_made 100 = .ok (.getfield 235, 3) := by decide +kernel
theorem d_Mod_made_103 : decode b_Mod_made 103 = .ok (.aload_n 0, 1) := by decide +kernel
theorem d_Mod_made_104 : decode b_Mod_made 104 = .ok (.dup, 1) := by decide +kernel
theorem d_Mod_made_105 : decode b_Mod_made 105 = .ok (.getfield 238, 3) := by decide +kernel
theorem d_Mod_made_108 : decode b_Mod_made 108 = .ok (.dup_x1, 1) := by decide +kernel
theorem d_Mod_made_109 : decode b_Mod_made 109 = .ok (.iconst 1, 1) := by decide +kernel
theorem d_Mod_made_110 : decode b_Mod_made 110 = .ok (.iadd, 1) := by decide +kernel
theorem d_Mod_made_111 : decode b_Mod_made 111 = .ok (.putfield 238, 3) := by decide +kernel
theorem d_Mod_made_114 : decode b_Mod_made 114 = .ok (.aload_n 0, 1) := by decide +kernel
theorem d_Mod_made_115 : decode b_Mod_made 115 = .ok (.getfield 208, 3) := by decide +kernel
theorem d_Mod_made_118 : decode b_Mod_made 118 = .ok (.iload_n 3, 1) := by decide +kernel
theorem d_Mod_made_119 : decode b_Mod_made 119 = .ok (.iload 9, 2) := by decide +kernel
theorem d_Mod_made_121 : decode b_Mod_made 121 = .ok (.iadd, 1) := by decide +kernel
theorem d_Mod_made_122 : decode b_Mod_made 122 = .ok (.iaload, 1) := by decide +kernel
theorem d_Mod_made_123 : decode b_Mod_made 123 = .ok (.iastore, 1) := by decide +kernel
theorem d_Mod_made_124 : decode b_Mod_made 124 = .ok (.iinc 9 1, 3) := by decide +kernel
theorem d_Mod_made_127 : decode b_Mod_made 127 = .ok (.goto (-35), 3) := by decide +kernel
theorem d_Mod_made_130 : decode b_Mod_made 130 = .ok (.aload_n 0, 1) := by decide +kernel
theorem d_Mod_made_131 : decode b_Mod_made 131 = .ok (.aload_n 0, 1) := by decide +kernel
theorem d_Mod_made_132 : decode b_Mod_made 132 = .ok (.bipush 6, 2) := by decide +kernel
theorem d_Mod_made_134 : decode b_Mod_made 134 = .ok (.iconst 0, 1) := by decide +kernel
theorem d_Mod_made_135 : decode b_Mod_made 135 = .ok (.aload_n 0, 1) := by decide +kernel
theorem d_Mod_made_136 : decode b_Mod_made 136 = .ok (.bipush 6, 2) := by decide +kernel
theorem d_Mod_made_138 : decode b_Mod_made 138 = .ok (.iload 8, 2) := by decide +kernel
theorem d_Mod_made_140 : decode b_Mod_made 140 = .ok (.aload_n 0, 1) := by decide +kernel
theorem d_Mod_made_141 : decode b_Mod_made 141 = .ok (.iconst (-1), 1) := by decide +kernel
theorem d_Mod_made_142 : decode b_Mod_made 142 = .ok (.invokevirtual 356, 3) := by decide +kernel
theorem d_Mod_made_145 : decode b_Mod_made 145 = .ok (.iconst 0, 1) := by decide +kernel
theorem d_Mod_made_146 : decode b_Mod_made 146 = .ok (.invokevirtual 336, 3) := by decide +kernel
theorem d_Mod_made_149 : decode b_Mod_made 149 = .ok (.invokevirtual 558, 3) := by decide +kernel
theorem d_Mod_made_152 : decode b_Mod_made 152 = .ok (.invokevirtual 468, 3) := by decide +kernel
theorem d_Mod_made_155 : decode b_Mod_made 155 = .ok (.istore 9, 2) := by decide +kernel
theorem d_Mod_made_157 : decode b_Mod_made 157 = .ok (.iconst 0, 1) := by decide +kernel
theorem d_Mod_made_158 : decode b_Mod_made 158 = .ok (.istore 10, 2) := by decide +kernel
theorem d_Mod_made_160 : decode b_Mod_made 160 = .ok (.iload 10, 2) := by decide +kernel
theorem d_Mod_made_162 : decode b_Mod_made 162 = .ok (.iload 5, 2) := by decide +kernel
theorem d_Mod_made_164 : decode b_Mod_made 164 = .ok (.if_icmp .ge 48, 3) := by decide +kernel
theorem d_Mod_made_167 : decode b_Mod_made 167 = .ok (.aload_n 0, 1) := by decide +kernel
theorem d_Mod_made_168 : decode b_Mod_made 168 = .ok (.aload_n 0, 1) := by decide +kernel
theorem d_Mod_made_169 : decode b_Mod_made 169 = .ok (.getfield 244, 3) := by decide +kernel
theorem d_Mod_made_172 : decode b_Mod_made 172 = .ok (.iload 10, 2) := by decide +kernel
theorem d_Mod_made_174 : decode b_Mod_made 174 = .ok (.iaload, 1) := by decide +kernel
theorem d_Mod_made_175 : decode b_Mod_made 175 = .ok (.invokevirtual 434, 3) := by decide +kernel
theorem d_Mod_made_178 : decode b_Mod_made 178 = .ok (.aload_n 0, 1) := by decide +kernel
theorem d_Mod_made_179 : decode b_Mod_made 179 = .ok (.getfield 241, 3) := by decide +kernel
theorem d_Mod_made_182 : decode b_Mod_made 182 = .ok (.iload 10, 2) := by decide +kernel
theorem d_Mod_made_184 : decode b_Mod_made 184 = .ok (.aload_n 0, 1) := by decide +kernel
theorem d_Mod_made_185 : decode b_Mod_made 185 = .ok (.getfield 58, 3) := by decide +kernel
theorem d_Mod_made_188 : decode b_Mod_made 188 = .ok (.aload_n 0, 1) := by decide +kernel
theorem d_Mod_made_189 : decode b_Mod_made 189 = .ok (.aload_n 0, 1) := by decide +kernel
theorem d_Mod_made_190 : decode b_Mod_made 190 = .ok (.iload_n 1, 1) := by decide +kernel
theorem d_Mod_made_191 : decode b_Mod_made 191 = .ok (.iload 10, 2) := by decide +kernel
theorem d_Mod_made_193 : decode b_Mod_made 193 = .ok (.iload_n 3, 1) := by decide +kernel
theorem d_Mod_made_194 : decode b_Mod_made 194 = .ok (.iload 4, 2) := by decide +kernel
theorem d_Mod_made_196 : decode b_Mod_made 196 = .ok (.iload 9, 2) := by decide +kernel
theorem d_Mod_made_198 : decode b_Mod_made 198 = .ok (.invokevirtual 561, 3) := by decide +kernel
theorem d_Mod_made_201 : decode b_Mod_made 201 = .ok (.invokevirtual 468, 3) := by decide +kernel
theorem d_Mod_made_204 : decode b_Mod_made 204 = .ok (.iaload, 1) := by decide +kernel
theorem d_Mod_made_205 : decode b_Mod_made 205 = .ok (.iastore, 1) := by decide +kernel
theorem d_Mod_made_206 : decode b_Mod_made 206 = .ok (.iinc 10 1, 3) := by decide +kernel
theorem d_Mod_made_209 : decode b_Mod_made 209 = .ok (.goto (-49), 3) := by decide +kernel
theorem d_Mod_made_212 : decode b_Mod_made 212 = .ok (.aload_n 0, 1) := by decide +kernel
theorem d_Mod_made_213 : decode b_Mod_made 213 = .ok (.iload 8, 2) := by decide +kernel
theorem d_Mod_made_215 : decode b_Mod_made 215 = .ok (.invokevirtual 468, 3) := by decide +kernel
theorem d_Mod_made_218 : decode b_Mod_made 218 = .ok (.istore 10, 2) := by decide +kernel
theorem d_Mod_made_220 : decode b_Mod_made 220 = .ok (.aload_n 0, 1) := by decide +kernel
theorem d_Mod_made_221 : decode b_Mod_made 221 = .ok (.iconst 0, 1) := by decide +kernel
theorem d_Mod_made_222 : decode b_Mod_made 222 = .ok (.putfield 238, 3) := by decide +kernel
theorem d_Mod_made_225 : decode b_Mod_made 225 = .ok (.aload_n 0, 1) := by decide +kernel
theorem d_Mod_made_226 : decode b_Mod_made 226 = .ok (.iload_n 3, 1) := by decide +kernel
theorem d_Mod_made_227 : decode b_Mod_made 227 = .ok (.iload 9, 2) := by decide +kernel
theorem d_Mod_made_229 : decode b_Mod_made 229 = .ok (.iload 5, 2) := by decide +kernel
theorem d_Mod_made_231 : decode b_Mod_made 231 = .ok (.invokevirtual 564, 3) := by decide +kernel
theorem d_Mod_made_234 : decode b_Mod_made 234 = .ok (.iconst 0, 1) := by decide +kernel
theorem d_Mod_made_235 : decode b_Mod_made 235 = .ok (.istore 11, 2) := by decide +kernel
theorem d_Mod_made_237 : decode b_Mod_made 237 = .ok (.iload 11, 2) := by decide +kernel
theorem d_Mod_made_239 : decode b_Mod_made 239 = .ok (.iload 4, 2) := by decide +kernel
theorem d_Mod_made_241 : decode b_Mod_made 241 = .ok (.if_icmp .ge 34, 3) := by decide +kernel
theorem d_Mod_made_244 : decode b_Mod_made 244 = .ok (.aload_n 0, 1) := by decide +kernel
theorem d_Mod_made_245 : decode b_Mod_made 245 = .ok (.getfield 235, 3) := by decide +kernel
theorem d_Mod_made_248 : decode b_Mod_made 248 = .ok (.aload_n 0, 1) := by decide +kernel
theorem d_Mod_made_249 : decode b_Mod_made 249 = .ok (.dup, 1) := by decide +kernel
theorem d_Mod_made_250 : decode b_Mod_made 250 = .ok (.getfield 238, 3) := by decide +kernel
theorem d_Mod_made_253 : decode b_Mod_made 253 = .ok (.dup_x1, 1) := by decide +kernel
theorem d_Mod_made_254 : decode b_Mod_made 254 = .ok (.iconst 1, 1) := by decide +kernel
theorem d_Mod_made_255 : decode b_Mod_made 255 = .ok (.iadd, 1) := by decide +kernel
theorem d_Mod_made_256 : decode b_Mod_made 256 = .ok (.putfield 238, 3) := by decide +kernel
theorem d_Mod_made_259 : decode b_Mod_made 259 = .ok (.aload_n 0, 1) := by decide +kernel
theorem d_Mod_made_260 : decode b_Mod_made 260 = .ok (.getfield 208, 3) := by decide +kernel
theorem d_Mod_made_263 : decode b_Mod_made 263 = .ok (.iload_n 3, 1) := by decide +kernel
theorem d_Mod_made_264 : decode b_Mod_made 264 = .ok (.iload 11, 2) := by decide +kernel
theorem d_Mod_made_266 : decode b_Mod_made 266 = .ok (.iadd, 1) := by decide +kernel
theorem d_Mod_made_267 : decode b_Mod_made 267 = .ok (.iaload, 1) := by decide +kernel
theorem d_Mod_made_268 : decode b_Mod_made 268 = .ok (.iastore, 1) := by decide +kernel
theorem d_Mod_made_269 : decode b_Mod_made 269 = .ok (.iinc 11 1, 3) := by decide +kernel
theorem d_Mod_made_272 : decode b_Mod_made 272 = .ok (.goto (-35), 3) := by decide +kernel
theorem d_Mod_made_275 : decode b_Mod_made 275 = .ok (.aload_n 0, 1) := by decide +kernel
theorem d_Mod_made_276 : decode b_Mod_made 276 = .ok (.getfield 235, 3) := by decide +kernel
theorem d_Mod_made_279 : decode b_Mod_made 279 = .ok (.aload_n 0, 1) := by decide +kernel
theorem d_Mod_made_280 : decode b_Mod_made 280 = .ok (.dup, 1) := by decide +kernel
theorem d_Mod_made_281 : decode b_Mod_made 281 = .ok (.getfield 238, 3) := by decide +kernel
theorem d_Mod_made_284 : decode b_Mod_made 284 = .ok (.dup_x1, 1) := by decide +kernel
theorem d_Mod_made_285 : decode b_Mod_made 285 = .ok (.iconst 1, 1) := by decide +kernel
theorem d_Mod_made_286 : decode b_Mod_made 286 = .ok (.iadd, 1) := by decide +kernel
theorem d_Mod_made_287 : decode b_Mod_made 287 = .ok (.putfield 238, 3) := by decide +kernel
theorem d_Mod_made_290 : decode b_Mod_made 290 = .ok (.aload_n 0, 1) := by decide +kernel
theorem d_Mod_made_291 : decode b_Mod_made 291 = .ok (.getfield 58, 3) := by decide +kernel
theorem d_Mod_made_294 : decode b_Mod_made 294 = .ok (.iload 10, 2) := by decide +kernel
theorem d_Mod_made_296 : decode b_Mod_made 296 = .ok (.iaload, 1) := by decide +kernel
theorem d_Mod_made_297 : decode b_Mod_made 297 = .ok (.iastore, 1) := by decide +kernel
theorem d_Mod_made_298 : decode b_Mod_made 298 = .ok (.aload_n 0, 1) := by decide +kernel
theorem d_Mod_made_299 : decode b_Mod_made 299 = .ok (.aload_n 0, 1) := by decide +kernel
theorem d_Mod_made_300 : decode b_Mod_made 300 = .ok (.bipush 6, 2) := by decide +kernel
theorem d_Mod_made_302 : decode b_Mod_made 302 = .ok (.iconst 0, 1) := by decide +kernel
theorem d_Mod_made_303 : decode b_Mod_made 303 = .ok (.aload_n 0, 1) := by decide +kernel
theorem d_Mod_made_304 : decode b_Mod_made 304 = .ok (.aload_n 0, 1) := by decide +kernel
theorem d_Mod_made_305 : decode b_Mod_made 305 = .ok (.iload 9, 2) := by decide +kernel
theorem d_Mod_made_307 : decode b_Mod_made 307 = .ok (.iload_n 3, 1) := by decide +kernel
theorem d_Mod_made_308 : decode b_Mod_made 308 = .ok (.iload 4, 2) := by decide +kernel
theorem d_Mod_made_310 : decode b_Mod_made 310 = .ok (.invokevirtual 555, 3) := by decide +kernel
theorem d_Mod_made_313 : decode b_Mod_made 313 = .ok (.iload 10, 2) := by decide +kernel
theorem d_Mod_made_315 : decode b_Mod_made 315 = .ok (.invokevirtual 350, 3) := by decide +kernel
theorem d_Mod_made_318 : decode b_Mod_made 318 = .ok (.invokevirtual 558, 3) := by decide +kernel
theorem d_Mod_made_321 : decode b_Mod_made 321 = .ok (.invokevirtual 402, 3) := by decide +kernel
theorem d_Mod_made_324 : decode b_Mod_made 324 = .ok (.istore 11, 2) := by decide +kernel
theorem d_Mod_made_326 : decode b_Mod_made 326 = .ok (.aload_n 0, 1) := by decide +kernel
theorem d_Mod_made_327 : decode b_Mod_made 327 = .ok (.getfield 68, 3) := by decide +kernel
theorem d_Mod_made_330 : decode b_Mod_made 330 = .ok (.iload 6, 2) := by decide +kernel
theorem d_Mod_made_332 : decode b_Mod_made 332 = .ok (.iaload, 1) := by decide +kernel
theorem d_Mod_made_333 : decode b_Mod_made 333 = .ok (.aload_n 0, 1) := by decide +kernel
theorem d_Mod_made_334 : decode b_Mod_made 334 = .ok (.getfield 68, 3) := by decide +kernel
theorem d_Mod_made_337 : decode b_Mod_made 337 = .ok (.iload 11, 2) := by decide +kernel
theorem d_Mod_made_339 : decode b_Mod_made 339 = .ok (.iaload, 1) := by decide +kernel
theorem d_Mod_made_340 : decode b_Mod_made 340 = .ok (.iadd, 1) := by decide +kernel
theorem d_Mod_made_341 : decode b_Mod_made 341 = .ok (.istore 12, 2) := by decide +kernel
theorem d_Mod_made_343 : decode b_Mod_made 343 = .ok (.iconst 0, 1) := by decide +kernel
theorem d_Mod_made_344 : decode b_Mod_made 344 = .ok (.istore 13, 2) := by decide +kernel
theorem d_Mod_made_346 : decode b_Mod_made 346 = .ok (.iload 13, 2) := by decide +kernel
theorem d_Mod_made_348 : decode b_Mod_made 348 = .ok (.iload 5, 2) := by decide +kernel
theorem d_Mod_made_350 : decode b_Mod_made 350 = .ok (.if_icmp .ge 32, 3) := by decide +kernel
theorem d_Mod_made_353 : decode b_Mod_made 353 = .ok (.ldc_w 327, 3) := by decide +kernel
theorem d_Mod_made_356 : decode b_Mod_made 356 = .ok (.iload 12, 2) := by decide +kernel
theorem d_Mod_made_358 : decode b_Mod_made 358 = .ok (.aload_n 0, 1) := by decide +kernel
theorem d_Mod_made_359 : decode b_Mod_made 359 = .ok (.getfield 68, 3) := by decide +kernel
theorem d_Mod_made_362 : decode b_Mod_made 362 = .ok (.aload_n 0, 1) := by decide +kernel
theorem d_Mod_made_363 : decode b_Mod_made 363 = .ok (.getfield 214, 3) := by decide +kernel
theorem d_Mod_made_366 : decode b_Mod_made 366 = .ok (.iload 13, 2) := by decide +kernel
theorem d_Mod_made_368 : decode b_Mod_made 368 = .ok (.iaload, 1) := by decide +kernel
theorem d_Mod_made_369 : decode b_Mod_made 369 = .ok (.iaload, 1) := by decide +kernel
theorem d_Mod_made_370 : decode b_Mod_made 370 = .ok (.iadd, 1) := by decide +kernel
theorem d_Mod_made_371 : decode b_Mod_made 371 = .ok (.invokestatic 328, 3) := by decide +kernel
theorem d_Mod_made_374 : decode b_Mod_made 374 = .ok (.istore 12, 2) := by decide +kernel
theorem d_Mod_made_376 : decode b_Mod_made 376 = .ok (.iinc 13 1, 3) := by decide +kernel
theorem d_Mod_made_379 : decode b_Mod_made 379 = .ok (.goto (-33), 3) := by decide +kernel
theorem d_Mod_made_382 : decode b_Mod_made 382 = .ok (.aload_n 0, 1) := by decide +kernel
theorem d_Mod_made_383 : decode b_Mod_made 383 = .ok (.iload 12, 2) := by decide +kernel
theorem d_Mod_made_385 : decode b_Mod_made 385 = .ok (.invokevirtual 525, 3) := by decide +kernel
theorem d_Mod_made_388 : decode b_Mod_made 388 = .ok (.aload_n 0, 1) := by decide +kernel
theorem d_Mod_made_389 : decode b_Mod_made 389 = .ok (.getfield 110, 3) := by decide +kernel
theorem d_Mod_made_392 : decode b_Mod_made 392 = .ok (.iload_n 1, 1) := by decide +kernel
theorem d_Mod_made_393 : decode b_Mod_made 393 = .ok (.aload_n 0, 1) := by decide +kernel
theorem d_Mod_made_394 : decode b_Mod_made 394 = .ok (.iload 6, 2) := by decide +kernel
theorem d_Mod_made_396 : decode b_Mod_made 396 = .ok (.invokevirtual 528, 3) := by decide +kernel
theorem d_Mod_made_399 : decode b_Mod_made 399 = .ok (.iastore, 1) := by decide +kernel
theorem d_Mod_made_400 : decode b_Mod_made 400 = .ok (.aload_n 0, 1) := by decide +kernel
theorem d_Mod_made_401 : decode b_Mod_made 401 = .ok (.getfield 134, 3) := by decide +kernel
theorem d_Mod_made_404 : decode b_Mod_made 404 = .ok (.iload_n 1, 1) := by decide +kernel
theorem d_Mod_made_405 : decode b_Mod_made 405 = .ok (.aload_n 0, 1) := by decide +kernel
theorem d_Mod_made_406 : decode b_Mod_made 406 = .ok (.iload 11, 2) := by decide +kernel
theorem d_Mod_made_408 : decode b_Mod_made 408 = .ok (.invokevirtual 528, 3) := by decide +kernel
theorem d_Mod_made_411 : decode b_Mod_made 411 = .ok (.iastore, 1) := by decide +kernel
theorem d_Mod_made_412 : decode b_Mod_made 412 = .ok (.iconst 0, 1) := by decide +kernel
theorem d_Mod_made_413 : decode b_Mod_made 413 = .ok (.istore 13, 2) := by decide +kernel
theorem d_Mod_made_415 : decode b_Mod_made 415 = .ok (.iload 13, 2) := by decide +kernel
theorem d_Mod_made_417 : decode b_Mod_made 417 = .ok (.iload 5, 2) := by decide +kernel
theorem d_Mod_made_419 : decode b_Mod_made 419 = .ok (.if_icmp .ge 31, 3) := by decide +kernel
theorem d_Mod_made_422 : decode b_Mod_made 422 = .ok (.aload_n 0, 1) := by decide +kernel
theorem d_Mod_made_423 : decode b_Mod_made 423 = .ok (.getfield 110, 3) := by decide +kernel
theorem d_Mod_made_426 : decode b_Mod_made 426 = .ok (.iload_n 1, 1) := by decide +kernel
theorem d_Mod_made_427 : decode b_Mod_made 427 = .ok (.iconst 1, 1) := by decide +kernel
theorem d_Mod_made_428 : decode b_Mod_made 428 = .ok (.iadd, 1) := by decide +kernel
theorem d_Mod_made_429 : decode b_Mod_made 429 = .ok (.iload 13, 2) := by decide +kernel
theorem d_Mod_made_431 : decode b_Mod_made 431 = .ok (.iadd, 1) := by decide +kernel
theorem d_Mod_made_432 : decode b_Mod_made 432 = .ok (.aload_n 0, 1) := by decide +kernel
theorem d_Mod_made_433 : decode b_Mod_made 433 = .ok (.aload_n 0, 1) := by decide +kernel
theorem d_Mod_made_434 : decode b_Mod_made 434 = .ok (.getfield 214, 3) := by decide +kernel
theorem d_Mod_made_437 : decode b_Mod_made 437 = .ok (.iload 13, 2) := by decide +kernel
theorem d_Mod_made_439 : decode b_Mod_made 439 = .ok (.iaload, 1) := by decide +kernel
theorem d_Mod_made_440 : decode b_Mod_made 440 = .ok (.invokevirtual 528, 3) := by decide +kernel
theorem d_Mod_made_443 : decode b_Mod_made 443 = .ok (.iastore, 1) := by decide +kernel
theorem d_Mod_made_444 : decode b_Mod_made 444 = .ok (.iinc 13 1, 3) := by decide +kernel
theorem d_Mod_made_447 : decode b_Mod_made 447 = .ok (.goto (-32), 3) := by decide +kernel
theorem d_Mod_made_450 : decode b_Mod_made 450 = .ok (.aload_n 0, 1) := by decide +kernel
theorem d_Mod_made_451 : decode b_Mod_made 451 = .ok (.getfield 74, 3) := by decide +kernel
theorem d_Mod_made_454 : decode b_Mod_made 454 = .ok (.istore 13, 2) := by decide +kernel
theorem d_Mod_made_456 : decode b_Mod_made 456 = .ok (.iconst 0, 1) := by decide +kernel
theorem d_Mod_made_457 : decode b_Mod_made 457 = .ok (.istore 14, 2) := by decide +kernel
theorem d_Mod_made_459 : decode b_Mod_made 459 = .ok (.iload 14, 2) := by decide +kernel
theorem d_Mod_made_461 : decode b_Mod_made 461 = .ok (.iload 5, 2) := by decide +kernel
theorem d_Mod_made_463 : decode b_Mod_made 463 = .ok (.if_icmp .ge 63, 3) := by decide +kernel
theorem d_Mod_made_466 : decode b_Mod_made 466 = .ok (.aload_n 0, 1) := by decide +kernel
theorem d_Mod_made_467 : decode b_Mod_made 467 = .ok (.aload_n 0, 1) := by decide +kernel
theorem d_Mod_made_468 : decode b_Mod_made 468 = .ok (.iload_n 1, 1) := by decide +kernel
theorem d_Mod_made_469 : decode b_Mod_made 469 = .ok (.iload 14, 2) := by decide +kernel
theorem d_Mod_made_471 : decode b_Mod_made 471 = .ok (.iload_n 3, 1) := by decide +kernel
theorem d_Mod_made_472 : decode b_Mod_made 472 = .ok (.iload 4, 2) := by decide +kernel
theorem d_Mod_made_474 : decode b_Mod_made 474 = .ok (.iload 9, 2) := by decide +kernel
theorem d_Mod_made_476 : decode b_Mod_made 476 = .ok (.iload 5, 2) := by decide +kernel
theorem d_Mod_made_478 : decode b_Mod_made 478 = .ok (.invokevirtual 567, 3) := by decide +kernel
theorem d_Mod_made_481 : decode b_Mod_made 481 = .ok (.invokevirtual 402, 3) := by decide +kernel
theorem d_Mod_made_484 : decode b_Mod_made 484 = .ok (.istore 15, 2) := by decide +kernel
theorem d_Mod_made_486 : decode b_Mod_made 486 = .ok (.aload_n 0, 1) := by decide +kernel
theorem d_Mod_made_487 : decode b_Mod_made 487 = .ok (.aload_n 0, 1) := by decide +kernel
theorem d_Mod_made_488 : decode b_Mod_made 488 = .ok (.getfield 68, 3) := by decide +kernel
theorem d_Mod_made_491 : decode b_Mod_made 491 = .ok (.iload 15, 2) := by decide +kernel
theorem d_Mod_made_493 : decode b_Mod_made 493 = .ok (.iaload, 1) := by decide +kernel
theorem d_Mod_made_494 : decode b_Mod_made 494 = .ok (.invokevirtual 525, 3) := by decide +kernel
theorem d_Mod_made_497 : decode b_Mod_made 497 = .ok (.aload_n 0, 1) := by decide +kernel
theorem d_Mod_made_498 : decode b_Mod_made 498 = .ok (.getfield 137, 3) := by decide +kernel
theorem d_Mod_made_501 : decode b_Mod_made 501 = .ok (.iload_n 1, 1) := by decide +kernel
theorem d_Mod_made_502 : decode b_Mod_made 502 = .ok (.iconst 1, 1) := by decide +kernel
theorem d_Mod_made_503 : decode b_Mod_made 503 = .ok (.iadd, 1) := by decide +kernel
theorem d_Mod_made_504 : decode b_Mod_made 504 = .ok (.iload 14, 2) := by decide +kernel
theorem d_Mod_made_506 : decode b_Mod_made 506 = .ok (.iadd, 1) := by decide +kernel
theorem d_Mod_made_507 : decode b_Mod_made 507 = .ok (.aload_n 0, 1) := by decide +kernel
theorem d_Mod_made_508 : decode b_Mod_made 508 = .ok (.iload 15, 2) := by decide +kernel
theorem d_Mod_made_510 : decode b_Mod_made 510 = .ok (.invokevirtual 528, 3) := by decide +kernel
theorem d_Mod_made_513 : decode b_Mod_made 513 = .ok (.iastore, 1) := by decide +kernel
theorem d_Mod_made_514 : decode b_Mod_made 514 = .ok (.aload_n 0, 1) := by decide +kernel
theorem d_Mod_made_515 : decode b_Mod_made 515 = .ok (.iload 13, 2) := by decide +kernel
theorem d_Mod_made_517 : decode b_Mod_made 517 = .ok (.putfield 74, 3) := by decide +kernel
theorem d_Mod_made_520 : decode b_Mod_made 520 = .ok (.iinc 14 1, 3) := by decide +kernel
theorem d_Mod_made_523 : decode b_Mod_made 523 = .ok (.goto (-64), 3) := by decide +kernel
theorem d_Mod_made_526 : decode b_Mod_made 526 = .ok (.return_, 1) := by decide +kernel
theorem d_Mod_inductive_0 : decode b_Mod_inductive 0 = .ok (.aload_n 0, 1) := by decide +kernel
theorem d_Mod_inductive_1 : decode b_Mod_inductive 1 = .ok (.invokevirtual 281, 3) := by decide +kernel
theorem d_Mod_inductive_4 : decode b_Mod_inductive 4 = .ok (.aload_n 0, 1) := by decide +kernel
theorem d_Mod_inductive_5 : decode b_Mod_inductive 5 = .ok (.invokevirtual 516, 3) := by decide +kernel
theorem d_Mod_inductive_8 : decode b_Mod_inductive 8 = .ok (.aload_n 0, 1) := by decide +kernel
theorem d_Mod_inductive_9 : decode b_Mod_inductive 9 = .ok (.getfield 104, 3) := by decide +kernel
theorem d_Mod_inductive_12 : decode b_Mod_inductive 12 = .ok (.istore_n 1, 1) := by decide +kernel
theorem d_Mod_inductive_13 : decode b_Mod_inductive 13 = .ok (.aload_n 0, 1) := by decide +kernel
theorem d_Mod_inductive_14 : decode b_Mod_inductive 14 = .ok (.invokevirtual 273, 3) := by decide +kernel
theorem d_Mod_inductive_17 : decode b_Mod_inductive 17 = .ok (.bipush 40, 2) := by decide +kernel
theorem d_Mod_inductive_19 : decode b_Mod_inductive 19 = .ok (.if_icmp .ne 11, 3) := by decide +kernel
theorem d_Mod_inductive_22 : decode b_Mod_inductive 22 = .ok (.aload_n 0, 1) := by decide +kernel
theorem d_Mod_inductive_23 : decode b_Mod_inductive 23 = .ok (.iconst 0, 1) := by decide +kernel
theorem d_Mod_inductive_24 : decode b_Mod_inductive 24 = .ok (.invokevirtual 409, 3) := by decide +kernel
theorem d_Mod_inductive_27 : decode b_Mod_inductive 27 = .ok (.goto 4, 3) := by decide +kernel
theorem d_Mod_inductive_30 : decode b_Mod_inductive 30 = .ok (.iconst 0, 1) := by decide +kernel
theorem d_Mod_inductive_31 : decode b_Mod_inductive 31 = .ok (.istore_n 2, 1) := by decide +kernel
theorem d_Mod_inductive_32 : decode b_Mod_inductive 32 = .ok (.aload_n 0, 1) := by decide +kernel
theorem d_Mod_inductive_33 : decode b_Mod_inductive 33 = .ok (.bipush 58, 2) := by decide +kernel
theorem d_Mod_inductive_35 : decode b_Mod_inductive 35 = .ok (.invokevirtual 405, 3) := by decide +kernel
theorem d_Mod_inductive_38 : decode b_Mod_inductive 38 = .ok (.aload_n 0, 1) := by decide +kernel
theorem d_Mod_inductive_39 : decode b_Mod_inductive 39 = .ok (.iconst 0, 1) := by decide +kernel
theorem d_Mod_inductive_40 : decode b_Mod_inductive 40 = .ok (.invokevirtual 399, 3) := by decide +kernel
theorem d_Mod_inductive_43 : decode b_Mod_inductive 43 = .ok (.istore_n 3, 1) := by decide +kernel
theorem d_Mod_inductive_44 : decode b_Mod_inductive 44 = .ok (.aload_n 0, 1) := by decide +kernel
theorem d_Mod_inductive_45 : decode b_Mod_inductive 45 = .ok (.sipush 300, 3) := by decide +kernel
theorem d_Mod_inductive_48 : decode b_Mod_inductive 48 = .ok (.invokevirtual 405, 3) := by decide +kernel
theorem d_Mod_inductive_51 : decode b_Mod_inductive 51 = .ok (.aload_n 0, 1) := by decide +kernel
theorem d_Mod_inductive_52 : decode b_Mod_inductive 52 = .ok (.bipush 123, 2) := by decide +kernel
theorem d_Mod_inductive_54 : decode b_Mod_inductive 54 = .ok (.invokevirtual 405, 3) := by decide +kernel
theorem d_Mod_inductive_57 : decode b_Mod_inductive 57 = .ok (.aload_n 0, 1) := by decide +kernel
theorem d_Mod_inductive_58 : decode b_Mod_inductive 58 = .ok (.iload_n 2, 1) := by decide +kernel
theorem d_Mod_inductive_59 : decode b_Mod_inductive 59 = .ok (.iload_n 3, 1) := by decide +kernel
theorem d_Mod_inductive_60 : decode b_Mod_inductive 60 = .ok (.invokevirtual 534, 3) := by decide +kernel
theorem d_Mod_inductive_63 : decode b_Mod_inductive 63 = .ok (.istore 4, 2) := by decide +kernel
theorem d_Mod_inductive_65 : decode b_Mod_inductive 65 = .ok (.aload_n 0, 1) := by decide +kernel
theorem d_Mod_inductive_66 : decode b_Mod_inductive 66 = .ok (.getfield 107, 3) := by decide +kernel
theorem d_Mod_inductive_69 : decode b_Mod_inductive 69 = .ok (.iload_n 1, 1) := by decide +kernel
theorem d_Mod_inductive_70 : decode b_Mod_inductive 70 = .ok (.iconst (-1), 1) := by decide +kernel
theorem d_Mod_inductive_71 : decode b_Mod_inductive 71 = .ok (.iastore, 1) := by decide +kernel
theorem d_Mod_inductive_72 : decode b_Mod_inductive 72 = .ok (.aload_n 0, 1) := by decide +kernel
theorem d_Mod_inductive_73 : decode b_Mod_inductive 73 = .ok (.dup, 1) := by decide +kernel
theorem d_Mod_inductive_74 : decode b_Mod_inductive 74 = .ok (.getfield 104, 3) := by decide +kernel
theorem d_Mod_inductive_77 : decode b_Mod_inductive 77 = .ok (.iconst 1, 1) := by decide +kernel
theorem d_Mod_inductive_78 : decode b_Mod_inductive 78 = .ok (.iadd, 1) := by decide +kernel
theorem d_Mod_inductive_79 : decode b_Mod_inductive 79 = .ok (.putfield 104, 3) := by decide +kernel
theorem d_Mod_inductive_82 : decode b_Mod_inductive 82 = .ok (.aload_n 0, 1) := by decide +kernel
theorem d_Mod_inductive_83 : decode b_Mod_inductive 83 = .ok (.aload_n 0, 1) := by decide +kernel
theorem d_Mod_inductive_84 : decode b_Mod_inductive 84 = .ok (.getfield 104, 3) := by decide +kernel
theorem d_Mod_inductive_87 : decode b_Mod_inductive 87 = .ok (.putfield 205, 3) := by decide +kernel
theorem d_Mod_inductive_90 : decode b_Mod_inductive 90 = .ok (.iconst 0, 1) := by decide +kernel
theorem d_Mod_inductive_91 : decode b_Mod_inductive 91 = .ok (.istore 5, 2) := by decide +kernel
theorem d_Mod_inductive_93 : decode b_Mod_inductive 93 = .ok (.aload_n 0, 1) := by decide +kernel
theorem d_Mod_inductive_94 : decode b_Mod_inductive 94 = .ok (.invokevirtual 273, 3) := by decide +kernel
theorem d_Mod_inductive_97 : decode b_Mod_inductive 97 = .ok (.bipush 124, 2) := by decide +kernel
theorem d_Mod_inductive_99 : decode b_Mod_inductive 99 = .ok (.if_icmp .ne 45, 3) := by decide +kernel
theorem d_Mod_inductive_102 : decode b_Mod_inductive 102 = .ok (.aload_n 0, 1) := by decide +kernel
theorem d_Mod_inductive_103 : decode b_Mod_inductive 103 = .ok (.invokevirtual 281, 3) := by decide +kernel
theorem d_Mod_inductive_106 : decode b_Mod_inductive 106 = .ok (.aload_n 0, 1) := by decide +kernel
theorem d_Mod_inductive_107 : decode b_Mod_inductive 107 = .ok (.invokevirtual 516, 3) := by decide +kernel
theorem d_Mod_inductive_110 : decode b_Mod_inductive 110 = .ok (.aload_n 0, 1) := by decide +kernel
theorem d_Mod_inductive_111 : decode b_Mod_inductive 111 = .ok (.dup, 1) := by decide +kernel
theorem d_Mod_inductive_112 : decode b_Mod_inductive 112 = .ok (.getfield 104, 3) := by decide +kernel
theorem d_Mod_inductive_115 : decode b_Mod_inductive 115 = .ok (.iconst 1, 1) := by decide +kernel
theorem d_Mod_inductive_116 : decode b_Mod_inductive 116 = .ok (.iadd, 1) := by decide +kernel
theorem d_Mod_inductive_117 : decode b_Mod_inductive 117 = .ok (.putfield 104, 3) := by decide +kernel
theorem d_Mod_inductive_120 : decode b_Mod_inductive 120 = .ok (.aload_n 0, 1) := by decide +kernel
theorem d_Mod_inductive_121 : decode b_Mod_inductive 121 = .ok (.bipush 58, 2) := by decide +kernel
theorem d_Mod_inductive_123 : decode b_Mod_inductive 123 = .ok (.invokevirtual 405, 3) := by decide +kernel
theorem d_Mod_inductive_126 : decode b_Mod_inductive 126 = .ok (.aload_n 0, 1) := by decide +kernel
theorem d_Mod_inductive_127 : decode b_Mod_inductive 127 = .ok (.getfield 211, 3) := by decide +kernel
theorem d_Mod_inductive_130 : decode b_Mod_inductive 130 = .ok (.iload 5, 2) := by decide +kernel
theorem d_Mod_inductive_132 : decode b_Mod_inductive 132 = .ok (.iinc 5 1, 3) := by decide +kernel
