theorem d_Mod_applied_0 : decode b_Mod_applied 0 = .ok (.aload_n 0, 1) := by decide +kernel
theorem d_Mod_applied_1 : decode b_Mod_applied 1 = .ok (.iload_n 1, 1) := by decide +kernel
theorem d_Mod_applied_2 : decode b_Mod_applied 2 = .ok (.invokevirtual 416, 3) := by decide +kernel
theorem d_Mod_applied_5 : decode b_Mod_applied 5 = .ok (.istore_n 2, 1) := by decide +kernel
theorem d_Mod_applied_6 : decode b_Mod_applied 6 = .ok (.aload_n 0, 1) := by decide +kernel
theorem d_Mod_applied_7 : decode b_Mod_applied 7 = .ok (.invokevirtual 419, 3) := by decide +kernel
theorem d_Mod_applied_10 : decode b_Mod_applied 10 = .ok (.ifCond .eq 21, 3) := by decide +kernel
theorem d_Mod_applied_13 : decode b_Mod_applied 13 = .ok (.aload_n 0, 1) := by decide +kernel
theorem d_Mod_applied_14 : decode b_Mod_applied 14 = .ok (.aload_n 0, 1) := by decide +kernel
theorem d_Mod_applied_15 : decode b_Mod_applied 15 = .ok (.iload_n 2, 1) := by decide +kernel
theorem d_Mod_applied_16 : decode b_Mod_applied 16 = .ok (.aload_n 0, 1) := by decide +kernel
theorem d_Mod_applied_17 : decode b_Mod_applied 17 = .ok (.iload_n 1, 1) := by decide +kernel
theorem d_Mod_applied_18 : decode b_Mod_applied 18 = .ok (.invokevirtual 416, 3) := by decide +kernel
theorem d_Mod_applied_21 : decode b_Mod_applied 21 = .ok (.invokevirtual 350, 3) := by decide +kernel
theorem d_Mod_applied_24 : decode b_Mod_applied 24 = .ok (.invokevirtual 402, 3) := by decide +kernel
theorem d_Mod_applied_27 : decode b_Mod_applied 27 = .ok (.istore_n 2, 1) := by decide +kernel
theorem d_Mod_applied_28 : decode b_Mod_applied 28 = .ok (.goto (-22), 3) := by decide +kernel
theorem d_Mod_applied_31 : decode b_Mod_applied 31 = .ok (.iload_n 2, 1) := by decide +kernel
theorem d_Mod_applied_32 : decode b_Mod_applied 32 = .ok (.ireturn, 1) := by decide +kernel
theorem d_Mod_atom_0 : decode b_Mod_atom 0 = .ok (.aload_n 0, 1) := by decide +kernel
theorem d_Mod_atom_1 : decode b_Mod_atom 1 = .ok (.invokevirtual 273, 3) := by decide +kernel
theorem d_Mod_atom_4 : decode b_Mod_atom 4 = .ok (.bipush 40, 2) := by decide +kernel
theorem d_Mod_atom_6 : decode b_Mod_atom 6 = .ok (.if_icmp .ne 25, 3) := by decide +kernel
theorem d_Mod_atom_9 : decode b_Mod_atom 9 = .ok (.aload_n 0, 1) := by decide +kernel
theorem d_Mod_atom_10 : decode b_Mod_atom 10 = .ok (.invokevirtual 281, 3) := by decide +kernel
theorem d_Mod_atom_13 : decode b_Mod_atom 13 = .ok (.aload_n 0, 1) := by decide +kernel
theorem d_Mod_atom_14 : decode b_Mod_atom 14 = .ok (.aload_n 0, 1) := by decide +kernel
theorem d_Mod_atom_15 : decode b_Mod_atom 15 = .ok (.iload_n 1, 1) := by decide +kernel
theorem d_Mod_atom_16 : decode b_Mod_atom 16 = .ok (.invokevirtual 396, 3) := by decide +kernel
theorem d_Mod_atom_19 : decode b_Mod_atom 19 = .ok (.invokevirtual 399, 3) := by decide +kernel
theorem d_Mod_atom_22 : decode b_Mod_atom 22 = .ok (.istore_n 2, 1) := by decide +kernel
theorem d_Mod_atom_23 : decode b_Mod_atom 23 = .ok (.aload_n 0, 1) := by decide +kernel
theorem d_Mod_atom_24 : decode b_Mod_atom 24 = .ok (.bipush 41, 2) := by decide +kernel
theorem d_Mod_atom_26 : decode b_Mod_atom 26 = .ok (.invokevirtual 405, 3) := by decide +kernel
theorem d_Mod_atom_29 : decode b_Mod_atom 29 = .ok (.iload_n 2, 1) := by decide +kernel
theorem d_Mod_atom_30 : decode b_Mod_atom 30 = .ok (.ireturn, 1) := by decide +kernel
theorem d_Mod_atom_31 : decode b_Mod_atom 31 = .ok (.aload_n 0, 1) := by decide +kernel
theorem d_Mod_atom_32 : decode b_Mod_atom 32 = .ok (.ldc_w 319, 3) := by decide +kernel
theorem d_Mod_atom_35 : decode b_Mod_atom 35 = .ok (.invokevirtual 293, 3) := by decide +kernel
theorem d_Mod_atom_38 : decode b_Mod_atom 38 = .ok (.ifCond .ne 13, 3) := by decide +kernel
theorem d_Mod_atom_41 : decode b_Mod_atom 41 = .ok (.aload_n 0, 1) := by decide +kernel
theorem d_Mod_atom_42 : decode b_Mod_atom 42 = .ok (.ldc_w 321, 3) := by decide +kernel
theorem d_Mod_atom_45 : decode b_Mod_atom 45 = .ok (.invokevirtual 293, 3) := by decide +kernel
theorem d_Mod_atom_48 : decode b_Mod_atom 48 = .ok (.ifCond .eq 12, 3) := by decide +kernel
theorem d_Mod_atom_51 : decode b_Mod_atom 51 = .ok (.aload_n 0, 1) := by decide +kernel
theorem d_Mod_atom_52 : decode b_Mod_atom 52 = .ok (.aload_n 0, 1) := by decide +kernel
theorem d_Mod_atom_53 : decode b_Mod_atom 53 = .ok (.invokevirtual 422, 3) := by decide +kernel
theorem d_Mod_atom_56 : decode b_Mod_atom 56 = .ok (.invokevirtual 356, 3) := by decide +kernel
theorem d_Mod_atom_59 : decode b_Mod_atom 59 = .ok (.ireturn, 1) := by decide +kernel
theorem d_Mod_atom_60 : decode b_Mod_atom 60 = .ok (.aload_n 0, 1) := by decide +kernel
theorem d_Mod_atom_61 : decode b_Mod_atom 61 = .ok (.ldc_w 317, 3) := by decide +kernel
theorem d_Mod_atom_64 : decode b_Mod_atom 64 = .ok (.invokevirtual 293, 3) := by decide +kernel
theorem d_Mod_atom_67 : decode b_Mod_atom 67 = .ok (.ifCond .eq 75, 3) := by decide +kernel
theorem d_Mod_atom_70 : decode b_Mod_atom 70 = .ok (.aload_n 0, 1) := by decide +kernel
theorem d_Mod_atom_71 : decode b_Mod_atom 71 = .ok (.invokevirtual 281, 3) := by decide +kernel
theorem d_Mod_atom_74 : decode b_Mod_atom 74 = .ok (.aload_n 0, 1) := by decide +kernel
theorem d_Mod_atom_75 : decode b_Mod_atom 75 = .ok (.invokevirtual 273, 3) := by decide +kernel
theorem d_Mod_atom_78 : decode b_Mod_atom 78 = .ok (.iconst 1, 1) := by decide +kernel
theorem d_Mod_atom_79 : decode b_Mod_atom 79 = .ok (.if_icmp .ne 10, 3) := by decide +kernel
theorem d_Mod_atom_82 : decode b_Mod_atom 82 = .ok (.aload_n 0, 1) := by decide +kernel
theorem d_Mod_atom_83 : decode b_Mod_atom 83 = .ok (.invokevirtual 380, 3) := by decide +kernel
theorem d_Mod_atom_86 : decode b_Mod_atom 86 = .ok (.ifCond .eq 8, 3) := by decide +kernel
theorem d_Mod_atom_89 : decode b_Mod_atom 89 = .ok (.aload_n 0, 1) := by decide +kernel
theorem d_Mod_atom_90 : decode b_Mod_atom 90 = .ok (.invokevirtual 277, 3) := by decide +kernel
theorem d_Mod_atom_93 : decode b_Mod_atom 93 = .ok (.athrow, 1) := by decide +kernel
theorem d_Mod_atom_94 : decode b_Mod_atom 94 = .ok (.aload_n 0, 1) := by decide +kernel
theorem d_Mod_atom_95 : decode b_Mod_atom 95 = .ok (.invokevirtual 425, 3) := by decide +kernel
theorem d_Mod_atom_98 : decode b_Mod_atom 98 = .ok (.istore_n 2, 1) := by decide +kernel
theorem d_Mod_atom_99 : decode b_Mod_atom 99 = .ok (.iload_n 2, 1) := by decide +kernel
theorem d_Mod_atom_100 : decode b_Mod_atom 100 = .ok (.ifCond .lt 13, 3) := by decide +kernel
theorem d_Mod_atom_103 : decode b_Mod_atom 103 = .ok (.aload_n 0, 1) := by decide +kernel
theorem d_Mod_atom_104 : decode b_Mod_atom 104 = .ok (.getfield 107, 3) := by decide +kernel
theorem d_Mod_atom_107 : decode b_Mod_atom 107 = .ok (.iload_n 2, 1) := by decide +kernel
theorem d_Mod_atom_108 : decode b_Mod_atom 108 = .ok (.iaload, 1) := by decide +kernel
theorem d_Mod_atom_109 : decode b_Mod_atom 109 = .ok (.iconst 3, 1) := by decide +kernel
theorem d_Mod_atom_110 : decode b_Mod_atom 110 = .ok (.if_icmp .eq 16, 3) := by decide +kernel
theorem d_Mod_atom_113 : decode b_Mod_atom 113 = .ok (.new 1, 3) := by decide +kernel
theorem d_Mod_atom_116 : decode b_Mod_atom 116 = .ok (.dup, 1) := by decide +kernel
theorem d_Mod_atom_117 : decode b_Mod_atom 117 = .ok (.iconst 2, 1) := by decide +kernel
theorem d_Mod_atom_118 : decode b_Mod_atom 118 = .ok (.aload_n 0, 1) := by decide +kernel
theorem d_Mod_atom_119 : decode b_Mod_atom 119 = .ok (.getfield 44, 3) := by decide +kernel
theorem d_Mod_atom_122 : decode b_Mod_atom 122 = .ok (.invokespecial 3, 3) := by decide +kernel
theorem d_Mod_atom_125 : decode b_Mod_atom 125 = .ok (.athrow, 1) := by decide +kernel
theorem d_Mod_atom_126 : decode b_Mod_atom 126 = .ok (.aload_n 0, 1) := by decide +kernel
theorem d_Mod_atom_127 : decode b_Mod_atom 127 = .ok (.invokevirtual 281, 3) := by decide +kernel
theorem d_Mod_atom_130 : decode b_Mod_atom 130 = .ok (.aload_n 0, 1) := by decide +kernel
theorem d_Mod_atom_131 : decode b_Mod_atom 131 = .ok (.iconst 2, 1) := by decide +kernel
theorem d_Mod_atom_132 : decode b_Mod_atom 132 = .ok (.iload_n 2, 1) := by decide +kernel
theorem d_Mod_atom_133 : decode b_Mod_atom 133 = .ok (.aload_n 0, 1) := by decide +kernel
theorem d_Mod_atom_134 : decode b_Mod_atom 134 = .ok (.invokevirtual 422, 3) := by decide +kernel
theorem d_Mod_atom_137 : decode b_Mod_atom 137 = .ok (.iconst 0, 1) := by decide +kernel
theorem d_Mod_atom_138 : decode b_Mod_atom 138 = .ok (.invokevirtual 336, 3) := by decide +kernel
theorem d_Mod_atom_141 : decode b_Mod_atom 141 = .ok (.ireturn, 1) := by decide +kernel
theorem d_Mod_atom_142 : decode b_Mod_atom 142 = .ok (.aload_n 0, 1) := by decide +kernel
theorem d_Mod_atom_143 : decode b_Mod_atom 143 = .ok (.invokevirtual 273, 3) := by decide +kernel
theorem d_Mod_atom_146 : decode b_Mod_atom 146 = .ok (.iconst 1, 1) := by decide +kernel
theorem d_Mod_atom_147 : decode b_Mod_atom 147 = .ok (.if_icmp .ne 10, 3) := by decide +kernel
theorem d_Mod_atom_150 : decode b_Mod_atom 150 = .ok (.aload_n 0, 1) := by decide +kernel
theorem d_Mod_atom_151 : decode b_Mod_atom 151 = .ok (.invokevirtual 380, 3) := by decide +kernel
theorem d_Mod_atom_154 : decode b_Mod_atom 154 = .ok (.ifCond .eq 8, 3) := by decide +kernel
theorem d_Mod_atom_157 : decode b_Mod_atom 157 = .ok (.aload_n 0, 1) := by decide +kernel
theorem d_Mod_atom_158 : decode b_Mod_atom 158 = .ok (.invokevirtual 277, 3) := by decide +kernel
theorem d_Mod_atom_161 : decode b_Mod_atom 161 = .ok (.athrow, 1) := by decide +kernel
theorem d_Mod_atom_162 : decode b_Mod_atom 162 = .ok (.aload_n 0, 1) := by decide +kernel
theorem d_Mod_atom_163 : decode b_Mod_atom 163 = .ok (.getfield 159, 3) := by decide +kernel
theorem d_Mod_atom_166 : decode b_Mod_atom 166 = .ok (.iconst 1, 1) := by decide +kernel
theorem d_Mod_atom_167 : decode b_Mod_atom 167 = .ok (.isub, 1) := by decide +kernel
theorem d_Mod_atom_168 : decode b_Mod_atom 168 = .ok (.istore_n 2, 1) := by decide +kernel
theorem d_Mod_atom_169 : decode b_Mod_atom 169 = .ok (.iload_n 2, 1) := by decide +kernel
theorem d_Mod_atom_170 : decode b_Mod_atom 170 = .ok (.ifCond .lt 48, 3) := by decide +kernel
theorem d_Mod_atom_173 : decode b_Mod_atom 173 = .ok (.aload_n 0, 1) := by decide +kernel
theorem d_Mod_atom_174 : decode b_Mod_atom 174 = .ok (.aload_n 0, 1) := by decide +kernel
theorem d_Mod_atom_175 : decode b_Mod_atom 175 = .ok (.getfield 153, 3) := by decide +kernel
theorem d_Mod_atom_178 : decode b_Mod_atom 178 = .ok (.iload_n 2, 1) := by decide +kernel
theorem d_Mod_atom_179 : decode b_Mod_atom 179 = .ok (.iaload, 1) := by decide +kernel
theorem d_Mod_atom_180 : decode b_Mod_atom 180 = .ok (.aload_n 0, 1) := by decide +kernel
theorem d_Mod_atom_181 : decode b_Mod_atom 181 = .ok (.getfield 156, 3) := by decide +kernel
theorem d_Mod_atom_184 : decode b_Mod_atom 184 = .ok (.iload_n 2, 1) := by decide +kernel
theorem d_Mod_atom_185 : decode b_Mod_atom 185 = .ok (.iaload, 1) := by decide +kernel
theorem d_Mod_atom_186 : decode b_Mod_atom 186 = .ok (.aload_n 0, 1) := by decide +kernel
theorem d_Mod_atom_187 : decode b_Mod_atom 187 = .ok (.getfield 13, 3) := by decide +kernel
theorem d_Mod_atom_190 : decode b_Mod_atom 190 = .ok (.invokevirtual 376, 3) := by decide +kernel
theorem d_Mod_atom_193 : decode b_Mod_atom 193 = .ok (.ifCond .ne 6, 3) := by decide +kernel
theorem d_Mod_atom_196 : decode b_Mod_atom 196 = .ok (.goto 16, 3) := by decide +kernel
theorem d_Mod_atom_199 : decode b_Mod_atom 199 = .ok (.aload_n 0, 1) := by decide +kernel
theorem d_Mod_atom_200 : decode b_Mod_atom 200 = .ok (.invokevirtual 281, 3) := by decide +kernel
theorem d_Mod_atom_203 : decode b_Mod_atom 203 = .ok (.aload_n 0, 1) := by decide +kernel
theorem d_Mod_atom_204 : decode b_Mod_atom 204 = .ok (.iconst 5, 1) := by decide +kernel
theorem d_Mod_atom_205 : decode b_Mod_atom 205 = .ok (.iload_n 2, 1) := by decide +kernel
theorem d_Mod_atom_206 : decode b_Mod_atom 206 = .ok (.iconst 0, 1) := by decide +kernel
theorem d_Mod_atom_207 : decode b_Mod_atom 207 = .ok (.iconst 0, 1) := by decide +kernel
theorem d_Mod_atom_208 : decode b_Mod_atom 208 = .ok (.invokevirtual 336, 3) := by decide +kernel
theorem d_Mod_atom_211 : decode b_Mod_atom 211 = .ok (.ireturn, 1) := by decide +kernel
theorem d_Mod_atom_212 : decode b_Mod_atom 212 = .ok (.iinc 2 (-1), 3) := by decide +kernel
theorem d_Mod_atom_215 : decode b_Mod_atom 215 = .ok (.goto (-46), 3) := by decide +kernel
theorem d_Mod_atom_218 : decode b_Mod_atom 218 = .ok (.aload_n 0, 1) := by decide +kernel
theorem d_Mod_atom_219 : decode b_Mod_atom 219 = .ok (.invokevirtual 425, 3) := by decide +kernel
theorem d_Mod_atom_222 : decode b_Mod_atom 222 = .ok (.istore_n 2, 1) := by decide +kernel
theorem d_Mod_atom_223 : decode b_Mod_atom 223 = .ok (.iload_n 2, 1) := by decide +kernel
theorem d_Mod_atom_224 : decode b_Mod_atom 224 = .ok (.ifCond .ge 16, 3) := by decide +kernel
theorem d_Mod_atom_227 : decode b_Mod_atom 227 = .ok (.new 1, 3) := by decide +kernel
theorem d_Mod_atom_230 : decode b_Mod_atom 230 = .ok (.dup, 1) := by decide +kernel
theorem d_Mod_atom_231 : decode b_Mod_atom 231 = .ok (.iconst 2, 1) := by decide +kernel
theorem d_Mod_atom_232 : decode b_Mod_atom 232 = .ok (.aload_n 0, 1) := by decide +kernel
theorem d_Mod_atom_233 : decode b_Mod_atom 233 = .ok (.getfield 44, 3) := by decide +kernel
theorem d_Mod_atom_236 : decode b_Mod_atom 236 = .ok (.invokespecial 3, 3) := by decide +kernel
theorem d_Mod_atom_239 : decode b_Mod_atom 239 = .ok (.athrow, 1) := by decide +kernel
theorem d_Mod_atom_240 : decode b_Mod_atom 240 = .ok (.aload_n 0, 1) := by decide +kernel
theorem d_Mod_atom_241 : decode b_Mod_atom 241 = .ok (.invokevirtual 281, 3) := by decide +kernel
theorem d_Mod_atom_244 : decode b_Mod_atom 244 = .ok (.aload_n 0, 1) := by decide +kernel
theorem d_Mod_atom_245 : decode b_Mod_atom 245 = .ok (.iconst 1, 1) := by decide +kernel
theorem d_Mod_atom_246 : decode b_Mod_atom 246 = .ok (.iload_n 2, 1) := by decide +kernel
theorem d_Mod_atom_247 : decode b_Mod_atom 247 = .ok (.iconst 0, 1) := by decide +kernel
theorem d_Mod_atom_248 : decode b_Mod_atom 248 = .ok (.iconst 0, 1) := by decide +kernel
theorem d_Mod_atom_249 : decode b_Mod_atom 249 = .ok (.invokevirtual 336, 3) := by decide +kernel
theorem d_Mod_atom_252 : decode b_Mod_atom 252 = .ok (.ireturn, 1) := by decide +kernel
theorem d_Mod_binders_0 : decode b_Mod_binders 0 = .ok (.iconst 0, 1) := by decide +kernel
theorem d_Mod_binders_1 : decode b_Mod_binders 1 = .ok (.istore_n 2, 1) := by decide +kernel
theorem d_Mod_binders_2 : decode b_Mod_binders 2 = .ok (.aload_n 0, 1) := by decide +kernel
theorem d_Mod_binders_3 : decode b_Mod_binders 3 = .ok (.bipush 40, 2) := by decide +kernel
theorem d_Mod_binders_5 : decode b_Mod_binders 5 = .ok (.invokevirtual 405, 3) := by decide +kernel
theorem d_Mod_binders_8 : decode b_Mod_binders 8 = .ok (.aload_n 0, 1) := by decide +kernel
theorem d_Mod_binders_9 : decode b_Mod_binders 9 = .ok (.getfield 159, 3) := by decide +kernel
theorem d_Mod_binders_12 : decode b_Mod_binders 12 = .ok (.istore_n 3, 1) := by decide +kernel
theorem d_Mod_binders_13 : decode b_Mod_binders 13 = .ok (.aload_n 0, 1) := by decide +kernel
theorem d_Mod_binders_14 : decode b_Mod_binders 14 = .ok (.getfield 159, 3) := by decide +kernel
theorem d_Mod_binders_17 : decode b_Mod_binders 17 = .ok (.istore 4, 2) := by decide +kernel
theorem d_Mod_binders_19 : decode b_Mod_binders 19 = .ok (.aload_n 0, 1) := by decide +kernel
theorem d_Mod_binders_20 : decode b_Mod_binders 20 = .ok (.invokevirtual 273, 3) := by decide +kernel
theorem d_Mod_binders_23 : decode b_Mod_binders 23 = .ok (.iconst 1, 1) := by decide +kernel
theorem d_Mod_binders_24 : decode b_Mod_binders 24 = .ok (.if_icmp .ne 10, 3) := by decide +kernel
theorem d_Mod_binders_27 : decode b_Mod_binders 27 = .ok (.aload_n 0, 1) := by decide +kernel
theorem d_Mod_binders_28 : decode b_Mod_binders 28 = .ok (.invokevirtual 380, 3) := by decide +kernel
theorem d_Mod_binders_31 : decode b_Mod_binders 31 = .ok (.ifCond .eq 8, 3) := by decide +kernel
theorem d_Mod_binders_34 : decode b_Mod_binders 34 = .ok (.aload_n 0, 1) := by decide +kernel
theorem d_Mod_binders_35 : decode b_Mod_binders 35 = .ok (.invokevirtual 277, 3) := by decide +kernel
theorem d_Mod_binders_38 : decode b_Mod_binders 38 = .ok (.athrow, 1) := by decide +kernel
theorem d_Mod_binders_39 : decode b_Mod_binders 39 = .ok (.aload_n 0, 1) := by decide +kernel
theorem d_Mod_binders_40 : decode b_Mod_binders 40 = .ok (.invokevirtual 273, 3) := by decide +kernel
theorem d_Mod_binders_43 : decode b_Mod_binders 43 = .ok (.iconst 1, 1) := by decide +kernel
theorem d_Mod_binders_44 : decode b_Mod_binders 44 = .ok (.if_icmp .ne 77, 3) := by decide +kernel
theorem d_Mod_binders_47 : decode b_Mod_binders 47 = .ok (.aload_n 0, 1) := by decide +kernel
theorem d_Mod_binders_48 : decode b_Mod_binders 48 = .ok (.invokevirtual 380, 3) := by decide +kernel
theorem d_Mod_binders_51 : decode b_Mod_binders 51 = .ok (.ifCond .ne 70, 3) := by decide +kernel
theorem d_Mod_binders_54 : decode b_Mod_binders 54 = .ok (.aload_n 0, 1) := by decide +kernel
theorem d_Mod_binders_55 : decode b_Mod_binders 55 = .ok (.getfield 159, 3) := by decide +kernel
theorem d_Mod_binders_58 : decode b_Mod_binders 58 = .ok (.aload_n 0, 1) := by decide +kernel
theorem d_Mod_binders_59 : decode b_Mod_binders 59 = .ok (.getfield 177, 3) := by decide +kernel
theorem d_Mod_binders_62 : decode b_Mod_binders 62 = .ok (.iadd, 1) := by decide +kernel
theorem d_Mod_binders_63 : decode b_Mod_binders 63 = .ok (.iload 4, 2) := by decide +kernel
theorem d_Mod_binders_65 : decode b_Mod_binders 65 = .ok (.iadd, 1) := by decide +kernel
theorem d_Mod_binders_66 : decode b_Mod_binders 66 = .ok (.iload_n 3, 1) := by decide +kernel
theorem d_Mod_binders_67 : decode b_Mod_binders 67 = .ok (.isub, 1) := by decide +kernel
theorem d_Mod_binders_68 : decode b_Mod_binders 68 = .ok (.sipush 3000, 3) := by decide +kernel
theorem d_Mod_binders_71 : decode b_Mod_binders 71 = .ok (.if_icmp .lt 9, 3) := by decide +kernel
theorem d_Mod_binders_74 : decode b_Mod_binders 74 = .ok (.bipush 10, 2) := by decide +kernel
theorem d_Mod_binders_76 : decode b_Mod_binders 76 = .ok (.invokestatic 323, 3) := by decide +kernel
theorem d_Mod_binders_79 : decode b_Mod_binders 79 = .ok (.athrow, 1) := by decide +kernel
theorem d_Mod_binders_80 : decode b_Mod_binders 80 = .ok (.aload_n 0, 1) := by decide +kernel
theorem d_Mod_binders_81 : decode b_Mod_binders 81 = .ok (.getfield 165, 3) := by decide +kernel
theorem d_Mod_binders_84 : decode b_Mod_binders 84 = .ok (.iload 4, 2) := by decide +kernel
theorem d_Mod_binders_86 : decode b_Mod_binders 86 = .ok (.iload_n 3, 1) := by decide +kernel
theorem d_Mod_binders_87 : decode b_Mod_binders 87 = .ok (.isub, 1) := by decide +kernel
theorem d_Mod_binders_88 : decode b_Mod_binders 88 = .ok (.aload_n 0, 1) := by decide +kernel
theorem d_Mod_binders_89 : decode b_Mod_binders 89 = .ok (.getfield 44, 3) := by decide +kernel
theorem d_Mod_binders_92 : decode b_Mod_binders 92 = .ok (.iastore, 1) := by decide +kernel
theorem d_Mod_binders_93 : decode b_Mod_binders 93 = .ok (.aload_n 0, 1) := by decide +kernel
theorem d_Mod_binders_94 : decode b_Mod_binders 94 = .ok (.getfield 168, 3) := by decide +kernel
theorem d_Mod_binders_97 : decode b_Mod_binders 97 = .ok (.iload 4, 2) := by decide +kernel
theorem d_Mod_binders_99 : decode b_Mod_binders 99 = .ok (.iload_n 3, 1) := by decide +kernel
theorem d_Mod_binders_100 : decode b_Mod_binders 100 = .ok (.isub, 1) := by decide +kernel
theorem d_Mod_binders_101 : decode b_Mod_binders 101 = .ok (.aload_n 0, 1) := by decide +kernel
theorem d_Mod_binders_102 : decode b_Mod_binders 102 = .ok (.getfield 47, 3) := by decide +kernel
theorem d_Mod_binders_105 : decode b_Mod_binders 105 = .ok (.aload_n 0, 1) := by decide +kernel
theorem d_Mod_binders_106 : decode b_Mod_binders 106 = .ok (.getfield 44, 3) := by decide +kernel
theorem d_Mod_binders_109 : decode b_Mod_binders 109 = .ok (.isub, 1) := by decide +kernel
theorem d_Mod_binders_110 : decode b_Mod_binders 110 = .ok (.iastore, 1) := by decide +kernel
theorem d_Mod_binders_111 : decode b_Mod_binders 111 = .ok (.iinc 4 1, 3) := by decide +kernel
theorem d_Mod_binders_114 : decode b_Mod_binders 114 = .ok (.aload_n 0, 1) := by decide +kernel
theorem d_Mod_binders_115 : decode b_Mod_binders 115 = .ok (.invokevirtual 281, 3) := by decide +kernel
theorem d_Mod_binders_118 : decode b_Mod_binders 118 = .ok (.goto (-79), 3) := by decide +kernel
theorem d_Mod_binders_121 : decode b_Mod_binders 121 = .ok (.aload_n 0, 1) := by decide +kernel
theorem d_Mod_binders_122 : decode b_Mod_binders 122 = .ok (.bipush 58, 2) := by decide +kernel
theorem d_Mod_binders_124 : decode b_Mod_binders 124 = .ok (.invokevirtual 405, 3) := by decide +kernel
theorem d_Mod_binders_127 : decode b_Mod_binders 127 = .ok (.iload 4, 2) := by decide +kernel
theorem d_Mod_binders_129 : decode b_Mod_binders 129 = .ok (.iload_n 3, 1) := by decide +kernel
theorem d_Mod_binders_130 : decode b_Mod_binders 130 = .ok (.isub, 1) := by decide +kernel
theorem d_Mod_binders_131 : decode b_Mod_binders 131 = .ok (.istore 5, 2) := by decide +kernel
theorem d_Mod_binders_133 : decode b_Mod_binders 133 = .ok (.aload_n 0, 1) := by decide +kernel
theorem d_Mod_binders_134 : decode b_Mod_binders 134 = .ok (.getfield 177, 3) := by decide +kernel
theorem d_Mod_binders_137 : decode b_Mod_binders 137 = .ok (.istore 6, 2) := by decide +kernel
theorem d_Mod_binders_139 : decode b_Mod_binders 139 = .ok (.iconst 0, 1) := by decide +kernel
theorem d_Mod_binders_140 : decode b_Mod_binders 140 = .ok (.istore 7, 2) := by decide +kernel
theorem d_Mod_binders_142 : decode b_Mod_binders 142 = .ok (.iload 7, 2) := by decide +kernel
theorem d_Mod_binders_144 : decode b_Mod_binders 144 = .ok (.iload 5, 2) := by decide +kernel
theorem d_Mod_binders_146 : decode b_Mod_binders 146 = .ok (.if_icmp .ge 43, 3) := by decide +kernel
theorem d_Mod_binders_149 : decode b_Mod_binders 149 = .ok (.aload_n 0, 1) := by decide +kernel
theorem d_Mod_binders_150 : decode b_Mod_binders 150 = .ok (.getfield 171, 3) := by decide +kernel
theorem d_Mod_binders_153 : decode b_Mod_binders 153 = .ok (.iload 6, 2) := by decide +kernel
theorem d_Mod_binders_155 : decode b_Mod_binders 155 = .ok (.iload 7, 2) := by decide +kernel
theorem d_Mod_binders_157 : decode b_Mod_binders 157 = .ok (.iadd, 1) := by decide +kernel
theorem d_Mod_binders_158 : decode b_Mod_binders 158 = .ok (.aload_n 0, 1) := by decide +kernel
theorem d_Mod_binders_159 : decode b_Mod_binders 159 = .ok (.getfield 165, 3) := by decide +kernel
theorem d_Mod_binders_162 : decode b_Mod_binders 162 = .ok (.iload 7, 2) := by decide +kernel
theorem d_Mod_binders_164 : decode b_Mod_binders 164 = .ok (.iaload, 1) := by decide +kernel
theorem d_Mod_binders_165 : decode b_Mod_binders 165 = .ok (.iastore, 1) := by decide +kernel
theorem d_Mod_binders_166 : decode b_Mod_binders 166 = .ok (.aload_n 0, 1) := by decide +kernel
theorem d_Mod_binders_167 : decode b_Mod_binders 167 = .ok (.getfield 174, 3) := by decide +kernel
theorem d_Mod_binders_170 : decode b_Mod_binders 170 = .ok (.iload 6, 2) := by decide +kernel
theorem d_Mod_binders_172 : decode b_Mod_binders 172 = .ok (.iload 7, 2) := by decide +kernel
theorem d_Mod_binders_174 : decode b_Mod_binders 174 = .ok (.iadd, 1) := by decide +kernel
theorem d_Mod_binders_175 : decode b_Mod_binders 175 = .ok (.aload_n 0, 1) := by decide +kernel
theorem d_Mod_binders_176 : decode b_Mod_binders 176 = .ok (.getfield 168, 3) := by decide +kernel
theorem d_Mod_binders_179 : decode b_Mod_binders 179 = .ok (.iload 7, 2) := by decide +kernel
theorem d_Mod_binders_181 : decode b_Mod_binders 181 = .ok (.iaload, 1) := by decide +kernel
theorem d_Mod_binders_182 : decode b_Mod_binders 182 = .ok (.iastore, 1) := by decide +kernel
theorem d_Mod_binders_183 : decode b_Mod_binders 183 = .ok (.iinc 7 1, 3) := by decide +kernel
theorem d_Mod_binders_186 : decode b_Mod_binders 186 = .ok (.goto (-44), 3) := by decide +kernel
theorem d_Mod_binders_189 : decode b_Mod_binders 189 = .ok (.aload_n 0, 1) := by decide +kernel
theorem d_Mod_binders_190 : decode b_Mod_binders 190 = .ok (.iload 6, 2) := by decide +kernel
theorem d_Mod_binders_192 : decode b_Mod_binders 192 = .ok (.iload 5, 2) := by decide +kernel
theorem d_Mod_binders_194 : decode b_Mod_binders 194 = .ok (.iadd, 1) := by decide +kernel
theorem d_Mod_binders_195 : decode b_Mod_binders 195 = .ok (.putfield 177, 3) := by decide +kernel
theorem d_Mod_binders_198 : decode b_Mod_binders 198 = .ok (.aload_n 0, 1) := by decide +kernel
theorem d_Mod_binders_199 : decode b_Mod_binders 199 = .ok (.aload_n 0, 1) := by decide +kernel
theorem d_Mod_binders_200 : decode b_Mod_binders 200 = .ok (.iload_n 1, 1) := by decide +kernel
theorem d_Mod_binders_201 : decode b_Mod_binders 201 = .ok (.invokevirtual 396, 3) := by decide +kernel
theorem d_Mod_binders_204 : decode b_Mod_binders 204 = .ok (.invokevirtual 399, 3) := by decide +kernel
theorem d_Mod_binders_207 : decode b_Mod_binders 207 = .ok (.istore 7, 2) := by decide +kernel
theorem d_Mod_binders_209 : decode b_Mod_binders 209 = .ok (.aload_n 0, 1) := by decide +kernel
theorem d_Mod_binders_210 : decode b_Mod_binders 210 = .ok (.dup, 1) := by decide +kernel
theorem d_Mod_binders_211 : decode b_Mod_binders 211 = .ok (.getfield 180, 3) := by decide +kernel
theorem d_Mod_binders_214 : decode b_Mod_binders 214 = .ok (.aload_n 0, 1) := by decide +kernel
theorem d_Mod_binders_215 : decode b_Mod_binders 215 = .ok (.getfield 68, 3) := by decide +kernel
theorem d_Mod_binders_218 : decode b_Mod_binders 218 = .ok (.iload 7, 2) := by decide +kernel
theorem d_Mod_binders_220 : decode b_Mod_binders 220 = .ok (.iaload, 1) := by decide +kernel
theorem d_Mod_binders_221 : decode b_Mod_binders 221 = .ok (.iload 5, 2) := by decide +kernel
theorem d_Mod_binders_223 : decode b_Mod_binders 223 = .ok (.iconst 1, 1) := by decide +kernel
theorem d_Mod_binders_224 : decode b_Mod_binders 224 = .ok (.isub, 1) := by decide +kernel
theorem d_Mod_binders_225 : decode b_Mod_binders 225 = .ok (.imul, 1) := by decide +kernel
theorem d_Mod_binders_226 : decode b_Mod_binders 226 = .ok (.iadd, 1) := by decide +kernel
theorem d_Mod_binders_227 : decode b_Mod_binders 227 = .ok (.putfield 180, 3) := by decide +kernel
theorem d_Mod_binders_230 : decode b_Mod_binders 230 = .ok (.aload_n 0, 1) := by decide +kernel
theorem d_Mod_binders_231 : decode b_Mod_binders 231 = .ok (.getfield 180, 3) := by decide +kernel
theorem d_Mod_binders_234 : decode b_Mod_binders 234 = .ok (.sipush 6000, 3) := by decide +kernel
theorem d_Mod_binders_237 : decode b_Mod_binders 237 = .ok (.if_icmp .le 9, 3) := by decide +kernel
theorem d_Mod_binders_240 : decode b_Mod_binders 240 = .ok (.bipush 10, 2) := by decide +kernel
theorem d_Mod_binders_242 : decode b_Mod_binders 242 = .ok (.invokestatic 323, 3) := by decide +kernel
theorem d_Mod_binders_245 : decode b_Mod_binders 245 = .ok (.athrow, 1) := by decide +kernel
theorem d_Mod_binders_246 : decode b_Mod_binders 246 = .ok (.aload_n 0, 1) := by decide +kernel
theorem d_Mod_binders_247 : decode b_Mod_binders 247 = .ok (.bipush 41, 2) := by decide +kernel
theorem d_Mod_binders_249 : decode b_Mod_binders 249 = .ok (.invokevirtual 405, 3) := by decide +kernel
theorem d_Mod_binders_252 : decode b_Mod_binders 252 = .ok (.aload_n 0, 1) := by decide +kernel
theorem d_Mod_binders_253 : decode b_Mod_binders 253 = .ok (.iload 6, 2) := by decide +kernel
theorem d_Mod_binders_255 : decode b_Mod_binders 255 = .ok (.putfield 177, 3) := by decide +kernel
theorem d_Mod_binders_258 : decode b_Mod_binders 258 = .ok (.iconst 0, 1) := by decide +kernel
theorem d_Mod_binders_259 : decode b_Mod_binders 259 = .ok (.istore 8, 2) := by decide +kernel
theorem d_Mod_binders_261 : decode b_Mod_binders 261 = .ok (.iload 8, 2) := by decide +kernel
theorem d_Mod_binders_263 : decode b_Mod_binders 263 = .ok (.iload 5, 2) := by decide +kernel
theorem d_Mod_binders_265 : decode b_Mod_binders 265 = .ok (.if_icmp .ge 44, 3) := by decide +kernel
theorem d_Mod_binders_268 : decode b_Mod_binders 268 = .ok (.aload_n 0, 1) := by decide +kernel
theorem d_Mod_binders_269 : decode b_Mod_binders 269 = .ok (.getfield 162, 3) := by decide +kernel
theorem d_Mod_binders_272 : decode b_Mod_binders 272 = .ok (.aload_n 0, 1) := by decide +kernel
theorem d_Mod_binders_273 : decode b_Mod_binders 273 = .ok (.getfield 159, 3) := by decide +kernel
theorem d_Mod_binders_276 : decode b_Mod_binders 276 = .ok (.iload 7, 2) := by decide +kernel
theorem d_Mod_binders_278 : decode b_Mod_binders 278 = .ok (.iastore, 1) := by decide +kernel
theorem d_Mod_binders_279 : decode b_Mod_binders 279 = .ok (.aload_n 0, 1) := by decide +kernel
theorem d_Mod_binders_280 : decode b_Mod_binders 280 = .ok (.aload_n 0, 1) := by decide +kernel
theorem d_Mod_binders_281 : decode b_Mod_binders 281 = .ok (.getfield 171, 3) := by decide +kernel
theorem d_Mod_binders_284 : decode b_Mod_binders 284 = .ok (.iload 6, 2) := by decide +kernel
theorem d_Mod_binders_286 : decode b_Mod_binders 286 = .ok (.iload 8, 2) := by decide +kernel
theorem d_Mod_binders_288 : decode b_Mod_binders 288 = .ok (.iadd, 1) := by decide +kernel
theorem d_Mod_binders_289 : decode b_Mod_binders 289 = .ok (.iaload, 1) := by decide +kernel
theorem d_Mod_binders_290 : decode b_Mod_binders 290 = .ok (.aload_n 0, 1) := by decide +kernel
theorem d_Mod_binders_291 : decode b_Mod_binders 291 = .ok (.getfield 174, 3) := by decide +kernel
theorem d_Mod_binders_294 : decode b_Mod_binders 294 = .ok (.iload 6, 2) := by decide +kernel
theorem d_Mod_binders_296 : decode b_Mod_binders 296 = .ok (.iload 8, 2) := by decide +kernel
theorem d_Mod_binders_298 : decode b_Mod_binders 298 = .ok (.iadd, 1) := by decide +kernel
theorem d_Mod_binders_299 : decode b_Mod_binders 299 = .ok (.iaload, 1) := by decide +kernel
theorem d_Mod_binders_300 : decode b_Mod_binders 300 = .ok (.invokevirtual 393, 3) := by decide +kernel
theorem d_Mod_binders_303 : decode b_Mod_binders 303 = .ok (.iinc 8 1, 3) := by decide +kernel
theorem d_Mod_binders_306 : decode b_Mod_binders 306 = .ok (.goto (-45), 3) := by decide +kernel
theorem d_Mod_binders_309 : decode b_Mod_binders 309 = .ok (.iload_n 2, 1) := by decide +kernel
theorem d_Mod_binders_310 : decode b_Mod_binders 310 = .ok (.iload 5, 2) := by decide +kernel
theorem d_Mod_binders_312 : decode b_Mod_binders 312 = .ok (.iadd, 1) := by decide +kernel
theorem d_Mod_binders_313 : decode b_Mod_binders 313 = .ok (.istore_n 2, 1) := by decide +kernel
theorem d_Mod_binders_314 : decode b_Mod_binders 314 = .ok (.aload_n 0, 1) := by decide +kernel
theorem d_Mod_binders_315 : decode b_Mod_binders 315 = .ok (.invokevirtual 273, 3) := by decide +kernel
theorem d_Mod_binders_318 : decode b_Mod_binders 318 = .ok (.bipush 40, 2) := by decide +kernel
theorem d_Mod_binders_320 : decode b_Mod_binders 320 = .ok (.if_icmp .eq (-318), 3) := by decide +kernel
theorem d_Mod_binders_323 : decode b_Mod_binders 323 = .ok (.iload_n 2, 1) := by decide +kernel
theorem d_Mod_binders_324 : decode b_Mod_binders 324 = .ok (.ireturn, 1) := by decide +kernel
theorem d_Mod_binding_0 : decode b_Mod_binding 0 = .ok (.aload_n 0, 1) := by decide +kernel
theorem d_Mod_binding_1 : decode b_Mod_binding 1 = .ok (.invokevirtual 281, 3) := by decide +kernel
theorem d_Mod_binding_4 : decode b_Mod_binding 4 = .ok (.aload_n 0, 1) := by decide +kernel
theorem d_Mod_binding_5 : decode b_Mod_binding 5 = .ok (.getfield 159, 3) := by decide +kernel
theorem d_Mod_binding_8 : decode b_Mod_binding 8 = .ok (.istore_n 3, 1) := by decide +kernel
theorem d_Mod_binding_9 : decode b_Mod_binding 9 = .ok (.aload_n 0, 1) := by decide +kernel
theorem d_Mod_binding_10 : decode b_Mod_binding 10 = .ok (.iload_n 1, 1) := by decide +kernel
theorem d_Mod_binding_11 : decode b_Mod_binding 11 = .ok (.invokevirtual 409, 3) := by decide +kernel
theorem d_Mod_binding_14 : decode b_Mod_binding 14 = .ok (.istore 4, 2) := by decide +kernel
theorem d_Mod_binding_16 : decode b_Mod_binding 16 = .ok (.aload_n 0, 1) := by decide +kernel
theorem d_Mod_binding_17 : decode b_Mod_binding 17 = .ok (.iload_n 2, 1) := by decide +kernel
theorem d_Mod_binding_18 : decode b_Mod_binding 18 = .ok (.bipush 7, 2) := by decide +kernel
theorem d_Mod_binding_20 : decode b_Mod_binding 20 = .ok (.if_icmp .ne 9, 3) := by decide +kernel
theorem d_Mod_binding_23 : decode b_Mod_binding 23 = .ok (.sipush 301, 3) := by decide +kernel
theorem d_Mod_binding_26 : decode b_Mod_binding 26 = .ok (.goto 5, 3) := by decide +kernel
theorem d_Mod_binding_29 : decode b_Mod_binding 29 = .ok (.bipush 44, 2) := by decide +kernel
theorem d_Mod_binding_31 : decode b_Mod_binding 31 = .ok (.invokevirtual 405, 3) := by decide +kernel
theorem d_Mod_binding_34 : decode b_Mod_binding 34 = .ok (.aload_n 0, 1) := by decide +kernel
theorem d_Mod_binding_35 : decode b_Mod_binding 35 = .ok (.aload_n 0, 1) := by decide +kernel
theorem d_Mod_binding_36 : decode b_Mod_binding 36 = .ok (.iload_n 1, 1) := by decide +kernel
theorem d_Mod_binding_37 : decode b_Mod_binding 37 = .ok (.invokevirtual 396, 3) := by decide +kernel
theorem d_Mod_binding_40 : decode b_Mod_binding 40 = .ok (.invokevirtual 399, 3) := by decide +kernel
theorem d_Mod_binding_43 : decode b_Mod_binding 43 = .ok (.istore 5, 2) := by decide +kernel
theorem d_Mod_binding_45 : decode b_Mod_binding 45 = .ok (.iload 4, 2) := by decide +kernel
theorem d_Mod_binding_47 : decode b_Mod_binding 47 = .ok (.iconst 1, 1) := by decide +kernel
theorem d_Mod_binding_48 : decode b_Mod_binding 48 = .ok (.isub, 1) := by decide +kernel
theorem d_Mod_binding_49 : decode b_Mod_binding 49 = .ok (.istore 6, 2) := by decide +kernel
theorem d_Mod_binding_51 : decode b_Mod_binding 51 = .ok (.iload 6, 2) := by decide +kernel
theorem d_Mod_binding_53 : decode b_Mod_binding 53 = .ok (.ifCond .lt 32, 3) := by decide +kernel
theorem d_Mod_binding_56 : decode b_Mod_binding 56 = .ok (.aload_n 0, 1) := by decide +kernel
theorem d_Mod_binding_57 : decode b_Mod_binding 57 = .ok (.aload_n 0, 1) := by decide +kernel
theorem d_Mod_binding_58 : decode b_Mod_binding 58 = .ok (.iload_n 2, 1) := by decide +kernel
theorem d_Mod_binding_59 : decode b_Mod_binding 59 = .ok (.aload_n 0, 1) := by decide +kernel
theorem d_Mod_binding_60 : decode b_Mod_binding 60 = .ok (.getfield 162, 3) := by decide +kernel
theorem d_Mod_binding_63 : decode b_Mod_binding 63 = .ok (.iload_n 3, 1) := by decide +kernel
theorem d_Mod_binding_64 : decode b_Mod_binding 64 = .ok (.iload 6, 2) := by decide +kernel
theorem d_Mod_binding_66 : decode b_Mod_binding 66 = .ok (.iadd, 1) := by decide +kernel
theorem d_Mod_binding_67 : decode b_Mod_binding 67 = .ok (.iaload, 1) := by decide +kernel
theorem d_Mod_binding_68 : decode b_Mod_binding 68 = .ok (.iload 5, 2) := by decide +kernel
theorem d_Mod_binding_70 : decode b_Mod_binding 70 = .ok (.iconst 0, 1) := by decide +kernel
theorem d_Mod_binding_71 : decode b_Mod_binding 71 = .ok (.invokevirtual 336, 3) := by decide +kernel
theorem d_Mod_binding_74 : decode b_Mod_binding 74 = .ok (.invokevirtual 402, 3) := by decide +kernel
theorem d_Mod_binding_77 : decode b_Mod_binding 77 = .ok (.istore 5, 2) := by decide +kernel
theorem d_Mod_binding_79 : decode b_Mod_binding 79 = .ok (.iinc 6 (-1), 3) := by decide +kernel
theorem d_Mod_binding_82 : decode b_Mod_binding 82 = .ok (.goto (-31), 3) := by decide +kernel
theorem d_Mod_binding_85 : decode b_Mod_binding 85 = .ok (.aload_n 0, 1) := by decide +kernel
theorem d_Mod_binding_86 : decode b_Mod_binding 86 = .ok (.iload_n 3, 1) := by decide +kernel
theorem d_Mod_binding_87 : decode b_Mod_binding 87 = .ok (.putfield 159, 3) := by decide +kernel
theorem d_Mod_binding_90 : decode b_Mod_binding 90 = .ok (.iload 5, 2) := by decide +kernel
theorem d_Mod_binding_92 : decode b_Mod_binding 92 = .ok (.ireturn, 1) := by decide +kernel
theorem d_Mod_letting_0 : decode b_Mod_letting 0 = .ok (.aload_n 0, 1) := by decide +kernel
theorem d_Mod_letting_1 : decode b_Mod_letting 1 = .ok (.invokevirtual 281, 3) := by decide +kernel
theorem d_Mod_letting_4 : decode b_Mod_letting 4 = .ok (.aload_n 0, 1) := by decide +kernel
theorem d_Mod_letting_5 : decode b_Mod_letting 5 = .ok (.invokevirtual 273, 3) := by decide +kernel
theorem d_Mod_letting_8 : decode b_Mod_letting 8 = .ok (.iconst 1, 1) := by decide +kernel
theorem d_Mod_letting_9 : decode b_Mod_letting 9 = .ok (.if_icmp .ne 10, 3) := by decide +kernel
theorem d_Mod_letting_12 : decode b_Mod_letting 12 = .ok (.aload_n 0, 1) := by decide +kernel
theorem d_Mod_letting_13 : decode b_Mod_letting 13 = .ok (.invokevirtual 380, 3) := by decide +kernel
theorem d_Mod_letting_16 : decode b_Mod_letting 16 = .ok (.ifCond .eq 8, 3) := by decide +kernel
theorem d_Mod_letting_19 : decode b_Mod_letting 19 = .ok (.aload_n 0, 1) := by decide +kernel
theorem d_Mod_letting_20 : decode b_Mod_letting 20 = .ok (.invokevirtual 277, 3) := by decide +kernel
theorem d_Mod_letting_23 : decode b_Mod_letting 23 = .ok (.athrow, 1) := by decide +kernel
theorem d_Mod_letting_24 : decode b_Mod_letting 24 = .ok (.aload_n 0, 1) := by decide +kernel
theorem d_Mod_letting_25 : decode b_Mod_letting 25 = .ok (.getfield 44, 3) := by decide +kernel
theorem d_Mod_letting_28 : decode b_Mod_letting 28 = .ok (.istore_n 2, 1) := by decide +kernel
theorem d_Mod_letting_29 : decode b_Mod_letting 29 = .ok (.aload_n 0, 1) := by decide +kernel
theorem d_Mod_letting_30 : decode b_Mod_letting 30 = .ok (.getfield 47, 3) := by decide +kernel
theorem d_Mod_letting_33 : decode b_Mod_letting 33 = .ok (.aload_n 0, 1) := by decide +kernel
theorem d_Mod_letting_34 : decode b_Mod_letting 34 = .ok (.getfield 44, 3) := by decide +kernel
theorem d_Mod_letting_37 : decode b_Mod_letting 37 = .ok (.isub, 1) := by decide +kernel
theorem d_Mod_letting_38 : decode b_Mod_letting 38 = .ok (.istore_n 3, 1) := by decide +kernel
theorem d_Mod_letting_39 : decode b_Mod_letting 39 = .ok (.aload_n 0, 1) := by decide +kernel
theorem d_Mod_letting_40 : decode b_Mod_letting 40 = .ok (.invokevirtual 281, 3) := by decide +kernel
theorem d_Mod_letting_43 : decode b_Mod_letting 43 = .ok (.aload_n 0, 1) := by decide +kernel
theorem d_Mod_letting_44 : decode b_Mod_letting 44 = .ok (.bipush 58, 2) := by decide +kernel
theorem d_Mod_letting_46 : decode b_Mod_letting 46 = .ok (.invokevirtual 405, 3) := by decide +kernel
theorem d_Mod_letting_49 : decode b_Mod_letting 49 = .ok (.aload_n 0, 1) := by decide +kernel
theorem d_Mod_letting_50 : decode b_Mod_letting 50 = .ok (.aload_n 0, 1) := by decide +kernel
theorem d_Mod_letting_51 : decode b_Mod_letting 51 = .ok (.iload_n 1, 1) := by decide +kernel
theorem d_Mod_letting_52 : decode b_Mod_letting 52 = .ok (.invokevirtual 396, 3) := by decide +kernel
theorem d_Mod_letting_55 : decode b_Mod_letting 55 = .ok (.invokevirtual 399, 3) := by decide +kernel
theorem d_Mod_letting_58 : decode b_Mod_letting 58 = .ok (.istore 4, 2) := by decide +kernel
theorem d_Mod_letting_60 : decode b_Mod_letting 60 = .ok (.aload_n 0, 1) := by decide +kernel
theorem d_Mod_letting_61 : decode b_Mod_letting 61 = .ok (.sipush 300, 3) := by decide +kernel
theorem d_Mod_letting_64 : decode b_Mod_letting 64 = .ok (.invokevirtual 405, 3) := by decide +kernel
theorem d_Mod_letting_67 : decode b_Mod_letting 67 = .ok (.aload_n 0, 1) := by decide +kernel
theorem d_Mod_letting_68 : decode b_Mod_letting 68 = .ok (.aload_n 0, 1) := by decide +kernel
theorem d_Mod_letting_69 : decode b_Mod_letting 69 = .ok (.iload_n 1, 1) := by decide +kernel
theorem d_Mod_letting_70 : decode b_Mod_letting 70 = .ok (.invokevirtual 396, 3) := by decide +kernel
theorem d_Mod_letting_73 : decode b_Mod_letting 73 = .ok (.invokevirtual 399, 3) := by decide +kernel
theorem d_Mod_letting_76 : decode b_Mod_letting 76 = .ok (.istore 5, 2) := by decide +kernel
theorem d_Mod_letting_78 : decode b_Mod_letting 78 = .ok (.aload_n 0, 1) := by decide +kernel
theorem d_Mod_letting_79 : decode b_Mod_letting 79 = .ok (.ldc_w 315, 3) := by decide +kernel
theorem d_Mod_letting_82 : decode b_Mod_letting 82 = .ok (.invokevirtual 412, 3) := by decide +kernel
theorem d_Mod_letting_85 : decode b_Mod_letting 85 = .ok (.aload_n 0, 1) := by decide +kernel
theorem d_Mod_letting_86 : decode b_Mod_letting 86 = .ok (.iload_n 2, 1) := by decide +kernel
theorem d_Mod_letting_87 : decode b_Mod_letting 87 = .ok (.iload_n 3, 1) := by decide +kernel
theorem d_Mod_letting_88 : decode b_Mod_letting 88 = .ok (.invokevirtual 393, 3) := by decide +kernel
theorem d_Mod_letting_91 : decode b_Mod_letting 91 = .ok (.aload_n 0, 1) := by decide +kernel
theorem d_Mod_letting_92 : decode b_Mod_letting 92 = .ok (.aload_n 0, 1) := by decide +kernel
theorem d_Mod_letting_93 : decode b_Mod_letting 93 = .ok (.iload_n 1, 1) := by decide +kernel
theorem d_Mod_letting_94 : decode b_Mod_letting 94 = .ok (.invokevirtual 396, 3) := by decide +kernel
theorem d_Mod_letting_97 : decode b_Mod_letting 97 = .ok (.invokevirtual 399, 3) := by decide +kernel
theorem d_Mod_letting_100 : decode b_Mod_letting 100 = .ok (.istore 6, 2) := by decide +kernel
theorem d_Mod_letting_102 : decode b_Mod_letting 102 = .ok (.aload_n 0, 1) := by decide +kernel
theorem d_Mod_letting_103 : decode b_Mod_letting 103 = .ok (.dup, 1) := by decide +kernel
theorem d_Mod_letting_104 : decode b_Mod_letting 104 = .ok (.getfield 159, 3) := by decide +kernel
theorem d_Mod_letting_107 : decode b_Mod_letting 107 = .ok (.iconst 1, 1) := by decide +kernel
theorem d_Mod_letting_108 : decode b_Mod_letting 108 = .ok (.isub, 1) := by decide +kernel
theorem d_Mod_letting_109 : decode b_Mod_letting 109 = .ok (.putfield 159, 3) := by decide +kernel
theorem d_Mod_letting_112 : decode b_Mod_letting 112 = .ok (.aload_n 0, 1) := by decide +kernel
theorem d_Mod_letting_113 : decode b_Mod_letting 113 = .ok (.aload_n 0, 1) := by decide +kernel
theorem d_Mod_letting_114 : decode b_Mod_letting 114 = .ok (.bipush 9, 2) := by decide +kernel
theorem d_Mod_letting_116 : decode b_Mod_letting 116 = .ok (.iload 4, 2) := by decide +kernel
theorem d_Mod_letting_118 : decode b_Mod_letting 118 = .ok (.iload 5, 2) := by decide +kernel
theorem d_Mod_letting_120 : decode b_Mod_letting 120 = .ok (.iload 6, 2) := by decide +kernel
theorem d_Mod_letting_122 : decode b_Mod_letting 122 = .ok (.invokevirtual 336, 3) := by decide +kernel
theorem d_Mod_letting_125 : decode b_Mod_letting 125 = .ok (.invokevirtual 402, 3) := by decide +kernel
theorem d_Mod_letting_128 : decode b_Mod_letting 128 = .ok (.ireturn, 1) := by decide +kernel
theorem d_Mod_term_0 : decode b_Mod_term 0 = .ok (.aload_n 0, 1) := by decide +kernel
theorem d_Mod_term_1 : decode b_Mod_term 1 = .ok (.ldc_w 309, 3) := by decide +kernel
theorem d_Mod_term_4 : decode b_Mod_term 4 = .ok (.invokevirtual 293, 3) := by decide +kernel
theorem d_Mod_term_7 : decode b_Mod_term 7 = .ok (.ifCond .ne 13, 3) := by decide +kernel
theorem d_Mod_term_10 : decode b_Mod_term 10 = .ok (.aload_n 0, 1) := by decide +kernel
theorem d_Mod_term_11 : decode b_Mod_term 11 = .ok (.ldc_w 311, 3) := by decide +kernel
theorem d_Mod_term_14 : decode b_Mod_term 14 = .ok (.invokevirtual 293, 3) := by decide +kernel
theorem d_Mod_term_17 : decode b_Mod_term 17 = .ok (.ifCond .eq 26, 3) := by decide +kernel
theorem d_Mod_term_20 : decode b_Mod_term 20 = .ok (.aload_n 0, 1) := by decide +kernel
theorem d_Mod_term_21 : decode b_Mod_term 21 = .ok (.iload_n 1, 1) := by decide +kernel
theorem d_Mod_term_22 : decode b_Mod_term 22 = .ok (.aload_n 0, 1) := by decide +kernel
theorem d_Mod_term_23 : decode b_Mod_term 23 = .ok (.ldc_w 309, 3) := by decide +kernel
theorem d_Mod_term_26 : decode b_Mod_term 26 = .ok (.invokevirtual 293, 3) := by decide +kernel
theorem d_Mod_term_29 : decode b_Mod_term 29 = .ok (.ifCond .eq 8, 3) := by decide +kernel
theorem d_Mod_term_32 : decode b_Mod_term 32 = .ok (.bipush 7, 2) := by decide +kernel
theorem d_Mod_term_34 : decode b_Mod_term 34 = .ok (.goto 5, 3) := by decide +kernel
theorem d_Mod_term_37 : decode b_Mod_term 37 = .ok (.bipush 6, 2) := by decide +kernel
theorem d_Mod_term_39 : decode b_Mod_term 39 = .ok (.invokevirtual 384, 3) := by decide +kernel
theorem d_Mod_term_42 : decode b_Mod_term 42 = .ok (.ireturn, 1) := by decide +kernel
theorem d_Mod_term_43 : decode b_Mod_term 43 = .ok (.aload_n 0, 1) := by decide +kernel
theorem d_Mod_term_44 : decode b_Mod_term 44 = .ok (.ldc_w 313, 3) := by decide +kernel
theorem d_Mod_term_47 : decode b_Mod_term 47 = .ok (.invokevirtual 293, 3) := by decide +kernel
theorem d_Mod_term_50 : decode b_Mod_term 50 = .ok (.ifCond .eq 9, 3) := by decide +kernel
theorem d_Mod_term_53 : decode b_Mod_term 53 = .ok (.aload_n 0, 1) := by decide +kernel
theorem d_Mod_term_54 : decode b_Mod_term 54 = .ok (.iload_n 1, 1) := by decide +kernel
theorem d_Mod_term_55 : decode b_Mod_term 55 = .ok (.invokevirtual 387, 3) := by decide +kernel
theorem d_Mod_term_58 : decode b_Mod_term 58 = .ok (.ireturn, 1) := by decide +kernel
theorem d_Mod_term_59 : decode b_Mod_term 59 = .ok (.aload_n 0, 1) := by decide +kernel
theorem d_Mod_term_60 : decode b_Mod_term 60 = .ok (.iload_n 1, 1) := by decide +kernel
theorem d_Mod_term_61 : decode b_Mod_term 61 = .ok (.invokevirtual 390, 3) := by decide +kernel
theorem d_Mod_term_64 : decode b_Mod_term 64 = .ok (.istore_n 2, 1) := by decide +kernel
theorem d_Mod_term_65 : decode b_Mod_term 65 = .ok (.aload_n 0, 1) := by decide +kernel
theorem d_Mod_term_66 : decode b_Mod_term 66 = .ok (.invokevirtual 273, 3) := by decide +kernel
theorem d_Mod_term_69 : decode b_Mod_term 69 = .ok (.sipush 302, 3) := by decide +kernel
theorem d_Mod_term_72 : decode b_Mod_term 72 = .ok (.if_icmp .eq 5, 3) := by decide +kernel
theorem d_Mod_term_75 : decode b_Mod_term 75 = .ok (.iload_n 2, 1) := by decide +kernel
theorem d_Mod_term_76 : decode b_Mod_term 76 = .ok (.ireturn, 1) := by decide +kernel
theorem d_Mod_term_77 : decode b_Mod_term 77 = .ok (.aload_n 0, 1) := by decide +kernel
theorem d_Mod_term_78 : decode b_Mod_term 78 = .ok (.invokevirtual 281, 3) := by decide +kernel
theorem d_Mod_term_81 : decode b_Mod_term 81 = .ok (.aload_n 0, 1) := by decide +kernel
theorem d_Mod_term_82 : decode b_Mod_term 82 = .ok (.iconst 0, 1) := by decide +kernel
theorem d_Mod_term_83 : decode b_Mod_term 83 = .ok (.iconst 0, 1) := by decide +kernel
theorem d_Mod_term_84 : decode b_Mod_term 84 = .ok (.invokevirtual 393, 3) := by decide +kernel
theorem d_Mod_term_87 : decode b_Mod_term 87 = .ok (.aload_n 0, 1) := by decide +kernel
theorem d_Mod_term_88 : decode b_Mod_term 88 = .ok (.aload_n 0, 1) := by decide +kernel
theorem d_Mod_term_89 : decode b_Mod_term 89 = .ok (.iload_n 1, 1) := by decide +kernel
theorem d_Mod_term_90 : decode b_Mod_term 90 = .ok (.invokevirtual 396, 3) := by decide +kernel
theorem d_Mod_term_93 : decode b_Mod_term 93 = .ok (.invokevirtual 399, 3) := by decide +kernel
theorem d_Mod_term_96 : decode b_Mod_term 96 = .ok (.istore_n 3, 1) := by decide +kernel
theorem d_Mod_term_97 : decode b_Mod_term 97 = .ok (.aload_n 0, 1) := by decide +kernel
theorem d_Mod_term_98 : decode b_Mod_term 98 = .ok (.dup, 1) := by decide +kernel
theorem d_Mod_term_99 : decode b_Mod_term 99 = .ok (.getfield 159, 3) := by decide +kernel
theorem d_Mod_term_102 : decode b_Mod_term 102 = .ok (.iconst 1, 1) := by decide +kernel
theorem d_Mod_term_103 : decode b_Mod_term 103 = .ok (.isub, 1) := by decide +kernel
theorem d_Mod_term_104 : decode b_Mod_term 104 = .ok (.putfield 159, 3) := by decide +kernel
theorem d_Mod_term_107 : decode b_Mod_term 107 = .ok (.aload_n 0, 1) := by decide +kernel
theorem d_Mod_term_108 : decode b_Mod_term 108 = .ok (.aload_n 0, 1) := by decide +kernel
theorem d_Mod_term_109 : decode b_Mod_term 109 = .ok (.bipush 6, 2) := by decide +kernel
theorem d_Mod_term_111 : decode b_Mod_term 111 = .ok (.iload_n 2, 1) := by decide +kernel
theorem d_Mod_term_112 : decode b_Mod_term 112 = .ok (.iload_n 3, 1) := by decide +kernel
theorem d_Mod_term_113 : decode b_Mod_term 113 = .ok (.iconst 0, 1) := by decide +kernel
theorem d_Mod_term_114 : decode b_Mod_term 114 = .ok (.invokevirtual 336, 3) := by decide +kernel
theorem d_Mod_term_117 : decode b_Mod_term 117 = .ok (.invokevirtual 402, 3) := by decide +kernel
theorem d_Mod_term_120 : decode b_Mod_term 120 = .ok (.ireturn, 1) := by decide +kernel
