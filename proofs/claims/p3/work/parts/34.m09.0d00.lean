theorem d_Mod_alike_0 : decode b_Mod_alike 0 = .ok (.aload_n 0, 1) := by decide +kernel
theorem d_Mod_alike_1 : decode b_Mod_alike 1 = .ok (.iload_n 1, 1) := by decide +kernel
theorem d_Mod_alike_2 : decode b_Mod_alike 2 = .ok (.invokevirtual 446, 3) := by decide +kernel
theorem d_Mod_alike_5 : decode b_Mod_alike 5 = .ok (.istore 4, 2) := by decide +kernel
theorem d_Mod_alike_7 : decode b_Mod_alike 7 = .ok (.aload_n 0, 1) := by decide +kernel
theorem d_Mod_alike_8 : decode b_Mod_alike 8 = .ok (.iload_n 2, 1) := by decide +kernel
theorem d_Mod_alike_9 : decode b_Mod_alike 9 = .ok (.invokevirtual 446, 3) := by decide +kernel
theorem d_Mod_alike_12 : decode b_Mod_alike 12 = .ok (.istore 5, 2) := by decide +kernel
theorem d_Mod_alike_14 : decode b_Mod_alike 14 = .ok (.aload_n 0, 1) := by decide +kernel
theorem d_Mod_alike_15 : decode b_Mod_alike 15 = .ok (.iload_n 1, 1) := by decide +kernel
theorem d_Mod_alike_16 : decode b_Mod_alike 16 = .ok (.invokevirtual 449, 3) := by decide +kernel
theorem d_Mod_alike_19 : decode b_Mod_alike 19 = .ok (.istore 6, 2) := by decide +kernel
theorem d_Mod_alike_21 : decode b_Mod_alike 21 = .ok (.aload_n 0, 1) := by decide +kernel
theorem d_Mod_alike_22 : decode b_Mod_alike 22 = .ok (.getfield 55, 3) := by decide +kernel
theorem d_Mod_alike_25 : decode b_Mod_alike 25 = .ok (.iload 4, 2) := by decide +kernel
theorem d_Mod_alike_27 : decode b_Mod_alike 27 = .ok (.baload, 1) := by decide +kernel
theorem d_Mod_alike_28 : decode b_Mod_alike 28 = .ok (.bipush 6, 2) := by decide +kernel
theorem d_Mod_alike_30 : decode b_Mod_alike 30 = .ok (.if_icmp .eq 46, 3) := by decide +kernel
theorem d_Mod_alike_33 : decode b_Mod_alike 33 = .ok (.aload_n 0, 1) := by decide +kernel
theorem d_Mod_alike_34 : decode b_Mod_alike 34 = .ok (.getfield 55, 3) := by decide +kernel
theorem d_Mod_alike_37 : decode b_Mod_alike 37 = .ok (.iload 4, 2) := by decide +kernel
theorem d_Mod_alike_39 : decode b_Mod_alike 39 = .ok (.baload, 1) := by decide +kernel
theorem d_Mod_alike_40 : decode b_Mod_alike 40 = .ok (.bipush 7, 2) := by decide +kernel
theorem d_Mod_alike_42 : decode b_Mod_alike 42 = .ok (.if_icmp .eq 34, 3) := by decide +kernel
theorem d_Mod_alike_45 : decode b_Mod_alike 45 = .ok (.aload_n 0, 1) := by decide +kernel
theorem d_Mod_alike_46 : decode b_Mod_alike 46 = .ok (.getfield 55, 3) := by decide +kernel
theorem d_Mod_alike_49 : decode b_Mod_alike 49 = .ok (.iload 4, 2) := by decide +kernel
theorem d_Mod_alike_51 : decode b_Mod_alike 51 = .ok (.baload, 1) := by decide +kernel
theorem d_Mod_alike_52 : decode b_Mod_alike 52 = .ok (.ifCond .eq 24, 3) := by decide +kernel
theorem d_Mod_alike_55 : decode b_Mod_alike 55 = .ok (.aload_n 0, 1) := by decide +kernel
theorem d_Mod_alike_56 : decode b_Mod_alike 56 = .ok (.iload 4, 2) := by decide +kernel
theorem d_Mod_alike_58 : decode b_Mod_alike 58 = .ok (.iload 5, 2) := by decide +kernel
theorem d_Mod_alike_60 : decode b_Mod_alike 60 = .ok (.invokevirtual 340, 3) := by decide +kernel
theorem d_Mod_alike_63 : decode b_Mod_alike 63 = .ok (.ifCond .eq 13, 3) := by decide +kernel
theorem d_Mod_alike_66 : decode b_Mod_alike 66 = .ok (.iload 6, 2) := by decide +kernel
theorem d_Mod_alike_68 : decode b_Mod_alike 68 = .ok (.aload_n 0, 1) := by decide +kernel
theorem d_Mod_alike_69 : decode b_Mod_alike 69 = .ok (.iload_n 2, 1) := by decide +kernel
theorem d_Mod_alike_70 : decode b_Mod_alike 70 = .ok (.invokevirtual 449, 3) := by decide +kernel
theorem d_Mod_alike_73 : decode b_Mod_alike 73 = .ok (.if_icmp .eq 5, 3) := by decide +kernel
theorem d_Mod_alike_76 : decode b_Mod_alike 76 = .ok (.iconst 0, 1) := by decide +kernel
theorem d_Mod_alike_77 : decode b_Mod_alike 77 = .ok (.ireturn, 1) := by decide +kernel
theorem d_Mod_alike_78 : decode b_Mod_alike 78 = .ok (.iconst 0, 1) := by decide +kernel
theorem d_Mod_alike_79 : decode b_Mod_alike 79 = .ok (.istore 7, 2) := by decide +kernel
theorem d_Mod_alike_81 : decode b_Mod_alike 81 = .ok (.iload 7, 2) := by decide +kernel
theorem d_Mod_alike_83 : decode b_Mod_alike 83 = .ok (.iload 6, 2) := by decide +kernel
theorem d_Mod_alike_85 : decode b_Mod_alike 85 = .ok (.if_icmp .ge 39, 3) := by decide +kernel
theorem d_Mod_alike_88 : decode b_Mod_alike 88 = .ok (.aload_n 0, 1) := by decide +kernel
theorem d_Mod_alike_89 : decode b_Mod_alike 89 = .ok (.aload_n 0, 1) := by decide +kernel
theorem d_Mod_alike_90 : decode b_Mod_alike 90 = .ok (.iload_n 1, 1) := by decide +kernel
theorem d_Mod_alike_91 : decode b_Mod_alike 91 = .ok (.iload 6, 2) := by decide +kernel
theorem d_Mod_alike_93 : decode b_Mod_alike 93 = .ok (.iload 7, 2) := by decide +kernel
theorem d_Mod_alike_95 : decode b_Mod_alike 95 = .ok (.invokevirtual 440, 3) := by decide +kernel
theorem d_Mod_alike_98 : decode b_Mod_alike 98 = .ok (.aload_n 0, 1) := by decide +kernel
theorem d_Mod_alike_99 : decode b_Mod_alike 99 = .ok (.iload_n 2, 1) := by decide +kernel
theorem d_Mod_alike_100 : decode b_Mod_alike 100 = .ok (.iload 6, 2) := by decide +kernel
theorem d_Mod_alike_102 : decode b_Mod_alike 102 = .ok (.iload 7, 2) := by decide +kernel
theorem d_Mod_alike_104 : decode b_Mod_alike 104 = .ok (.invokevirtual 440, 3) := by decide +kernel
theorem d_Mod_alike_107 : decode b_Mod_alike 107 = .ok (.iload_n 3, 1) := by decide +kernel
theorem d_Mod_alike_108 : decode b_Mod_alike 108 = .ok (.iconst 1, 1) := by decide +kernel
theorem d_Mod_alike_109 : decode b_Mod_alike 109 = .ok (.iadd, 1) := by decide +kernel
theorem d_Mod_alike_110 : decode b_Mod_alike 110 = .ok (.invokevirtual 464, 3) := by decide +kernel
theorem d_Mod_alike_113 : decode b_Mod_alike 113 = .ok (.ifCond .ne 5, 3) := by decide +kernel
theorem d_Mod_alike_116 : decode b_Mod_alike 116 = .ok (.iconst 0, 1) := by decide +kernel
theorem d_Mod_alike_117 : decode b_Mod_alike 117 = .ok (.ireturn, 1) := by decide +kernel
theorem d_Mod_alike_118 : decode b_Mod_alike 118 = .ok (.iinc 7 1, 3) := by decide +kernel
theorem d_Mod_alike_121 : decode b_Mod_alike 121 = .ok (.goto (-40), 3) := by decide +kernel
theorem d_Mod_alike_124 : decode b_Mod_alike 124 = .ok (.iconst 1, 1) := by decide +kernel
theorem d_Mod_alike_125 : decode b_Mod_alike 125 = .ok (.ireturn, 1) := by decide +kernel
theorem d_Mod_conv_0 : decode b_Mod_conv 0 = .ok (.iload_n 3, 1) := by decide +kernel
theorem d_Mod_conv_1 : decode b_Mod_conv 1 = .ok (.bipush 120, 2) := by decide +kernel
theorem d_Mod_conv_3 : decode b_Mod_conv 3 = .ok (.if_icmp .le 9, 3) := by decide +kernel
theorem d_Mod_conv_6 : decode b_Mod_conv 6 = .ok (.bipush 10, 2) := by decide +kernel
theorem d_Mod_conv_8 : decode b_Mod_conv 8 = .ok (.invokestatic 323, 3) := by decide +kernel
theorem d_Mod_conv_11 : decode b_Mod_conv 11 = .ok (.athrow, 1) := by decide +kernel
theorem d_Mod_conv_12 : decode b_Mod_conv 12 = .ok (.aload_n 0, 1) := by decide +kernel
theorem d_Mod_conv_13 : decode b_Mod_conv 13 = .ok (.iconst 1, 1) := by decide +kernel
theorem d_Mod_conv_14 : decode b_Mod_conv 14 = .ok (.invokevirtual 434, 3) := by decide +kernel
theorem d_Mod_conv_17 : decode b_Mod_conv 17 = .ok (.aload_n 0, 1) := by decide +kernel
theorem d_Mod_conv_18 : decode b_Mod_conv 18 = .ok (.iload_n 1, 1) := by decide +kernel
theorem d_Mod_conv_19 : decode b_Mod_conv 19 = .ok (.iload_n 2, 1) := by decide +kernel
theorem d_Mod_conv_20 : decode b_Mod_conv 20 = .ok (.invokevirtual 340, 3) := by decide +kernel
theorem d_Mod_conv_23 : decode b_Mod_conv 23 = .ok (.ifCond .eq 5, 3) := by decide +kernel
theorem d_Mod_conv_26 : decode b_Mod_conv 26 = .ok (.iconst 1, 1) := by decide +kernel
theorem d_Mod_conv_27 : decode b_Mod_conv 27 = .ok (.ireturn, 1) := by decide +kernel
theorem d_Mod_conv_28 : decode b_Mod_conv 28 = .ok (.aload_n 0, 1) := by decide +kernel
theorem d_Mod_conv_29 : decode b_Mod_conv 29 = .ok (.iload_n 1, 1) := by decide +kernel
theorem d_Mod_conv_30 : decode b_Mod_conv 30 = .ok (.invokevirtual 458, 3) := by decide +kernel
theorem d_Mod_conv_33 : decode b_Mod_conv 33 = .ok (.istore 4, 2) := by decide +kernel
theorem d_Mod_conv_35 : decode b_Mod_conv 35 = .ok (.aload_n 0, 1) := by decide +kernel
theorem d_Mod_conv_36 : decode b_Mod_conv 36 = .ok (.iload_n 2, 1) := by decide +kernel
theorem d_Mod_conv_37 : decode b_Mod_conv 37 = .ok (.invokevirtual 458, 3) := by decide +kernel
theorem d_Mod_conv_40 : decode b_Mod_conv 40 = .ok (.istore 5, 2) := by decide +kernel
theorem d_Mod_conv_42 : decode b_Mod_conv 42 = .ok (.aload_n 0, 1) := by decide +kernel
theorem d_Mod_conv_43 : decode b_Mod_conv 43 = .ok (.iload 4, 2) := by decide +kernel
theorem d_Mod_conv_45 : decode b_Mod_conv 45 = .ok (.iload 5, 2) := by decide +kernel
theorem d_Mod_conv_47 : decode b_Mod_conv 47 = .ok (.invokevirtual 340, 3) := by decide +kernel
theorem d_Mod_conv_50 : decode b_Mod_conv 50 = .ok (.ifCond .eq 5, 3) := by decide +kernel
theorem d_Mod_conv_53 : decode b_Mod_conv 53 = .ok (.iconst 1, 1) := by decide +kernel
theorem d_Mod_conv_54 : decode b_Mod_conv 54 = .ok (.ireturn, 1) := by decide +kernel
theorem d_Mod_conv_55 : decode b_Mod_conv 55 = .ok (.aload_n 0, 1) := by decide +kernel
theorem d_Mod_conv_56 : decode b_Mod_conv 56 = .ok (.getfield 55, 3) := by decide +kernel
theorem d_Mod_conv_59 : decode b_Mod_conv 59 = .ok (.iload 4, 2) := by decide +kernel
theorem d_Mod_conv_61 : decode b_Mod_conv 61 = .ok (.baload, 1) := by decide +kernel
theorem d_Mod_conv_62 : decode b_Mod_conv 62 = .ok (.istore 6, 2) := by decide +kernel
theorem d_Mod_conv_64 : decode b_Mod_conv 64 = .ok (.aload_n 0, 1) := by decide +kernel
theorem d_Mod_conv_65 : decode b_Mod_conv 65 = .ok (.getfield 55, 3) := by decide +kernel
theorem d_Mod_conv_68 : decode b_Mod_conv 68 = .ok (.iload 5, 2) := by decide +kernel
theorem d_Mod_conv_70 : decode b_Mod_conv 70 = .ok (.baload, 1) := by decide +kernel
theorem d_Mod_conv_71 : decode b_Mod_conv 71 = .ok (.istore 7, 2) := by decide +kernel
theorem d_Mod_conv_73 : decode b_Mod_conv 73 = .ok (.iload 6, 2) := by decide +kernel
theorem d_Mod_conv_75 : decode b_Mod_conv 75 = .ok (.bipush 6, 2) := by decide +kernel
theorem d_Mod_conv_77 : decode b_Mod_conv 77 = .ok (.if_icmp .ne 10, 3) := by decide +kernel
theorem d_Mod_conv_80 : decode b_Mod_conv 80 = .ok (.iload 7, 2) := by decide +kernel
theorem d_Mod_conv_82 : decode b_Mod_conv 82 = .ok (.bipush 6, 2) := by decide +kernel
theorem d_Mod_conv_84 : decode b_Mod_conv 84 = .ok (.if_icmp .eq 17, 3) := by decide +kernel
theorem d_Mod_conv_87 : decode b_Mod_conv 87 = .ok (.iload 6, 2) := by decide +kernel
theorem d_Mod_conv_89 : decode b_Mod_conv 89 = .ok (.bipush 7, 2) := by decide +kernel
theorem d_Mod_conv_91 : decode b_Mod_conv 91 = .ok (.if_icmp .ne 87, 3) := by decide +kernel
theorem d_Mod_conv_94 : decode b_Mod_conv 94 = .ok (.iload 7, 2) := by decide +kernel
theorem d_Mod_conv_96 : decode b_Mod_conv 96 = .ok (.bipush 7, 2) := by decide +kernel
theorem d_Mod_conv_98 : decode b_Mod_conv 98 = .ok (.if_icmp .ne 80, 3) := by decide +kernel
theorem d_Mod_conv_101 : decode b_Mod_conv 101 = .ok (.aload_n 0, 1) := by decide +kernel
theorem d_Mod_conv_102 : decode b_Mod_conv 102 = .ok (.aload_n 0, 1) := by decide +kernel
theorem d_Mod_conv_103 : decode b_Mod_conv 103 = .ok (.getfield 58, 3) := by decide +kernel
theorem d_Mod_conv_106 : decode b_Mod_conv 106 = .ok (.iload 4, 2) := by decide +kernel
theorem d_Mod_conv_108 : decode b_Mod_conv 108 = .ok (.iaload, 1) := by decide +kernel
theorem d_Mod_conv_109 : decode b_Mod_conv 109 = .ok (.aload_n 0, 1) := by decide +kernel
theorem d_Mod_conv_110 : decode b_Mod_conv 110 = .ok (.getfield 58, 3) := by decide +kernel
theorem d_Mod_conv_113 : decode b_Mod_conv 113 = .ok (.iload 5, 2) := by decide +kernel
theorem d_Mod_conv_115 : decode b_Mod_conv 115 = .ok (.iaload, 1) := by decide +kernel
theorem d_Mod_conv_116 : decode b_Mod_conv 116 = .ok (.iload_n 3, 1) := by decide +kernel
theorem d_Mod_conv_117 : decode b_Mod_conv 117 = .ok (.iconst 1, 1) := by decide +kernel
theorem d_Mod_conv_118 : decode b_Mod_conv 118 = .ok (.iadd, 1) := by decide +kernel
theorem d_Mod_conv_119 : decode b_Mod_conv 119 = .ok (.invokevirtual 464, 3) := by decide +kernel
theorem d_Mod_conv_122 : decode b_Mod_conv 122 = .ok (.ifCond .ne 5, 3) := by decide +kernel
theorem d_Mod_conv_125 : decode b_Mod_conv 125 = .ok (.iconst 0, 1) := by decide +kernel
theorem d_Mod_conv_126 : decode b_Mod_conv 126 = .ok (.ireturn, 1) := by decide +kernel
theorem d_Mod_conv_127 : decode b_Mod_conv 127 = .ok (.aload_n 0, 1) := by decide +kernel
theorem d_Mod_conv_128 : decode b_Mod_conv 128 = .ok (.aload_n 0, 1) := by decide +kernel
theorem d_Mod_conv_129 : decode b_Mod_conv 129 = .ok (.getfield 58, 3) := by decide +kernel
theorem d_Mod_conv_132 : decode b_Mod_conv 132 = .ok (.iload 4, 2) := by decide +kernel
theorem d_Mod_conv_134 : decode b_Mod_conv 134 = .ok (.iaload, 1) := by decide +kernel
theorem d_Mod_conv_135 : decode b_Mod_conv 135 = .ok (.invokevirtual 468, 3) := by decide +kernel
theorem d_Mod_conv_138 : decode b_Mod_conv 138 = .ok (.istore 8, 2) := by decide +kernel
theorem d_Mod_conv_140 : decode b_Mod_conv 140 = .ok (.aload_n 0, 1) := by decide +kernel
theorem d_Mod_conv_141 : decode b_Mod_conv 141 = .ok (.aload_n 0, 1) := by decide +kernel
theorem d_Mod_conv_142 : decode b_Mod_conv 142 = .ok (.getfield 62, 3) := by decide +kernel
theorem d_Mod_conv_145 : decode b_Mod_conv 145 = .ok (.iload 4, 2) := by decide +kernel
theorem d_Mod_conv_147 : decode b_Mod_conv 147 = .ok (.iaload, 1) := by decide +kernel
theorem d_Mod_conv_148 : decode b_Mod_conv 148 = .ok (.iload 8, 2) := by decide +kernel
theorem d_Mod_conv_150 : decode b_Mod_conv 150 = .ok (.invokevirtual 471, 3) := by decide +kernel
theorem d_Mod_conv_153 : decode b_Mod_conv 153 = .ok (.istore 9, 2) := by decide +kernel
theorem d_Mod_conv_155 : decode b_Mod_conv 155 = .ok (.aload_n 0, 1) := by decide +kernel
theorem d_Mod_conv_156 : decode b_Mod_conv 156 = .ok (.iload 9, 2) := by decide +kernel
theorem d_Mod_conv_158 : decode b_Mod_conv 158 = .ok (.aload_n 0, 1) := by decide +kernel
theorem d_Mod_conv_159 : decode b_Mod_conv 159 = .ok (.aload_n 0, 1) := by decide +kernel
theorem d_Mod_conv_160 : decode b_Mod_conv 160 = .ok (.getfield 62, 3) := by decide +kernel
theorem d_Mod_conv_163 : decode b_Mod_conv 163 = .ok (.iload 5, 2) := by decide +kernel
theorem d_Mod_conv_165 : decode b_Mod_conv 165 = .ok (.iaload, 1) := by decide +kernel
theorem d_Mod_conv_166 : decode b_Mod_conv 166 = .ok (.iload 8, 2) := by decide +kernel
theorem d_Mod_conv_168 : decode b_Mod_conv 168 = .ok (.invokevirtual 471, 3) := by decide +kernel
theorem d_Mod_conv_171 : decode b_Mod_conv 171 = .ok (.iload_n 3, 1) := by decide +kernel
theorem d_Mod_conv_172 : decode b_Mod_conv 172 = .ok (.iconst 1, 1) := by decide +kernel
theorem d_Mod_conv_173 : decode b_Mod_conv 173 = .ok (.iadd, 1) := by decide +kernel
theorem d_Mod_conv_174 : decode b_Mod_conv 174 = .ok (.invokevirtual 464, 3) := by decide +kernel
theorem d_Mod_conv_177 : decode b_Mod_conv 177 = .ok (.ireturn, 1) := by decide +kernel
theorem d_Mod_conv_178 : decode b_Mod_conv 178 = .ok (.iload 6, 2) := by decide +kernel
theorem d_Mod_conv_180 : decode b_Mod_conv 180 = .ok (.bipush 7, 2) := by decide +kernel
theorem d_Mod_conv_182 : decode b_Mod_conv 182 = .ok (.if_icmp .ne 61, 3) := by decide +kernel
theorem d_Mod_conv_185 : decode b_Mod_conv 185 = .ok (.iload 7, 2) := by decide +kernel
theorem d_Mod_conv_187 : decode b_Mod_conv 187 = .ok (.bipush 6, 2) := by decide +kernel
theorem d_Mod_conv_189 : decode b_Mod_conv 189 = .ok (.if_icmp .eq 54, 3) := by decide +kernel
theorem d_Mod_conv_192 : decode b_Mod_conv 192 = .ok (.iload 7, 2) := by decide +kernel
theorem d_Mod_conv_194 : decode b_Mod_conv 194 = .ok (.ifCond .eq 49, 3) := by decide +kernel
theorem d_Mod_conv_197 : decode b_Mod_conv 197 = .ok (.aload_n 0, 1) := by decide +kernel
theorem d_Mod_conv_198 : decode b_Mod_conv 198 = .ok (.aload_n 0, 1) := by decide +kernel
theorem d_Mod_conv_199 : decode b_Mod_conv 199 = .ok (.getfield 58, 3) := by decide +kernel
theorem d_Mod_conv_202 : decode b_Mod_conv 202 = .ok (.iload 4, 2) := by decide +kernel
theorem d_Mod_conv_204 : decode b_Mod_conv 204 = .ok (.iaload, 1) := by decide +kernel
theorem d_Mod_conv_205 : decode b_Mod_conv 205 = .ok (.invokevirtual 468, 3) := by decide +kernel
theorem d_Mod_conv_208 : decode b_Mod_conv 208 = .ok (.istore 8, 2) := by decide +kernel
theorem d_Mod_conv_210 : decode b_Mod_conv 210 = .ok (.aload_n 0, 1) := by decide +kernel
theorem d_Mod_conv_211 : decode b_Mod_conv 211 = .ok (.aload_n 0, 1) := by decide +kernel
theorem d_Mod_conv_212 : decode b_Mod_conv 212 = .ok (.aload_n 0, 1) := by decide +kernel
theorem d_Mod_conv_213 : decode b_Mod_conv 213 = .ok (.getfield 62, 3) := by decide +kernel
theorem d_Mod_conv_216 : decode b_Mod_conv 216 = .ok (.iload 4, 2) := by decide +kernel
theorem d_Mod_conv_218 : decode b_Mod_conv 218 = .ok (.iaload, 1) := by decide +kernel
theorem d_Mod_conv_219 : decode b_Mod_conv 219 = .ok (.iload 8, 2) := by decide +kernel
theorem d_Mod_conv_221 : decode b_Mod_conv 221 = .ok (.invokevirtual 471, 3) := by decide +kernel
theorem d_Mod_conv_224 : decode b_Mod_conv 224 = .ok (.aload_n 0, 1) := by decide +kernel
theorem d_Mod_conv_225 : decode b_Mod_conv 225 = .ok (.aload_n 0, 1) := by decide +kernel
theorem d_Mod_conv_226 : decode b_Mod_conv 226 = .ok (.iload 5, 2) := by decide +kernel
theorem d_Mod_conv_228 : decode b_Mod_conv 228 = .ok (.iload 8, 2) := by decide +kernel
theorem d_Mod_conv_230 : decode b_Mod_conv 230 = .ok (.invokevirtual 350, 3) := by decide +kernel
theorem d_Mod_conv_233 : decode b_Mod_conv 233 = .ok (.invokevirtual 402, 3) := by decide +kernel
theorem d_Mod_conv_236 : decode b_Mod_conv 236 = .ok (.iload_n 3, 1) := by decide +kernel
theorem d_Mod_conv_237 : decode b_Mod_conv 237 = .ok (.iconst 1, 1) := by decide +kernel
theorem d_Mod_conv_238 : decode b_Mod_conv 238 = .ok (.iadd, 1) := by decide +kernel
theorem d_Mod_conv_239 : decode b_Mod_conv 239 = .ok (.invokevirtual 464, 3) := by decide +kernel
theorem d_Mod_conv_242 : decode b_Mod_conv 242 = .ok (.ireturn, 1) := by decide +kernel
theorem d_Mod_conv_243 : decode b_Mod_conv 243 = .ok (.iload 7, 2) := by decide +kernel
theorem d_Mod_conv_245 : decode b_Mod_conv 245 = .ok (.bipush 7, 2) := by decide +kernel
theorem d_Mod_conv_247 : decode b_Mod_conv 247 = .ok (.if_icmp .ne 65, 3) := by decide +kernel
theorem d_Mod_conv_250 : decode b_Mod_conv 250 = .ok (.iload 6, 2) := by decide +kernel
theorem d_Mod_conv_252 : decode b_Mod_conv 252 = .ok (.bipush 6, 2) := by decide +kernel
theorem d_Mod_conv_254 : decode b_Mod_conv 254 = .ok (.if_icmp .eq 58, 3) := by decide +kernel
theorem d_Mod_conv_257 : decode b_Mod_conv 257 = .ok (.iload 6, 2) := by decide +kernel
theorem d_Mod_conv_259 : decode b_Mod_conv 259 = .ok (.ifCond .eq 53, 3) := by decide +kernel
theorem d_Mod_conv_262 : decode b_Mod_conv 262 = .ok (.aload_n 0, 1) := by decide +kernel
theorem d_Mod_conv_263 : decode b_Mod_conv 263 = .ok (.aload_n 0, 1) := by decide +kernel
theorem d_Mod_conv_264 : decode b_Mod_conv 264 = .ok (.getfield 58, 3) := by decide +kernel
theorem d_Mod_conv_267 : decode b_Mod_conv 267 = .ok (.iload 5, 2) := by decide +kernel
theorem d_Mod_conv_269 : decode b_Mod_conv 269 = .ok (.iaload, 1) := by decide +kernel
theorem d_Mod_conv_270 : decode b_Mod_conv 270 = .ok (.invokevirtual 468, 3) := by decide +kernel
theorem d_Mod_conv_273 : decode b_Mod_conv 273 = .ok (.istore 8, 2) := by decide +kernel
theorem d_Mod_conv_275 : decode b_Mod_conv 275 = .ok (.aload_n 0, 1) := by decide +kernel
theorem d_Mod_conv_276 : decode b_Mod_conv 276 = .ok (.aload_n 0, 1) := by decide +kernel
theorem d_Mod_conv_277 : decode b_Mod_conv 277 = .ok (.getfield 62, 3) := by decide +kernel
theorem d_Mod_conv_280 : decode b_Mod_conv 280 = .ok (.iload 5, 2) := by decide +kernel
theorem d_Mod_conv_282 : decode b_Mod_conv 282 = .ok (.iaload, 1) := by decide +kernel
theorem d_Mod_conv_283 : decode b_Mod_conv 283 = .ok (.iload 8, 2) := by decide +kernel
theorem d_Mod_conv_285 : decode b_Mod_conv 285 = .ok (.invokevirtual 471, 3) := by decide +kernel
theorem d_Mod_conv_288 : decode b_Mod_conv 288 = .ok (.istore 9, 2) := by decide +kernel
theorem d_Mod_conv_290 : decode b_Mod_conv 290 = .ok (.aload_n 0, 1) := by decide +kernel
theorem d_Mod_conv_291 : decode b_Mod_conv 291 = .ok (.aload_n 0, 1) := by decide +kernel
theorem d_Mod_conv_292 : decode b_Mod_conv 292 = .ok (.aload_n 0, 1) := by decide +kernel
theorem d_Mod_conv_293 : decode b_Mod_conv 293 = .ok (.iload 4, 2) := by decide +kernel
theorem d_Mod_conv_295 : decode b_Mod_conv 295 = .ok (.iload 8, 2) := by decide +kernel
theorem d_Mod_conv_297 : decode b_Mod_conv 297 = .ok (.invokevirtual 350, 3) := by decide +kernel
theorem d_Mod_conv_300 : decode b_Mod_conv 300 = .ok (.invokevirtual 402, 3) := by decide +kernel
theorem d_Mod_conv_303 : decode b_Mod_conv 303 = .ok (.iload 9, 2) := by decide +kernel
theorem d_Mod_conv_305 : decode b_Mod_conv 305 = .ok (.iload_n 3, 1) := by decide +kernel
theorem d_Mod_conv_306 : decode b_Mod_conv 306 = .ok (.iconst 1, 1) := by decide +kernel
theorem d_Mod_conv_307 : decode b_Mod_conv 307 = .ok (.iadd, 1) := by decide +kernel
theorem d_Mod_conv_308 : decode b_Mod_conv 308 = .ok (.invokevirtual 464, 3) := by decide +kernel
theorem d_Mod_conv_311 : decode b_Mod_conv 311 = .ok (.ireturn, 1) := by decide +kernel
theorem d_Mod_conv_312 : decode b_Mod_conv 312 = .ok (.aload_n 0, 1) := by decide +kernel
theorem d_Mod_conv_313 : decode b_Mod_conv 313 = .ok (.iload 4, 2) := by decide +kernel
theorem d_Mod_conv_315 : decode b_Mod_conv 315 = .ok (.iload 5, 2) := by decide +kernel
theorem d_Mod_conv_317 : decode b_Mod_conv 317 = .ok (.iload_n 3, 1) := by decide +kernel
theorem d_Mod_conv_318 : decode b_Mod_conv 318 = .ok (.invokevirtual 474, 3) := by decide +kernel
theorem d_Mod_conv_321 : decode b_Mod_conv 321 = .ok (.ireturn, 1) := by decide +kernel
