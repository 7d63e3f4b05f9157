theorem d_Mod_isFamily_0 : decode b_Mod_isFamily 0 = .ok (.aload_n 0, 1) := by decide +kernel
theorem d_Mod_isFamily_1 : decode b_Mod_isFamily 1 = .ok (.iload_n 1, 1) := by decide +kernel
theorem d_Mod_isFamily_2 : decode b_Mod_isFamily 2 = .ok (.invokevirtual 446, 3) := by decide +kernel
theorem d_Mod_isFamily_5 : decode b_Mod_isFamily 5 = .ok (.istore 5, 2) := by decide +kernel
theorem d_Mod_isFamily_7 : decode b_Mod_isFamily 7 = .ok (.aload_n 0, 1) := by decide +kernel
theorem d_Mod_isFamily_8 : decode b_Mod_isFamily 8 = .ok (.getfield 55, 3) := by decide +kernel
theorem d_Mod_isFamily_11 : decode b_Mod_isFamily 11 = .ok (.iload 5, 2) := by decide +kernel
theorem d_Mod_isFamily_13 : decode b_Mod_isFamily 13 = .ok (.baload, 1) := by decide +kernel
theorem d_Mod_isFamily_14 : decode b_Mod_isFamily 14 = .ok (.iconst 1, 1) := by decide +kernel
theorem d_Mod_isFamily_15 : decode b_Mod_isFamily 15 = .ok (.if_icmp .ne 26, 3) := by decide +kernel
theorem d_Mod_isFamily_18 : decode b_Mod_isFamily 18 = .ok (.aload_n 0, 1) := by decide +kernel
theorem d_Mod_isFamily_19 : decode b_Mod_isFamily 19 = .ok (.getfield 58, 3) := by decide +kernel
theorem d_Mod_isFamily_22 : decode b_Mod_isFamily 22 = .ok (.iload 5, 2) := by decide +kernel
theorem d_Mod_isFamily_24 : decode b_Mod_isFamily 24 = .ok (.iaload, 1) := by decide +kernel
theorem d_Mod_isFamily_25 : decode b_Mod_isFamily 25 = .ok (.iload_n 2, 1) := by decide +kernel
theorem d_Mod_isFamily_26 : decode b_Mod_isFamily 26 = .ok (.if_icmp .ne 15, 3) := by decide +kernel
theorem d_Mod_isFamily_29 : decode b_Mod_isFamily 29 = .ok (.aload_n 0, 1) := by decide +kernel
theorem d_Mod_isFamily_30 : decode b_Mod_isFamily 30 = .ok (.iload_n 1, 1) := by decide +kernel
theorem d_Mod_isFamily_31 : decode b_Mod_isFamily 31 = .ok (.invokevirtual 449, 3) := by decide +kernel
theorem d_Mod_isFamily_34 : decode b_Mod_isFamily 34 = .ok (.iload_n 3, 1) := by decide +kernel
theorem d_Mod_isFamily_35 : decode b_Mod_isFamily 35 = .ok (.iload 4, 2) := by decide +kernel
theorem d_Mod_isFamily_37 : decode b_Mod_isFamily 37 = .ok (.iadd, 1) := by decide +kernel
theorem d_Mod_isFamily_38 : decode b_Mod_isFamily 38 = .ok (.if_icmp .eq 5, 3) := by decide +kernel
theorem d_Mod_isFamily_41 : decode b_Mod_isFamily 41 = .ok (.iconst 0, 1) := by decide +kernel
theorem d_Mod_isFamily_42 : decode b_Mod_isFamily 42 = .ok (.ireturn, 1) := by decide +kernel
theorem d_Mod_isFamily_43 : decode b_Mod_isFamily 43 = .ok (.iconst 0, 1) := by decide +kernel
theorem d_Mod_isFamily_44 : decode b_Mod_isFamily 44 = .ok (.istore 6, 2) := by decide +kernel
theorem d_Mod_isFamily_46 : decode b_Mod_isFamily 46 = .ok (.iload 6, 2) := by decide +kernel
theorem d_Mod_isFamily_48 : decode b_Mod_isFamily 48 = .ok (.iload_n 3, 1) := by decide +kernel
theorem d_Mod_isFamily_49 : decode b_Mod_isFamily 49 = .ok (.if_icmp .ge 52, 3) := by decide +kernel
theorem d_Mod_isFamily_52 : decode b_Mod_isFamily 52 = .ok (.aload_n 0, 1) := by decide +kernel
theorem d_Mod_isFamily_53 : decode b_Mod_isFamily 53 = .ok (.iload_n 1, 1) := by decide +kernel
theorem d_Mod_isFamily_54 : decode b_Mod_isFamily 54 = .ok (.iload_n 3, 1) := by decide +kernel
theorem d_Mod_isFamily_55 : decode b_Mod_isFamily 55 = .ok (.iload 4, 2) := by decide +kernel
theorem d_Mod_isFamily_57 : decode b_Mod_isFamily 57 = .ok (.iadd, 1) := by decide +kernel
theorem d_Mod_isFamily_58 : decode b_Mod_isFamily 58 = .ok (.iload 6, 2) := by decide +kernel
theorem d_Mod_isFamily_60 : decode b_Mod_isFamily 60 = .ok (.invokevirtual 440, 3) := by decide +kernel
theorem d_Mod_isFamily_63 : decode b_Mod_isFamily 63 = .ok (.istore 7, 2) := by decide +kernel
theorem d_Mod_isFamily_65 : decode b_Mod_isFamily 65 = .ok (.aload_n 0, 1) := by decide +kernel
theorem d_Mod_isFamily_66 : decode b_Mod_isFamily 66 = .ok (.getfield 55, 3) := by decide +kernel
theorem d_Mod_isFamily_69 : decode b_Mod_isFamily 69 = .ok (.iload 7, 2) := by decide +kernel
theorem d_Mod_isFamily_71 : decode b_Mod_isFamily 71 = .ok (.baload, 1) := by decide +kernel
theorem d_Mod_isFamily_72 : decode b_Mod_isFamily 72 = .ok (.iconst 3, 1) := by decide +kernel
theorem d_Mod_isFamily_73 : decode b_Mod_isFamily 73 = .ok (.if_icmp .ne 20, 3) := by decide +kernel
theorem d_Mod_isFamily_76 : decode b_Mod_isFamily 76 = .ok (.aload_n 0, 1) := by decide +kernel
theorem d_Mod_isFamily_77 : decode b_Mod_isFamily 77 = .ok (.getfield 58, 3) := by decide +kernel
theorem d_Mod_isFamily_80 : decode b_Mod_isFamily 80 = .ok (.iload 7, 2) := by decide +kernel
theorem d_Mod_isFamily_82 : decode b_Mod_isFamily 82 = .ok (.iaload, 1) := by decide +kernel
theorem d_Mod_isFamily_83 : decode b_Mod_isFamily 83 = .ok (.aload_n 0, 1) := by decide +kernel
theorem d_Mod_isFamily_84 : decode b_Mod_isFamily 84 = .ok (.getfield 208, 3) := by decide +kernel
theorem d_Mod_isFamily_87 : decode b_Mod_isFamily 87 = .ok (.iload 6, 2) := by decide +kernel
theorem d_Mod_isFamily_89 : decode b_Mod_isFamily 89 = .ok (.iaload, 1) := by decide +kernel
theorem d_Mod_isFamily_90 : decode b_Mod_isFamily 90 = .ok (.if_icmp .eq 5, 3) := by decide +kernel
theorem d_Mod_isFamily_93 : decode b_Mod_isFamily 93 = .ok (.iconst 0, 1) := by decide +kernel
theorem d_Mod_isFamily_94 : decode b_Mod_isFamily 94 = .ok (.ireturn, 1) := by decide +kernel
theorem d_Mod_isFamily_95 : decode b_Mod_isFamily 95 = .ok (.iinc 6 1, 3) := by decide +kernel
theorem d_Mod_isFamily_98 : decode b_Mod_isFamily 98 = .ok (.goto (-52), 3) := by decide +kernel
theorem d_Mod_isFamily_101 : decode b_Mod_isFamily 101 = .ok (.iload_n 3, 1) := by decide +kernel
theorem d_Mod_isFamily_102 : decode b_Mod_isFamily 102 = .ok (.istore 6, 2) := by decide +kernel
theorem d_Mod_isFamily_104 : decode b_Mod_isFamily 104 = .ok (.iload 6, 2) := by decide +kernel
theorem d_Mod_isFamily_106 : decode b_Mod_isFamily 106 = .ok (.iload_n 3, 1) := by decide +kernel
theorem d_Mod_isFamily_107 : decode b_Mod_isFamily 107 = .ok (.iload 4, 2) := by decide +kernel
theorem d_Mod_isFamily_109 : decode b_Mod_isFamily 109 = .ok (.iadd, 1) := by decide +kernel
theorem d_Mod_isFamily_110 : decode b_Mod_isFamily 110 = .ok (.if_icmp .ge 30, 3) := by decide +kernel
theorem d_Mod_isFamily_113 : decode b_Mod_isFamily 113 = .ok (.aload_n 0, 1) := by decide +kernel
theorem d_Mod_isFamily_114 : decode b_Mod_isFamily 114 = .ok (.aload_n 0, 1) := by decide +kernel
theorem d_Mod_isFamily_115 : decode b_Mod_isFamily 115 = .ok (.iload_n 1, 1) := by decide +kernel
theorem d_Mod_isFamily_116 : decode b_Mod_isFamily 116 = .ok (.iload_n 3, 1) := by decide +kernel
theorem d_Mod_isFamily_117 : decode b_Mod_isFamily 117 = .ok (.iload 4, 2) := by decide +kernel
theorem d_Mod_isFamily_119 : decode b_Mod_isFamily 119 = .ok (.iadd, 1) := by decide +kernel
theorem d_Mod_isFamily_120 : decode b_Mod_isFamily 120 = .ok (.iload 6, 2) := by decide +kernel
theorem d_Mod_isFamily_122 : decode b_Mod_isFamily 122 = .ok (.invokevirtual 440, 3) := by decide +kernel
theorem d_Mod_isFamily_125 : decode b_Mod_isFamily 125 = .ok (.iload_n 2, 1) := by decide +kernel
theorem d_Mod_isFamily_126 : decode b_Mod_isFamily 126 = .ok (.invokevirtual 367, 3) := by decide +kernel
theorem d_Mod_isFamily_129 : decode b_Mod_isFamily 129 = .ok (.ifCond .eq 5, 3) := by decide +kernel
theorem d_Mod_isFamily_132 : decode b_Mod_isFamily 132 = .ok (.iconst 0, 1) := by decide +kernel
theorem d_Mod_isFamily_133 : decode b_Mod_isFamily 133 = .ok (.ireturn, 1) := by decide +kernel
theorem d_Mod_isFamily_134 : decode b_Mod_isFamily 134 = .ok (.iinc 6 1, 3) := by decide +kernel
theorem d_Mod_isFamily_137 : decode b_Mod_isFamily 137 = .ok (.goto (-33), 3) := by decide +kernel
theorem d_Mod_isFamily_140 : decode b_Mod_isFamily 140 = .ok (.iconst 1, 1) := by decide +kernel
theorem d_Mod_isFamily_141 : decode b_Mod_isFamily 141 = .ok (.ireturn, 1) := by decide +kernel
theorem d_Mod_constructor_0 : decode b_Mod_constructor 0 = .ok (.aload_n 0, 1) := by decide +kernel
theorem d_Mod_constructor_1 : decode b_Mod_constructor 1 = .ok (.aload_n 0, 1) := by decide +kernel
theorem d_Mod_constructor_2 : decode b_Mod_constructor 2 = .ok (.getfield 211, 3) := by decide +kernel
theorem d_Mod_constructor_5 : decode b_Mod_constructor 5 = .ok (.iload_n 3, 1) := by decide +kernel
theorem d_Mod_constructor_6 : decode b_Mod_constructor 6 = .ok (.iaload, 1) := by decide +kernel
theorem d_Mod_constructor_7 : decode b_Mod_constructor 7 = .ok (.iload 5, 2) := by decide +kernel
theorem d_Mod_constructor_9 : decode b_Mod_constructor 9 = .ok (.iload 5, 2) := by decide +kernel
theorem d_Mod_constructor_11 : decode b_Mod_constructor 11 = .ok (.invokevirtual 513, 3) := by decide +kernel
theorem d_Mod_constructor_14 : decode b_Mod_constructor 14 = .ok (.istore 7, 2) := by decide +kernel
theorem d_Mod_constructor_16 : decode b_Mod_constructor 16 = .ok (.aload_n 0, 1) := by decide +kernel
theorem d_Mod_constructor_17 : decode b_Mod_constructor 17 = .ok (.getfield 217, 3) := by decide +kernel
theorem d_Mod_constructor_20 : decode b_Mod_constructor 20 = .ok (.iload_n 3, 1) := by decide +kernel
theorem d_Mod_constructor_21 : decode b_Mod_constructor 21 = .ok (.aload_n 0, 1) := by decide +kernel
theorem d_Mod_constructor_22 : decode b_Mod_constructor 22 = .ok (.getfield 232, 3) := by decide +kernel
theorem d_Mod_constructor_25 : decode b_Mod_constructor 25 = .ok (.iastore, 1) := by decide +kernel
theorem d_Mod_constructor_26 : decode b_Mod_constructor 26 = .ok (.aload_n 0, 1) := by decide +kernel
theorem d_Mod_constructor_27 : decode b_Mod_constructor 27 = .ok (.getfield 244, 3) := by decide +kernel
theorem d_Mod_constructor_30 : decode b_Mod_constructor 30 = .ok (.iload_n 3, 1) := by decide +kernel
theorem d_Mod_constructor_31 : decode b_Mod_constructor 31 = .ok (.iconst 0, 1) := by decide +kernel
theorem d_Mod_constructor_32 : decode b_Mod_constructor 32 = .ok (.iastore, 1) := by decide +kernel
theorem d_Mod_constructor_33 : decode b_Mod_constructor 33 = .ok (.aload_n 0, 1) := by decide +kernel
theorem d_Mod_constructor_34 : decode b_Mod_constructor 34 = .ok (.getfield 128, 3) := by decide +kernel
theorem d_Mod_constructor_37 : decode b_Mod_constructor 37 = .ok (.iload_n 2, 1) := by decide +kernel
theorem d_Mod_constructor_38 : decode b_Mod_constructor 38 = .ok (.iconst 0, 1) := by decide +kernel
theorem d_Mod_constructor_39 : decode b_Mod_constructor 39 = .ok (.iastore, 1) := by decide +kernel
theorem d_Mod_constructor_40 : decode b_Mod_constructor 40 = .ok (.iload 7, 2) := by decide +kernel
theorem d_Mod_constructor_42 : decode b_Mod_constructor 42 = .ok (.istore 8, 2) := by decide +kernel
theorem d_Mod_constructor_44 : decode b_Mod_constructor 44 = .ok (.aload_n 0, 1) := by decide +kernel
theorem d_Mod_constructor_45 : decode b_Mod_constructor 45 = .ok (.getfield 55, 3) := by decide +kernel
theorem d_Mod_constructor_48 : decode b_Mod_constructor 48 = .ok (.iload 8, 2) := by decide +kernel
theorem d_Mod_constructor_50 : decode b_Mod_constructor 50 = .ok (.baload, 1) := by decide +kernel
theorem d_Mod_constructor_51 : decode b_Mod_constructor 51 = .ok (.bipush 6, 2) := by decide +kernel
theorem d_Mod_constructor_53 : decode b_Mod_constructor 53 = .ok (.if_icmp .ne 227, 3) := by decide +kernel
theorem d_Mod_constructor_56 : decode b_Mod_constructor 56 = .ok (.aload_n 0, 1) := by decide +kernel
theorem d_Mod_constructor_57 : decode b_Mod_constructor 57 = .ok (.getfield 58, 3) := by decide +kernel
theorem d_Mod_constructor_60 : decode b_Mod_constructor 60 = .ok (.iload 8, 2) := by decide +kernel
theorem d_Mod_constructor_62 : decode b_Mod_constructor 62 = .ok (.iaload, 1) := by decide +kernel
theorem d_Mod_constructor_63 : decode b_Mod_constructor 63 = .ok (.istore 9, 2) := by decide +kernel
theorem d_Mod_constructor_65 : decode b_Mod_constructor 65 = .ok (.aload_n 0, 1) := by decide +kernel
theorem d_Mod_constructor_66 : decode b_Mod_constructor 66 = .ok (.iload 9, 2) := by decide +kernel
theorem d_Mod_constructor_68 : decode b_Mod_constructor 68 = .ok (.iconst 0, 1) := by decide +kernel
theorem d_Mod_constructor_69 : decode b_Mod_constructor 69 = .ok (.invokevirtual 477, 3) := by decide +kernel
theorem d_Mod_constructor_72 : decode b_Mod_constructor 72 = .ok (.istore 10, 2) := by decide +kernel
theorem d_Mod_constructor_74 : decode b_Mod_constructor 74 = .ok (.iload 4, 2) := by decide +kernel
theorem d_Mod_constructor_76 : decode b_Mod_constructor 76 = .ok (.ifCond .eq 16, 3) := by decide +kernel
theorem d_Mod_constructor_79 : decode b_Mod_constructor 79 = .ok (.iload 10, 2) := by decide +kernel
theorem d_Mod_constructor_81 : decode b_Mod_constructor 81 = .ok (.iload 4, 2) := by decide +kernel
theorem d_Mod_constructor_83 : decode b_Mod_constructor 83 = .ok (.if_icmp .le 9, 3) := by decide +kernel
theorem d_Mod_constructor_86 : decode b_Mod_constructor 86 = .ok (.bipush 7, 2) := by decide +kernel
theorem d_Mod_constructor_88 : decode b_Mod_constructor 88 = .ok (.invokestatic 323, 3) := by decide +kernel
theorem d_Mod_constructor_91 : decode b_Mod_constructor 91 = .ok (.athrow, 1) := by decide +kernel
theorem d_Mod_constructor_92 : decode b_Mod_constructor 92 = .ok (.aload_n 0, 1) := by decide +kernel
theorem d_Mod_constructor_93 : decode b_Mod_constructor 93 = .ok (.iload 9, 2) := by decide +kernel
theorem d_Mod_constructor_95 : decode b_Mod_constructor 95 = .ok (.iload_n 1, 1) := by decide +kernel
theorem d_Mod_constructor_96 : decode b_Mod_constructor 96 = .ok (.invokevirtual 367, 3) := by decide +kernel
theorem d_Mod_constructor_99 : decode b_Mod_constructor 99 = .ok (.istore 11, 2) := by decide +kernel
theorem d_Mod_constructor_101 : decode b_Mod_constructor 101 = .ok (.iload 11, 2) := by decide +kernel
theorem d_Mod_constructor_103 : decode b_Mod_constructor 103 = .ok (.ifCond .eq 82, 3) := by decide +kernel
theorem d_Mod_constructor_106 : decode b_Mod_constructor 106 = .ok (.iload 9, 2) := by decide +kernel
theorem d_Mod_constructor_108 : decode b_Mod_constructor 108 = .ok (.istore 12, 2) := by decide +kernel
theorem d_Mod_constructor_110 : decode b_Mod_constructor 110 = .ok (.aload_n 0, 1) := by decide +kernel
theorem d_Mod_constructor_111 : decode b_Mod_constructor 111 = .ok (.getfield 55, 3) := by decide +kernel
theorem d_Mod_constructor_114 : decode b_Mod_constructor 114 = .ok (.iload 12, 2) := by decide +kernel
theorem d_Mod_constructor_116 : decode b_Mod_constructor 116 = .ok (.baload, 1) := by decide +kernel
theorem d_Mod_constructor_117 : decode b_Mod_constructor 117 = .ok (.bipush 6, 2) := by decide +kernel
theorem d_Mod_constructor_119 : decode b_Mod_constructor 119 = .ok (.if_icmp .ne 36, 3) := by decide +kernel
theorem d_Mod_constructor_122 : decode b_Mod_constructor 122 = .ok (.aload_n 0, 1) := by decide +kernel
theorem d_Mod_constructor_123 : decode b_Mod_constructor 123 = .ok (.aload_n 0, 1) := by decide +kernel
theorem d_Mod_constructor_124 : decode b_Mod_constructor 124 = .ok (.getfield 58, 3) := by decide +kernel
theorem d_Mod_constructor_127 : decode b_Mod_constructor 127 = .ok (.iload 12, 2) := by decide +kernel
theorem d_Mod_constructor_129 : decode b_Mod_constructor 129 = .ok (.iaload, 1) := by decide +kernel
theorem d_Mod_constructor_130 : decode b_Mod_constructor 130 = .ok (.iload_n 1, 1) := by decide +kernel
theorem d_Mod_constructor_131 : decode b_Mod_constructor 131 = .ok (.invokevirtual 367, 3) := by decide +kernel
theorem d_Mod_constructor_134 : decode b_Mod_constructor 134 = .ok (.ifCond .eq 9, 3) := by decide +kernel
theorem d_Mod_constructor_137 : decode b_Mod_constructor 137 = .ok (.bipush 8, 2) := by decide +kernel
theorem d_Mod_constructor_139 : decode b_Mod_constructor 139 = .ok (.invokestatic 323, 3) := by decide +kernel
theorem d_Mod_constructor_142 : decode b_Mod_constructor 142 = .ok (.athrow, 1) := by decide +kernel
theorem d_Mod_constructor_143 : decode b_Mod_constructor 143 = .ok (.aload_n 0, 1) := by decide +kernel
theorem d_Mod_constructor_144 : decode b_Mod_constructor 144 = .ok (.getfield 62, 3) := by decide +kernel
theorem d_Mod_constructor_147 : decode b_Mod_constructor 147 = .ok (.iload 12, 2) := by decide +kernel
theorem d_Mod_constructor_149 : decode b_Mod_constructor 149 = .ok (.iaload, 1) := by decide +kernel
theorem d_Mod_constructor_150 : decode b_Mod_constructor 150 = .ok (.istore 12, 2) := by decide +kernel
theorem d_Mod_constructor_152 : decode b_Mod_constructor 152 = .ok (.goto (-42), 3) := by decide +kernel
theorem d_Mod_constructor_155 : decode b_Mod_constructor 155 = .ok (.aload_n 0, 1) := by decide +kernel
theorem d_Mod_constructor_156 : decode b_Mod_constructor 156 = .ok (.iload 12, 2) := by decide +kernel
theorem d_Mod_constructor_158 : decode b_Mod_constructor 158 = .ok (.iload_n 1, 1) := by decide +kernel
theorem d_Mod_constructor_159 : decode b_Mod_constructor 159 = .ok (.iload 5, 2) := by decide +kernel
theorem d_Mod_constructor_161 : decode b_Mod_constructor 161 = .ok (.iload 6, 2) := by decide +kernel
theorem d_Mod_constructor_163 : decode b_Mod_constructor 163 = .ok (.invokevirtual 547, 3) := by decide +kernel
theorem d_Mod_constructor_166 : decode b_Mod_constructor 166 = .ok (.ifCond .ne 9, 3) := by decide +kernel
theorem d_Mod_constructor_169 : decode b_Mod_constructor 169 = .ok (.bipush 8, 2) := by decide +kernel
theorem d_Mod_constructor_171 : decode b_Mod_constructor 171 = .ok (.invokestatic 323, 3) := by decide +kernel
theorem d_Mod_constructor_174 : decode b_Mod_constructor 174 = .ok (.athrow, 1) := by decide +kernel
theorem d_Mod_constructor_175 : decode b_Mod_constructor 175 = .ok (.aload_n 0, 1) := by decide +kernel
theorem d_Mod_constructor_176 : decode b_Mod_constructor 176 = .ok (.getfield 128, 3) := by decide +kernel
theorem d_Mod_constructor_179 : decode b_Mod_constructor 179 = .ok (.iload_n 2, 1) := by decide +kernel
theorem d_Mod_constructor_180 : decode b_Mod_constructor 180 = .ok (.dup2, 1) := by decide +kernel
theorem d_Mod_constructor_181 : decode b_Mod_constructor 181 = .ok (.iaload, 1) := by decide +kernel
theorem d_Mod_constructor_182 : decode b_Mod_constructor 182 = .ok (.iconst 1, 1) := by decide +kernel
theorem d_Mod_constructor_183 : decode b_Mod_constructor 183 = .ok (.iadd, 1) := by decide +kernel
theorem d_Mod_constructor_184 : decode b_Mod_constructor 184 = .ok (.iastore, 1) := by decide +kernel
theorem d_Mod_constructor_185 : decode b_Mod_constructor 185 = .ok (.aload_n 0, 1) := by decide +kernel
theorem d_Mod_constructor_186 : decode b_Mod_constructor 186 = .ok (.iload 9, 2) := by decide +kernel
theorem d_Mod_constructor_188 : decode b_Mod_constructor 188 = .ok (.invokevirtual 468, 3) := by decide +kernel
theorem d_Mod_constructor_191 : decode b_Mod_constructor 191 = .ok (.istore 12, 2) := by decide +kernel
theorem d_Mod_constructor_193 : decode b_Mod_constructor 193 = .ok (.aload_n 0, 1) := by decide +kernel
theorem d_Mod_constructor_194 : decode b_Mod_constructor 194 = .ok (.getfield 223, 3) := by decide +kernel
theorem d_Mod_constructor_197 : decode b_Mod_constructor 197 = .ok (.aload_n 0, 1) := by decide +kernel
theorem d_Mod_constructor_198 : decode b_Mod_constructor 198 = .ok (.getfield 232, 3) := by decide +kernel
theorem d_Mod_constructor_201 : decode b_Mod_constructor 201 = .ok (.aload_n 0, 1) := by decide +kernel
theorem d_Mod_constructor_202 : decode b_Mod_constructor 202 = .ok (.getfield 58, 3) := by decide +kernel
theorem d_Mod_constructor_205 : decode b_Mod_constructor 205 = .ok (.iload 12, 2) := by decide +kernel
theorem d_Mod_constructor_207 : decode b_Mod_constructor 207 = .ok (.iaload, 1) := by decide +kernel
theorem d_Mod_constructor_208 : decode b_Mod_constructor 208 = .ok (.iastore, 1) := by decide +kernel
theorem d_Mod_constructor_209 : decode b_Mod_constructor 209 = .ok (.aload_n 0, 1) := by decide +kernel
theorem d_Mod_constructor_210 : decode b_Mod_constructor 210 = .ok (.getfield 226, 3) := by decide +kernel
theorem d_Mod_constructor_213 : decode b_Mod_constructor 213 = .ok (.aload_n 0, 1) := by decide +kernel
theorem d_Mod_constructor_214 : decode b_Mod_constructor 214 = .ok (.getfield 232, 3) := by decide +kernel
theorem d_Mod_constructor_217 : decode b_Mod_constructor 217 = .ok (.iload 11, 2) := by decide +kernel
theorem d_Mod_constructor_219 : decode b_Mod_constructor 219 = .ok (.bastore, 1) := by decide +kernel
theorem d_Mod_constructor_220 : decode b_Mod_constructor 220 = .ok (.aload_n 0, 1) := by decide +kernel
theorem d_Mod_constructor_221 : decode b_Mod_constructor 221 = .ok (.getfield 229, 3) := by decide +kernel
theorem d_Mod_constructor_224 : decode b_Mod_constructor 224 = .ok (.aload_n 0, 1) := by decide +kernel
theorem d_Mod_constructor_225 : decode b_Mod_constructor 225 = .ok (.dup, 1) := by decide +kernel
theorem d_Mod_constructor_226 : decode b_Mod_constructor 226 = .ok (.getfield 232, 3) := by decide +kernel
theorem d_Mod_constructor_229 : decode b_Mod_constructor 229 = .ok (.dup_x1, 1) := by decide +kernel
theorem d_Mod_constructor_230 : decode b_Mod_constructor 230 = .ok (.iconst 1, 1) := by decide +kernel
theorem d_Mod_constructor_231 : decode b_Mod_constructor 231 = .ok (.iadd, 1) := by decide +kernel
theorem d_Mod_constructor_232 : decode b_Mod_constructor 232 = .ok (.putfield 232, 3) := by decide +kernel
theorem d_Mod_constructor_235 : decode b_Mod_constructor 235 = .ok (.iload 10, 2) := by decide +kernel
theorem d_Mod_constructor_237 : decode b_Mod_constructor 237 = .ok (.ifCond .ne 7, 3) := by decide +kernel
theorem d_Mod_constructor_240 : decode b_Mod_constructor 240 = .ok (.iconst 1, 1) := by decide +kernel
theorem d_Mod_constructor_241 : decode b_Mod_constructor 241 = .ok (.goto 4, 3) := by decide +kernel
theorem d_Mod_constructor_244 : decode b_Mod_constructor 244 = .ok (.iconst 0, 1) := by decide +kernel
theorem d_Mod_constructor_245 : decode b_Mod_constructor 245 = .ok (.bastore, 1) := by decide +kernel
theorem d_Mod_constructor_246 : decode b_Mod_constructor 246 = .ok (.aload_n 0, 1) := by decide +kernel
theorem d_Mod_constructor_247 : decode b_Mod_constructor 247 = .ok (.aload_n 0, 1) := by decide +kernel
theorem d_Mod_constructor_248 : decode b_Mod_constructor 248 = .ok (.getfield 62, 3) := by decide +kernel
theorem d_Mod_constructor_251 : decode b_Mod_constructor 251 = .ok (.iload 8, 2) := by decide +kernel
theorem d_Mod_constructor_253 : decode b_Mod_constructor 253 = .ok (.iaload, 1) := by decide +kernel
theorem d_Mod_constructor_254 : decode b_Mod_constructor 254 = .ok (.iload 12, 2) := by decide +kernel
theorem d_Mod_constructor_256 : decode b_Mod_constructor 256 = .ok (.invokevirtual 471, 3) := by decide +kernel
theorem d_Mod_constructor_259 : decode b_Mod_constructor 259 = .ok (.istore 8, 2) := by decide +kernel
theorem d_Mod_constructor_261 : decode b_Mod_constructor 261 = .ok (.aload_n 0, 1) := by decide +kernel
theorem d_Mod_constructor_262 : decode b_Mod_constructor 262 = .ok (.getfield 244, 3) := by decide +kernel
theorem d_Mod_constructor_265 : decode b_Mod_constructor 265 = .ok (.iload_n 3, 1) := by decide +kernel
theorem d_Mod_constructor_266 : decode b_Mod_constructor 266 = .ok (.dup2, 1) := by decide +kernel
theorem d_Mod_constructor_267 : decode b_Mod_constructor 267 = .ok (.iaload, 1) := by decide +kernel
theorem d_Mod_constructor_268 : decode b_Mod_constructor 268 = .ok (.aload_n 0, 1) := by decide +kernel
theorem d_Mod_constructor_269 : decode b_Mod_constructor 269 = .ok (.getfield 68, 3) := by decide +kernel
theorem d_Mod_constructor_272 : decode b_Mod_constructor 272 = .ok (.iload 8, 2) := by decide +kernel
theorem d_Mod_constructor_274 : decode b_Mod_constructor 274 = .ok (.iaload, 1) := by decide +kernel
theorem d_Mod_constructor_275 : decode b_Mod_constructor 275 = .ok (.iadd, 1) := by decide +kernel
theorem d_Mod_constructor_276 : decode b_Mod_constructor 276 = .ok (.iastore, 1) := by decide +kernel
theorem d_Mod_constructor_277 : decode b_Mod_constructor 277 = .ok (.goto (-233), 3) := by decide +kernel
theorem d_Mod_constructor_280 : decode b_Mod_constructor 280 = .ok (.aload_n 0, 1) := by decide +kernel
theorem d_Mod_constructor_281 : decode b_Mod_constructor 281 = .ok (.iload 8, 2) := by decide +kernel
theorem d_Mod_constructor_283 : decode b_Mod_constructor 283 = .ok (.iload_n 1, 1) := by decide +kernel
theorem d_Mod_constructor_284 : decode b_Mod_constructor 284 = .ok (.iload 5, 2) := by decide +kernel
theorem d_Mod_constructor_286 : decode b_Mod_constructor 286 = .ok (.iload 6, 2) := by decide +kernel
theorem d_Mod_constructor_288 : decode b_Mod_constructor 288 = .ok (.invokevirtual 547, 3) := by decide +kernel
theorem d_Mod_constructor_291 : decode b_Mod_constructor 291 = .ok (.ifCond .ne 9, 3) := by decide +kernel
theorem d_Mod_constructor_294 : decode b_Mod_constructor 294 = .ok (.bipush 8, 2) := by decide +kernel
theorem d_Mod_constructor_296 : decode b_Mod_constructor 296 = .ok (.invokestatic 323, 3) := by decide +kernel
theorem d_Mod_constructor_299 : decode b_Mod_constructor 299 = .ok (.athrow, 1) := by decide +kernel
theorem d_Mod_constructor_300 : decode b_Mod_constructor 300 = .ok (.aload_n 0, 1) := by decide +kernel
theorem d_Mod_constructor_301 : decode b_Mod_constructor 301 = .ok (.getfield 220, 3) := by decide +kernel
theorem d_Mod_constructor_304 : decode b_Mod_constructor 304 = .ok (.iload_n 3, 1) := by decide +kernel
theorem d_Mod_constructor_305 : decode b_Mod_constructor 305 = .ok (.iload 8, 2) := by decide +kernel
theorem d_Mod_constructor_307 : decode b_Mod_constructor 307 = .ok (.iastore, 1) := by decide +kernel
theorem d_Mod_constructor_308 : decode b_Mod_constructor 308 = .ok (.aload_n 0, 1) := by decide +kernel
theorem d_Mod_constructor_309 : decode b_Mod_constructor 309 = .ok (.getfield 214, 3) := by decide +kernel
theorem d_Mod_constructor_312 : decode b_Mod_constructor 312 = .ok (.iload_n 3, 1) := by decide +kernel
theorem d_Mod_constructor_313 : decode b_Mod_constructor 313 = .ok (.aload_n 0, 1) := by decide +kernel
theorem d_Mod_constructor_314 : decode b_Mod_constructor 314 = .ok (.aload_n 0, 1) := by decide +kernel
theorem d_Mod_constructor_315 : decode b_Mod_constructor 315 = .ok (.iload 5, 2) := by decide +kernel
theorem d_Mod_constructor_317 : decode b_Mod_constructor 317 = .ok (.aload_n 0, 1) := by decide +kernel
theorem d_Mod_constructor_318 : decode b_Mod_constructor 318 = .ok (.getfield 211, 3) := by decide +kernel
theorem d_Mod_constructor_321 : decode b_Mod_constructor 321 = .ok (.iload_n 3, 1) := by decide +kernel
theorem d_Mod_constructor_322 : decode b_Mod_constructor 322 = .ok (.iaload, 1) := by decide +kernel
theorem d_Mod_constructor_323 : decode b_Mod_constructor 323 = .ok (.invokevirtual 534, 3) := by decide +kernel
theorem d_Mod_constructor_326 : decode b_Mod_constructor 326 = .ok (.iconst 0, 1) := by decide +kernel
theorem d_Mod_constructor_327 : decode b_Mod_constructor 327 = .ok (.iconst 0, 1) := by decide +kernel
theorem d_Mod_constructor_328 : decode b_Mod_constructor 328 = .ok (.invokevirtual 513, 3) := by decide +kernel
theorem d_Mod_constructor_331 : decode b_Mod_constructor 331 = .ok (.iastore, 1) := by decide +kernel
theorem d_Mod_constructor_332 : decode b_Mod_constructor 332 = .ok (.aload_n 0, 1) := by decide +kernel
theorem d_Mod_constructor_333 : decode b_Mod_constructor 333 = .ok (.getfield 74, 3) := by decide +kernel
theorem d_Mod_constructor_336 : decode b_Mod_constructor 336 = .ok (.istore 9, 2) := by decide +kernel
theorem d_Mod_constructor_338 : decode b_Mod_constructor 338 = .ok (.aload_n 0, 1) := by decide +kernel
theorem d_Mod_constructor_339 : decode b_Mod_constructor 339 = .ok (.aload_n 0, 1) := by decide +kernel
theorem d_Mod_constructor_340 : decode b_Mod_constructor 340 = .ok (.getfield 214, 3) := by decide +kernel
theorem d_Mod_constructor_343 : decode b_Mod_constructor 343 = .ok (.iload_n 3, 1) := by decide +kernel
theorem d_Mod_constructor_344 : decode b_Mod_constructor 344 = .ok (.iaload, 1) := by decide +kernel
theorem d_Mod_constructor_345 : decode b_Mod_constructor 345 = .ok (.iconst 0, 1) := by decide +kernel
theorem d_Mod_constructor_346 : decode b_Mod_constructor 346 = .ok (.invokevirtual 477, 3) := by decide +kernel
theorem d_Mod_constructor_349 : decode b_Mod_constructor 349 = .ok (.pop, 1) := by decide +kernel
theorem d_Mod_constructor_350 : decode b_Mod_constructor 350 = .ok (.aload_n 0, 1) := by decide +kernel
theorem d_Mod_constructor_351 : decode b_Mod_constructor 351 = .ok (.iload 9, 2) := by decide +kernel
theorem d_Mod_constructor_353 : decode b_Mod_constructor 353 = .ok (.putfield 74, 3) := by decide +kernel
theorem d_Mod_constructor_356 : decode b_Mod_constructor 356 = .ok (.aload_n 0, 1) := by decide +kernel
theorem d_Mod_constructor_357 : decode b_Mod_constructor 357 = .ok (.getfield 107, 3) := by decide +kernel
theorem d_Mod_constructor_360 : decode b_Mod_constructor 360 = .ok (.iload_n 2, 1) := by decide +kernel
theorem d_Mod_constructor_361 : decode b_Mod_constructor 361 = .ok (.iconst 4, 1) := by decide +kernel
theorem d_Mod_constructor_362 : decode b_Mod_constructor 362 = .ok (.iastore, 1) := by decide +kernel
theorem d_Mod_constructor_363 : decode b_Mod_constructor 363 = .ok (.aload_n 0, 1) := by decide +kernel
theorem d_Mod_constructor_364 : decode b_Mod_constructor 364 = .ok (.getfield 140, 3) := by decide +kernel
theorem d_Mod_constructor_367 : decode b_Mod_constructor 367 = .ok (.iload_n 2, 1) := by decide +kernel
theorem d_Mod_constructor_368 : decode b_Mod_constructor 368 = .ok (.iload_n 1, 1) := by decide +kernel
theorem d_Mod_constructor_369 : decode b_Mod_constructor 369 = .ok (.iastore, 1) := by decide +kernel
theorem d_Mod_constructor_370 : decode b_Mod_constructor 370 = .ok (.aload_n 0, 1) := by decide +kernel
theorem d_Mod_constructor_371 : decode b_Mod_constructor 371 = .ok (.getfield 125, 3) := by decide +kernel
theorem d_Mod_constructor_374 : decode b_Mod_constructor 374 = .ok (.iload_n 2, 1) := by decide +kernel
theorem d_Mod_constructor_375 : decode b_Mod_constructor 375 = .ok (.aload_n 0, 1) := by decide +kernel
theorem d_Mod_constructor_376 : decode b_Mod_constructor 376 = .ok (.getfield 232, 3) := by decide +kernel
theorem d_Mod_constructor_379 : decode b_Mod_constructor 379 = .ok (.aload_n 0, 1) := by decide +kernel
theorem d_Mod_constructor_380 : decode b_Mod_constructor 380 = .ok (.getfield 217, 3) := by decide +kernel
theorem d_Mod_constructor_383 : decode b_Mod_constructor 383 = .ok (.iload_n 3, 1) := by decide +kernel
theorem d_Mod_constructor_384 : decode b_Mod_constructor 384 = .ok (.iaload, 1) := by decide +kernel
theorem d_Mod_constructor_385 : decode b_Mod_constructor 385 = .ok (.isub, 1) := by decide +kernel
theorem d_Mod_constructor_386 : decode b_Mod_constructor 386 = .ok (.iastore, 1) := by decide +kernel
theorem d_Mod_constructor_387 : decode b_Mod_constructor 387 = .ok (.aload_n 0, 1) := by decide +kernel
theorem d_Mod_constructor_388 : decode b_Mod_constructor 388 = .ok (.getfield 116, 3) := by decide +kernel
theorem d_Mod_constructor_391 : decode b_Mod_constructor 391 = .ok (.iload_n 2, 1) := by decide +kernel
theorem d_Mod_constructor_392 : decode b_Mod_constructor 392 = .ok (.iload 5, 2) := by decide +kernel
theorem d_Mod_constructor_394 : decode b_Mod_constructor 394 = .ok (.iastore, 1) := by decide +kernel
theorem d_Mod_constructor_395 : decode b_Mod_constructor 395 = .ok (.aload_n 0, 1) := by decide +kernel
theorem d_Mod_constructor_396 : decode b_Mod_constructor 396 = .ok (.getfield 119, 3) := by decide +kernel
theorem d_Mod_constructor_399 : decode b_Mod_constructor 399 = .ok (.iload_n 2, 1) := by decide +kernel
theorem d_Mod_constructor_400 : decode b_Mod_constructor 400 = .ok (.iconst 0, 1) := by decide +kernel
theorem d_Mod_constructor_401 : decode b_Mod_constructor 401 = .ok (.iastore, 1) := by decide +kernel
theorem d_Mod_constructor_402 : decode b_Mod_constructor 402 = .ok (.aload_n 0, 1) := by decide +kernel
theorem d_Mod_constructor_403 : decode b_Mod_constructor 403 = .ok (.getfield 122, 3) := by decide +kernel
theorem d_Mod_constructor_406 : decode b_Mod_constructor 406 = .ok (.iload_n 2, 1) := by decide +kernel
theorem d_Mod_constructor_407 : decode b_Mod_constructor 407 = .ok (.iconst 0, 1) := by decide +kernel
theorem d_Mod_constructor_408 : decode b_Mod_constructor 408 = .ok (.iastore, 1) := by decide +kernel
theorem d_Mod_constructor_409 : decode b_Mod_constructor 409 = .ok (.aload_n 0, 1) := by decide +kernel
theorem d_Mod_constructor_410 : decode b_Mod_constructor 410 = .ok (.getfield 113, 3) := by decide +kernel
theorem d_Mod_constructor_413 : decode b_Mod_constructor 413 = .ok (.iload_n 2, 1) := by decide +kernel
theorem d_Mod_constructor_414 : decode b_Mod_constructor 414 = .ok (.iconst (-1), 1) := by decide +kernel
theorem d_Mod_constructor_415 : decode b_Mod_constructor 415 = .ok (.iastore, 1) := by decide +kernel
theorem d_Mod_constructor_416 : decode b_Mod_constructor 416 = .ok (.return_, 1) := by decide +kernel
theorem d_Mod_heads_0 : decode b_Mod_heads 0 = .ok (.iconst 0, 1) := by decide +kernel
theorem d_Mod_heads_1 : decode b_Mod_heads 1 = .ok (.istore 4, 2) := by decide +kernel
theorem d_Mod_heads_3 : decode b_Mod_heads 3 = .ok (.iload 4, 2) := by decide +kernel
theorem d_Mod_heads_5 : decode b_Mod_heads 5 = .ok (.iload_n 1, 1) := by decide +kernel
theorem d_Mod_heads_6 : decode b_Mod_heads 6 = .ok (.if_icmp .ge 32, 3) := by decide +kernel
theorem d_Mod_heads_9 : decode b_Mod_heads 9 = .ok (.aload_n 0, 1) := by decide +kernel
theorem d_Mod_heads_10 : decode b_Mod_heads 10 = .ok (.getfield 235, 3) := by decide +kernel
theorem d_Mod_heads_13 : decode b_Mod_heads 13 = .ok (.aload_n 0, 1) := by decide +kernel
theorem d_Mod_heads_14 : decode b_Mod_heads 14 = .ok (.dup, 1) := by decide +kernel
theorem d_Mod_heads_15 : decode b_Mod_heads 15 = .ok (.getfield 238, 3) := by decide +kernel
theorem d_Mod_heads_18 : decode b_Mod_heads 18 = .ok (.dup_x1, 1) := by decide +kernel
theorem d_Mod_heads_19 : decode b_Mod_heads 19 = .ok (.iconst 1, 1) := by decide +kernel
theorem d_Mod_heads_20 : decode b_Mod_heads 20 = .ok (.iadd, 1) := by decide +kernel
theorem d_Mod_heads_21 : decode b_Mod_heads 21 = .ok (.putfield 238, 3) := by decide +kernel
theorem d_Mod_heads_24 : decode b_Mod_heads 24 = .ok (.aload_n 0, 1) := by decide +kernel
theorem d_Mod_heads_25 : decode b_Mod_heads 25 = .ok (.getfield 208, 3) := by decide +kernel
theorem d_Mod_heads_28 : decode b_Mod_heads 28 = .ok (.iload 4, 2) := by decide +kernel
theorem d_Mod_heads_30 : decode b_Mod_heads 30 = .ok (.iaload, 1) := by decide +kernel
theorem d_Mod_heads_31 : decode b_Mod_heads 31 = .ok (.iastore, 1) := by decide +kernel
theorem d_Mod_heads_32 : decode b_Mod_heads 32 = .ok (.iinc 4 1, 3) := by decide +kernel
theorem d_Mod_heads_35 : decode b_Mod_heads 35 = .ok (.goto (-32), 3) := by decide +kernel
theorem d_Mod_heads_38 : decode b_Mod_heads 38 = .ok (.aload_n 0, 1) := by decide +kernel
theorem d_Mod_heads_39 : decode b_Mod_heads 39 = .ok (.getfield 235, 3) := by decide +kernel
theorem d_Mod_heads_42 : decode b_Mod_heads 42 = .ok (.aload_n 0, 1) := by decide +kernel
theorem d_Mod_heads_43 : decode b_Mod_heads 43 = .ok (.dup, 1) := by decide +kernel
theorem d_Mod_heads_44 : decode b_Mod_heads 44 = .ok (.getfield 238, 3) := by decide +kernel
theorem d_Mod_heads_47 : decode b_Mod_heads 47 = .ok (.dup_x1, 1) := by decide +kernel
theorem d_Mod_heads_48 : decode b_Mod_heads 48 = .ok (.iconst 1, 1) := by decide +kernel
theorem d_Mod_heads_49 : decode b_Mod_heads 49 = .ok (.iadd, 1) := by decide +kernel
theorem d_Mod_heads_50 : decode b_Mod_heads 50 = .ok (.putfield 238, 3) := by decide +kernel
theorem d_Mod_heads_53 : decode b_Mod_heads 53 = .ok (.aload_n 0, 1) := by decide +kernel
theorem d_Mod_heads_54 : decode b_Mod_heads 54 = .ok (.getfield 58, 3) := by decide +kernel
theorem d_Mod_heads_57 : decode b_Mod_heads 57 = .ok (.iload_n 2, 1) := by decide +kernel
theorem d_Mod_heads_58 : decode b_Mod_heads 58 = .ok (.iaload, 1) := by decide +kernel
theorem d_Mod_heads_59 : decode b_Mod_heads 59 = .ok (.iastore, 1) := by decide +kernel
theorem d_Mod_heads_60 : decode b_Mod_heads 60 = .ok (.iconst 0, 1) := by decide +kernel
theorem d_Mod_heads_61 : decode b_Mod_heads 61 = .ok (.istore 4, 2) := by decide +kernel
theorem d_Mod_heads_63 : decode b_Mod_heads 63 = .ok (.iload 4, 2) := by decide +kernel
theorem d_Mod_heads_65 : decode b_Mod_heads 65 = .ok (.iload_n 3, 1) := by decide +kernel
theorem d_Mod_heads_66 : decode b_Mod_heads 66 = .ok (.if_icmp .ge 32, 3) := by decide +kernel
theorem d_Mod_heads_69 : decode b_Mod_heads 69 = .ok (.aload_n 0, 1) := by decide +kernel
theorem d_Mod_heads_70 : decode b_Mod_heads 70 = .ok (.getfield 235, 3) := by decide +kernel
theorem d_Mod_heads_73 : decode b_Mod_heads 73 = .ok (.aload_n 0, 1) := by decide +kernel
theorem d_Mod_heads_74 : decode b_Mod_heads 74 = .ok (.dup, 1) := by decide +kernel
theorem d_Mod_heads_75 : decode b_Mod_heads 75 = .ok (.getfield 238, 3) := by decide +kernel
theorem d_Mod_heads_78 : decode b_Mod_heads 78 = .ok (.dup_x1, 1) := by decide +kernel
theorem d_Mod_heads_79 : decode b_Mod_heads 79 = .ok (.iconst 1, 1) := by decide +kernel
theorem d_Mod_heads_80 : decode b_Mod_heads 80 = .ok (.iadd, 1) := by decide +kernel
theorem d_Mod_heads_81 : decode b_Mod_heads 81 = .ok (.putfield 238, 3) := by decide +kernel
theorem d_Mod_heads_84 : decode b_Mod_heads 84 = .ok (.aload_n 0, 1) := by decide +kernel
theorem d_Mod_heads_85 : decode b_Mod_heads 85 = .ok (.getfield 241, 3) := by decide +kernel
theorem d_Mod_heads_88 : decode b_Mod_heads 88 = .ok (.iload 4, 2) := by decide +kernel
theorem d_Mod_heads_90 : decode b_Mod_heads 90 = .ok (.iaload, 1) := by decide +kernel
theorem d_Mod_heads_91 : decode b_Mod_heads 91 = .ok (.iastore, 1) := by decide +kernel
theorem d_Mod_heads_92 : decode b_Mod_heads 92 = .ok (.iinc 4 1, 3) := by decide +kernel
theorem d_Mod_heads_95 : decode b_Mod_heads 95 = .ok (.goto (-32), 3) := by decide +kernel
theorem d_Mod_heads_98 : decode b_Mod_heads 98 = .ok (.return_, 1) := by decide +kernel
theorem d_Mod_ruleOf_0 : decode b_Mod_ruleOf 0 = .ok (.aload_n 0, 1) := by decide +kernel
theorem d_Mod_ruleOf_1 : decode b_Mod_ruleOf 1 = .ok (.iconst 0, 1) := by decide +kernel
theorem d_Mod_ruleOf_2 : decode b_Mod_ruleOf 2 = .ok (.putfield 238, 3) := by decide +kernel
theorem d_Mod_ruleOf_5 : decode b_Mod_ruleOf 5 = .ok (.aload_n 0, 1) := by decide +kernel
theorem d_Mod_ruleOf_6 : decode b_Mod_ruleOf 6 = .ok (.iload_n 3, 1) := by decide +kernel
theorem d_Mod_ruleOf_7 : decode b_Mod_ruleOf 7 = .ok (.iload 5, 2) := by decide +kernel
theorem d_Mod_ruleOf_9 : decode b_Mod_ruleOf 9 = .ok (.iload 6, 2) := by decide +kernel
theorem d_Mod_ruleOf_11 : decode b_Mod_ruleOf 11 = .ok (.invokevirtual 564, 3) := by decide +kernel
theorem d_Mod_ruleOf_14 : decode b_Mod_ruleOf 14 = .ok (.aload_n 0, 1) := by decide +kernel
theorem d_Mod_ruleOf_15 : decode b_Mod_ruleOf 15 = .ok (.getfield 217, 3) := by decide +kernel
theorem d_Mod_ruleOf_18 : decode b_Mod_ruleOf 18 = .ok (.iload_n 2, 1) := by decide +kernel
theorem d_Mod_ruleOf_19 : decode b_Mod_ruleOf 19 = .ok (.iaload, 1) := by decide +kernel
theorem d_Mod_ruleOf_20 : decode b_Mod_ruleOf 20 = .ok (.istore 7, 2) := by decide +kernel
theorem d_Mod_ruleOf_22 : decode b_Mod_ruleOf 22 = .ok (.aload_n 0, 1) := by decide +kernel
theorem d_Mod_ruleOf_23 : decode b_Mod_ruleOf 23 = .ok (.getfield 125, 3) := by decide +kernel
theorem d_Mod_ruleOf_26 : decode b_Mod_ruleOf 26 = .ok (.iload_n 1, 1) := by decide +kernel
theorem d_Mod_ruleOf_27 : decode b_Mod_ruleOf 27 = .ok (.iconst 1, 1) := by decide +kernel
theorem d_Mod_ruleOf_28 : decode b_Mod_ruleOf 28 = .ok (.iadd, 1) := by decide +kernel
theorem d_Mod_ruleOf_29 : decode b_Mod_ruleOf 29 = .ok (.iload_n 2, 1) := by decide +kernel
theorem d_Mod_ruleOf_30 : decode b_Mod_ruleOf 30 = .ok (.iadd, 1) := by decide +kernel
theorem d_Mod_ruleOf_31 : decode b_Mod_ruleOf 31 = .ok (.iaload, 1) := by decide +kernel
theorem d_Mod_ruleOf_32 : decode b_Mod_ruleOf 32 = .ok (.istore 8, 2) := by decide +kernel
theorem d_Mod_ruleOf_34 : decode b_Mod_ruleOf 34 = .ok (.iconst 0, 1) := by decide +kernel
theorem d_Mod_ruleOf_35 : decode b_Mod_ruleOf 35 = .ok (.istore 9, 2) := by decide +kernel
theorem d_Mod_ruleOf_37 : decode b_Mod_ruleOf 37 = .ok (.iload 9, 2) := by decide +kernel
theorem d_Mod_ruleOf_39 : decode b_Mod_ruleOf 39 = .ok (.iload 8, 2) := by decide +kernel
theorem d_Mod_ruleOf_41 : decode b_Mod_ruleOf 41 = .ok (.if_icmp .ge 35, 3) := by decide +kernel
theorem d_Mod_ruleOf_44 : decode b_Mod_ruleOf 44 = .ok (.aload_n 0, 1) := by decide +kernel
theorem d_Mod_ruleOf_45 : decode b_Mod_ruleOf 45 = .ok (.getfield 235, 3) := by decide +kernel
theorem d_Mod_ruleOf_48 : decode b_Mod_ruleOf 48 = .ok (.aload_n 0, 1) := by decide +kernel
theorem d_Mod_ruleOf_49 : decode b_Mod_ruleOf 49 = .ok (.dup, 1) := by decide +kernel
theorem d_Mod_ruleOf_50 : decode b_Mod_ruleOf 50 = .ok (.getfield 238, 3) := by decide +kernel
theorem d_Mod_ruleOf_53 : decode b_Mod_ruleOf 53 = .ok (.dup_x1, 1) := by decide +kernel
theorem d_Mod_ruleOf_54 : decode b_Mod_ruleOf 54 = .ok (.iconst 1, 1) := by decide +kernel
theorem d_Mod_ruleOf_55 : decode b_Mod_ruleOf 55 = .ok (.iadd, 1) := by decide +kernel
theorem d_Mod_ruleOf_56 : decode b_Mod_ruleOf 56 = .ok (.putfield 238, 3) := by decide +kernel
theorem d_Mod_ruleOf_59 : decode b_Mod_ruleOf 59 = .ok (.aload_n 0, 1) := by decide +kernel
theorem d_Mod_ruleOf_60 : decode b_Mod_ruleOf 60 = .ok (.getfield 223, 3) := by decide +kernel
theorem d_Mod_ruleOf_63 : decode b_Mod_ruleOf 63 = .ok (.iload 7, 2) := by decide +kernel
theorem d_Mod_ruleOf_65 : decode b_Mod_ruleOf 65 = .ok (.iload 9, 2) := by decide +kernel
theorem d_Mod_ruleOf_67 : decode b_Mod_ruleOf 67 = .ok (.iadd, 1) := by decide +kernel
theorem d_Mod_ruleOf_68 : decode b_Mod_ruleOf 68 = .ok (.iaload, 1) := by decide +kernel
theorem d_Mod_ruleOf_69 : decode b_Mod_ruleOf 69 = .ok (.iastore, 1) := by decide +kernel
theorem d_Mod_ruleOf_70 : decode b_Mod_ruleOf 70 = .ok (.iinc 9 1, 3) := by decide +kernel
theorem d_Mod_ruleOf_73 : decode b_Mod_ruleOf 73 = .ok (.goto (-36), 3) := by decide +kernel
theorem d_Mod_ruleOf_76 : decode b_Mod_ruleOf 76 = .ok (.aload_n 0, 1) := by decide +kernel
theorem d_Mod_ruleOf_77 : decode b_Mod_ruleOf 77 = .ok (.aload_n 0, 1) := by decide +kernel
theorem d_Mod_ruleOf_78 : decode b_Mod_ruleOf 78 = .ok (.getfield 241, 3) := by decide +kernel
theorem d_Mod_ruleOf_81 : decode b_Mod_ruleOf 81 = .ok (.iload_n 2, 1) := by decide +kernel
theorem d_Mod_ruleOf_82 : decode b_Mod_ruleOf 82 = .ok (.iaload, 1) := by decide +kernel
theorem d_Mod_ruleOf_83 : decode b_Mod_ruleOf 83 = .ok (.invokevirtual 353, 3) := by decide +kernel
theorem d_Mod_ruleOf_86 : decode b_Mod_ruleOf 86 = .ok (.istore 9, 2) := by decide +kernel
theorem d_Mod_ruleOf_88 : decode b_Mod_ruleOf 88 = .ok (.iconst 0, 1) := by decide +kernel
theorem d_Mod_ruleOf_89 : decode b_Mod_ruleOf 89 = .ok (.istore 10, 2) := by decide +kernel
theorem d_Mod_ruleOf_91 : decode b_Mod_ruleOf 91 = .ok (.iload 10, 2) := by decide +kernel
theorem d_Mod_ruleOf_93 : decode b_Mod_ruleOf 93 = .ok (.iload 8, 2) := by decide +kernel
theorem d_Mod_ruleOf_95 : decode b_Mod_ruleOf 95 = .ok (.if_icmp .ge 31, 3) := by decide +kernel
theorem d_Mod_ruleOf_98 : decode b_Mod_ruleOf 98 = .ok (.aload_n 0, 1) := by decide +kernel
theorem d_Mod_ruleOf_99 : decode b_Mod_ruleOf 99 = .ok (.iload 9, 2) := by decide +kernel
theorem d_Mod_ruleOf_101 : decode b_Mod_ruleOf 101 = .ok (.aload_n 0, 1) := by decide +kernel
theorem d_Mod_ruleOf_102 : decode b_Mod_ruleOf 102 = .ok (.aload_n 0, 1) := by decide +kernel
theorem d_Mod_ruleOf_103 : decode b_Mod_ruleOf 103 = .ok (.getfield 223, 3) := by decide +kernel
theorem d_Mod_ruleOf_106 : decode b_Mod_ruleOf 106 = .ok (.iload 7, 2) := by decide +kernel
theorem d_Mod_ruleOf_108 : decode b_Mod_ruleOf 108 = .ok (.iload 10, 2) := by decide +kernel
theorem d_Mod_ruleOf_110 : decode b_Mod_ruleOf 110 = .ok (.iadd, 1) := by decide +kernel
theorem d_Mod_ruleOf_111 : decode b_Mod_ruleOf 111 = .ok (.iaload, 1) := by decide +kernel
theorem d_Mod_ruleOf_112 : decode b_Mod_ruleOf 112 = .ok (.invokevirtual 353, 3) := by decide +kernel
theorem d_Mod_ruleOf_115 : decode b_Mod_ruleOf 115 = .ok (.invokevirtual 350, 3) := by decide +kernel
theorem d_Mod_ruleOf_118 : decode b_Mod_ruleOf 118 = .ok (.istore 9, 2) := by decide +kernel
theorem d_Mod_ruleOf_120 : decode b_Mod_ruleOf 120 = .ok (.iinc 10 1, 3) := by decide +kernel
theorem d_Mod_ruleOf_123 : decode b_Mod_ruleOf 123 = .ok (.goto (-32), 3) := by decide +kernel
theorem d_Mod_ruleOf_126 : decode b_Mod_ruleOf 126 = .ok (.iconst 0, 1) := by decide +kernel
theorem d_Mod_ruleOf_127 : decode b_Mod_ruleOf 127 = .ok (.istore 10, 2) := by decide +kernel
theorem d_Mod_ruleOf_129 : decode b_Mod_ruleOf 129 = .ok (.iload 10, 2) := by decide +kernel
theorem d_Mod_ruleOf_131 : decode b_Mod_ruleOf 131 = .ok (.iload 8, 2) := by decide +kernel
theorem d_Mod_ruleOf_133 : decode b_Mod_ruleOf 133 = .ok (.if_icmp .ge 183, 3) := by decide +kernel
theorem d_Mod_ruleOf_136 : decode b_Mod_ruleOf 136 = .ok (.aload_n 0, 1) := by decide +kernel
theorem d_Mod_ruleOf_137 : decode b_Mod_ruleOf 137 = .ok (.getfield 226, 3) := by decide +kernel
theorem d_Mod_ruleOf_140 : decode b_Mod_ruleOf 140 = .ok (.iload 7, 2) := by decide +kernel
theorem d_Mod_ruleOf_142 : decode b_Mod_ruleOf 142 = .ok (.iload 10, 2) := by decide +kernel
theorem d_Mod_ruleOf_144 : decode b_Mod_ruleOf 144 = .ok (.iadd, 1) := by decide +kernel
theorem d_Mod_ruleOf_145 : decode b_Mod_ruleOf 145 = .ok (.baload, 1) := by decide +kernel
theorem d_Mod_ruleOf_146 : decode b_Mod_ruleOf 146 = .ok (.ifCond .ne 6, 3) := by decide +kernel
theorem d_Mod_ruleOf_149 : decode b_Mod_ruleOf 149 = .ok (.goto 161, 3) := by decide +kernel
theorem d_Mod_ruleOf_152 : decode b_Mod_ruleOf 152 = .ok (.aload_n 0, 1) := by decide +kernel
theorem d_Mod_ruleOf_153 : decode b_Mod_ruleOf 153 = .ok (.getfield 238, 3) := by decide +kernel
theorem d_Mod_ruleOf_156 : decode b_Mod_ruleOf 156 = .ok (.istore 11, 2) := by decide +kernel
theorem d_Mod_ruleOf_158 : decode b_Mod_ruleOf 158 = .ok (.aload_n 0, 1) := by decide +kernel
theorem d_Mod_ruleOf_159 : decode b_Mod_ruleOf 159 = .ok (.aload_n 0, 1) := by decide +kernel
theorem d_Mod_ruleOf_160 : decode b_Mod_ruleOf 160 = .ok (.getfield 190, 3) := by decide +kernel
theorem d_Mod_ruleOf_163 : decode b_Mod_ruleOf 163 = .ok (.aload_n 0, 1) := by decide +kernel
theorem d_Mod_ruleOf_164 : decode b_Mod_ruleOf 164 = .ok (.getfield 223, 3) := by decide +kernel
theorem d_Mod_ruleOf_167 : decode b_Mod_ruleOf 167 = .ok (.iload 7, 2) := by decide +kernel
theorem d_Mod_ruleOf_169 : decode b_Mod_ruleOf 169 = .ok (.iload 10, 2) := by decide +kernel
theorem d_Mod_ruleOf_171 : decode b_Mod_ruleOf 171 = .ok (.iadd, 1) := by decide +kernel
theorem d_Mod_ruleOf_172 : decode b_Mod_ruleOf 172 = .ok (.iaload, 1) := by decide +kernel
theorem d_Mod_ruleOf_173 : decode b_Mod_ruleOf 173 = .ok (.iaload, 1) := by decide +kernel
theorem d_Mod_ruleOf_174 : decode b_Mod_ruleOf 174 = .ok (.invokevirtual 571, 3) := by decide +kernel
theorem d_Mod_ruleOf_177 : decode b_Mod_ruleOf 177 = .ok (.istore 12, 2) := by decide +kernel
theorem d_Mod_ruleOf_179 : decode b_Mod_ruleOf 179 = .ok (.aload_n 0, 1) := by decide +kernel
theorem d_Mod_ruleOf_180 : decode b_Mod_ruleOf 180 = .ok (.aload_n 0, 1) := by decide +kernel
theorem d_Mod_ruleOf_181 : decode b_Mod_ruleOf 181 = .ok (.aload_n 0, 1) := by decide +kernel
theorem d_Mod_ruleOf_182 : decode b_Mod_ruleOf 182 = .ok (.iconst 2, 1) := by decide +kernel
theorem d_Mod_ruleOf_183 : decode b_Mod_ruleOf 183 = .ok (.iload_n 1, 1) := by decide +kernel
theorem d_Mod_ruleOf_184 : decode b_Mod_ruleOf 184 = .ok (.iconst (-1), 1) := by decide +kernel
theorem d_Mod_ruleOf_185 : decode b_Mod_ruleOf 185 = .ok (.iconst 0, 1) := by decide +kernel
theorem d_Mod_ruleOf_186 : decode b_Mod_ruleOf 186 = .ok (.invokevirtual 336, 3) := by decide +kernel
theorem d_Mod_ruleOf_189 : decode b_Mod_ruleOf 189 = .ok (.iconst 0, 1) := by decide +kernel
theorem d_Mod_ruleOf_190 : decode b_Mod_ruleOf 190 = .ok (.iload_n 3, 1) := by decide +kernel
theorem d_Mod_ruleOf_191 : decode b_Mod_ruleOf 191 = .ok (.invokevirtual 555, 3) := by decide +kernel
theorem d_Mod_ruleOf_194 : decode b_Mod_ruleOf 194 = .ok (.iload 5, 2) := by decide +kernel
theorem d_Mod_ruleOf_196 : decode b_Mod_ruleOf 196 = .ok (.invokevirtual 350, 3) := by decide +kernel
theorem d_Mod_ruleOf_199 : decode b_Mod_ruleOf 199 = .ok (.istore 13, 2) := by decide +kernel
theorem d_Mod_ruleOf_201 : decode b_Mod_ruleOf 201 = .ok (.iconst 0, 1) := by decide +kernel
theorem d_Mod_ruleOf_202 : decode b_Mod_ruleOf 202 = .ok (.istore 14, 2) := by decide +kernel
theorem d_Mod_ruleOf_204 : decode b_Mod_ruleOf 204 = .ok (.iload 14, 2) := by decide +kernel
theorem d_Mod_ruleOf_206 : decode b_Mod_ruleOf 206 = .ok (.iload 6, 2) := by decide +kernel
theorem d_Mod_ruleOf_208 : decode b_Mod_ruleOf 208 = .ok (.if_icmp .ge 28, 3) := by decide +kernel
theorem d_Mod_ruleOf_211 : decode b_Mod_ruleOf 211 = .ok (.aload_n 0, 1) := by decide +kernel
theorem d_Mod_ruleOf_212 : decode b_Mod_ruleOf 212 = .ok (.iload 13, 2) := by decide +kernel
theorem d_Mod_ruleOf_214 : decode b_Mod_ruleOf 214 = .ok (.aload_n 0, 1) := by decide +kernel
theorem d_Mod_ruleOf_215 : decode b_Mod_ruleOf 215 = .ok (.aload_n 0, 1) := by decide +kernel
theorem d_Mod_ruleOf_216 : decode b_Mod_ruleOf 216 = .ok (.getfield 241, 3) := by decide +kernel
theorem d_Mod_ruleOf_219 : decode b_Mod_ruleOf 219 = .ok (.iload 14, 2) := by decide +kernel
theorem d_Mod_ruleOf_221 : decode b_Mod_ruleOf 221 = .ok (.iaload, 1) := by decide +kernel
theorem d_Mod_ruleOf_222 : decode b_Mod_ruleOf 222 = .ok (.invokevirtual 353, 3) := by decide +kernel
theorem d_Mod_ruleOf_225 : decode b_Mod_ruleOf 225 = .ok (.invokevirtual 350, 3) := by decide +kernel
theorem d_Mod_ruleOf_228 : decode b_Mod_ruleOf 228 = .ok (.istore 13, 2) := by decide +kernel
theorem d_Mod_ruleOf_230 : decode b_Mod_ruleOf 230 = .ok (.iinc 14 1, 3) := by decide +kernel
theorem d_Mod_ruleOf_233 : decode b_Mod_ruleOf 233 = .ok (.goto (-29), 3) := by decide +kernel
theorem d_Mod_ruleOf_236 : decode b_Mod_ruleOf 236 = .ok (.iload_n 3, 1) := by decide +kernel
theorem d_Mod_ruleOf_237 : decode b_Mod_ruleOf 237 = .ok (.istore 14, 2) := by decide +kernel
theorem d_Mod_ruleOf_239 : decode b_Mod_ruleOf 239 = .ok (.iload 14, 2) := by decide +kernel
theorem d_Mod_ruleOf_241 : decode b_Mod_ruleOf 241 = .ok (.iload_n 3, 1) := by decide +kernel
theorem d_Mod_ruleOf_242 : decode b_Mod_ruleOf 242 = .ok (.iload 4, 2) := by decide +kernel
theorem d_Mod_ruleOf_244 : decode b_Mod_ruleOf 244 = .ok (.iadd, 1) := by decide +kernel
theorem d_Mod_ruleOf_245 : decode b_Mod_ruleOf 245 = .ok (.if_icmp .ge 29, 3) := by decide +kernel
theorem d_Mod_ruleOf_248 : decode b_Mod_ruleOf 248 = .ok (.aload_n 0, 1) := by decide +kernel
theorem d_Mod_ruleOf_249 : decode b_Mod_ruleOf 249 = .ok (.iload 13, 2) := by decide +kernel
theorem d_Mod_ruleOf_251 : decode b_Mod_ruleOf 251 = .ok (.aload_n 0, 1) := by decide +kernel
theorem d_Mod_ruleOf_252 : decode b_Mod_ruleOf 252 = .ok (.iload 12, 2) := by decide +kernel
theorem d_Mod_ruleOf_254 : decode b_Mod_ruleOf 254 = .ok (.iload_n 3, 1) := by decide +kernel
theorem d_Mod_ruleOf_255 : decode b_Mod_ruleOf 255 = .ok (.iload 4, 2) := by decide +kernel
theorem d_Mod_ruleOf_257 : decode b_Mod_ruleOf 257 = .ok (.iadd, 1) := by decide +kernel
theorem d_Mod_ruleOf_258 : decode b_Mod_ruleOf 258 = .ok (.iload 14, 2) := by decide +kernel
theorem d_Mod_ruleOf_260 : decode b_Mod_ruleOf 260 = .ok (.invokevirtual 440, 3) := by decide +kernel
theorem d_Mod_ruleOf_263 : decode b_Mod_ruleOf 263 = .ok (.invokevirtual 350, 3) := by decide +kernel
theorem d_Mod_ruleOf_266 : decode b_Mod_ruleOf 266 = .ok (.istore 13, 2) := by decide +kernel
theorem d_Mod_ruleOf_268 : decode b_Mod_ruleOf 268 = .ok (.iinc 14 1, 3) := by decide +kernel
theorem d_Mod_ruleOf_271 : decode b_Mod_ruleOf 271 = .ok (.goto (-32), 3) := by decide +kernel
theorem d_Mod_ruleOf_274 : decode b_Mod_ruleOf 274 = .ok (.aload_n 0, 1) := by decide +kernel
theorem d_Mod_ruleOf_275 : decode b_Mod_ruleOf 275 = .ok (.iload 9, 2) := by decide +kernel
theorem d_Mod_ruleOf_277 : decode b_Mod_ruleOf 277 = .ok (.aload_n 0, 1) := by decide +kernel
theorem d_Mod_ruleOf_278 : decode b_Mod_ruleOf 278 = .ok (.bipush 7, 2) := by decide +kernel
theorem d_Mod_ruleOf_280 : decode b_Mod_ruleOf 280 = .ok (.iload 11, 2) := by decide +kernel
theorem d_Mod_ruleOf_282 : decode b_Mod_ruleOf 282 = .ok (.aload_n 0, 1) := by decide +kernel
theorem d_Mod_ruleOf_283 : decode b_Mod_ruleOf 283 = .ok (.iload 13, 2) := by decide +kernel
theorem d_Mod_ruleOf_285 : decode b_Mod_ruleOf 285 = .ok (.aload_n 0, 1) := by decide +kernel
theorem d_Mod_ruleOf_286 : decode b_Mod_ruleOf 286 = .ok (.aload_n 0, 1) := by decide +kernel
theorem d_Mod_ruleOf_287 : decode b_Mod_ruleOf 287 = .ok (.getfield 223, 3) := by decide +kernel
theorem d_Mod_ruleOf_290 : decode b_Mod_ruleOf 290 = .ok (.iload 7, 2) := by decide +kernel
theorem d_Mod_ruleOf_292 : decode b_Mod_ruleOf 292 = .ok (.iload 10, 2) := by decide +kernel
theorem d_Mod_ruleOf_294 : decode b_Mod_ruleOf 294 = .ok (.iadd, 1) := by decide +kernel
theorem d_Mod_ruleOf_295 : decode b_Mod_ruleOf 295 = .ok (.iaload, 1) := by decide +kernel
theorem d_Mod_ruleOf_296 : decode b_Mod_ruleOf 296 = .ok (.invokevirtual 574, 3) := by decide +kernel
theorem d_Mod_ruleOf_299 : decode b_Mod_ruleOf 299 = .ok (.invokevirtual 350, 3) := by decide +kernel
theorem d_Mod_ruleOf_302 : decode b_Mod_ruleOf 302 = .ok (.invokevirtual 558, 3) := by decide +kernel
theorem d_Mod_ruleOf_305 : decode b_Mod_ruleOf 305 = .ok (.invokevirtual 350, 3) := by decide +kernel
theorem d_Mod_ruleOf_308 : decode b_Mod_ruleOf 308 = .ok (.istore 9, 2) := by decide +kernel
theorem d_Mod_ruleOf_310 : decode b_Mod_ruleOf 310 = .ok (.iinc 10 1, 3) := by decide +kernel
theorem d_Mod_ruleOf_313 : decode b_Mod_ruleOf 313 = .ok (.goto (-184), 3) := by decide +kernel
theorem d_Mod_ruleOf_316 : decode b_Mod_ruleOf 316 = .ok (.aload_n 0, 1) := by decide +kernel
theorem d_Mod_ruleOf_317 : decode b_Mod_ruleOf 317 = .ok (.bipush 7, 2) := by decide +kernel
theorem d_Mod_ruleOf_319 : decode b_Mod_ruleOf 319 = .ok (.iconst 0, 1) := by decide +kernel
theorem d_Mod_ruleOf_320 : decode b_Mod_ruleOf 320 = .ok (.iload 9, 2) := by decide +kernel
theorem d_Mod_ruleOf_322 : decode b_Mod_ruleOf 322 = .ok (.invokevirtual 558, 3) := by decide +kernel
theorem d_Mod_ruleOf_325 : decode b_Mod_ruleOf 325 = .ok (.ireturn, 1) := by decide +kernel
theorem d_Mod_made_0 : decode b_Mod_made 0 = .ok (.iload_n 2, 1) := by decide +kernel
theorem d_Mod_made_1 : decode b_Mod_made 1 = .ok (.istore 7, 2) := by decide +kernel
theorem d_Mod_made_3 : decode b_Mod_made 3 = .ok (.iconst 0, 1) := by decide +kernel
theorem d_Mod_made_4 : decode b_Mod_made 4 = .ok (.istore 8, 2) := by decide +kernel
theorem d_Mod_made_6 : decode b_Mod_made 6 = .ok (.iload 8, 2) := by decide +kernel
theorem d_Mod_made_8 : decode b_Mod_made 8 = .ok (.iload 4, 2) := by decide +kernel
theorem d_Mod_made_10 : decode b_Mod_made 10 = .ok (.if_icmp .ge 55, 3) := by decide +kernel
theorem d_Mod_made_13 : decode b_Mod_made 13 = .ok (.aload_n 0, 1) := by decide +kernel
theorem d_Mod_made_14 : decode b_Mod_made 14 = .ok (.getfield 208, 3) := by decide +kernel
theorem d_Mod_made_17 : decode b_Mod_made 17 = .ok (.iload_n 3, 1) := by decide +kernel
theorem d_Mod_made_18 : decode b_Mod_made 18 = .ok (.iload 8, 2) := by decide +kernel
theorem d_Mod_made_20 : decode b_Mod_made 20 = .ok (.iadd, 1) := by decide +kernel
theorem d_Mod_made_21 : decode b_Mod_made 21 = .ok (.aload_n 0, 1) := by decide +kernel
theorem d_Mod_made_22 : decode b_Mod_made 22 = .ok (.getfield 58, 3) := by decide +kernel
theorem d_Mod_made_25 : decode b_Mod_made 25 = .ok (.aload_n 0, 1) := by decide +kernel
theorem d_Mod_made_26 : decode b_Mod_made 26 = .ok (.aload_n 0, 1) := by decide +kernel
theorem d_Mod_made_27 : decode b_Mod_made 27 = .ok (.aload_n 0, 1) := by decide +kernel
theorem d_Mod_made_28 : decode b_Mod_made 28 = .ok (.getfield 58, 3) := by decide +kernel
theorem d_Mod_made_31 : decode b_Mod_made 31 = .ok (.iload 7, 2) := by decide +kernel
theorem d_Mod_made_33 : decode b_Mod_made 33 = .ok (.iaload, 1) := by decide +kernel
theorem d_Mod_made_34 : decode b_Mod_made 34 = .ok (.iload_n 3, 1) := by decide +kernel
theorem d_Mod_made_35 : decode b_Mod_made 35 = .ok (.iload 8, 2) := by decide +kernel
theorem d_Mod_made_37 : decode b_Mod_made 37 = .ok (.iadd, 1) := by decide +kernel
theorem d_Mod_made_38 : decode b_Mod_made 38 = .ok (.iload_n 3, 1) := by decide +kernel
theorem d_Mod_made_39 : decode b_Mod_made 39 = .ok (.iload 8, 2) := by decide +kernel
theorem d_Mod_made_41 : decode b_Mod_made 41 = .ok (.iadd, 1) := by decide +kernel
theorem d_Mod_made_42 : decode b_Mod_made 42 = .ok (.invokevirtual 513, 3) := by decide +kernel
theorem d_Mod_made_45 : decode b_Mod_made 45 = .ok (.invokevirtual 468, 3) := by decide +kernel
theorem d_Mod_made_48 : decode b_Mod_made 48 = .ok (.iaload, 1) := by decide +kernel
theorem d_Mod_made_49 : decode b_Mod_made 49 = .ok (.iastore, 1) := by decide +kernel
theorem d_Mod_made_50 : decode b_Mod_made 50 = .ok (.aload_n 0, 1) := by decide +kernel
theorem d_Mod_made_51 : decode b_Mod_made 51 = .ok (.getfield 62, 3) := by decide +kernel
theorem d_Mod_made_54 : decode b_Mod_made 54 = .ok (.iload 7, 2) := by decide +kernel
theorem d_Mod_made_56 : decode b_Mod_made 56 = .ok (.iaload, 1) := by decide +kernel
theorem d_Mod_made_57 : decode b_Mod_made 57 = .ok (.istore 7, 2) := by decide +kernel
theorem d_Mod_made_59 : decode b_Mod_made 59 = .ok (.iinc 8 1, 3) := by decide +kernel
theorem d_Mod_made_62 : decode b_Mod_made 62 = .ok (.goto (-56), 3) := by decide +kernel
theorem d_Mod_made_65 : decode b_Mod_made 65 = .ok (.aload_n 0, 1) := by decide +kernel
theorem d_Mod_made_66 : decode b_Mod_made 66 = .ok (.aload_n 0, 1) := by decide +kernel
theorem d_Mod_made_67 : decode b_Mod_made 67 = .ok (.iconst 1, 1) := by decide +kernel
theorem d_Mod_made_68 : decode b_Mod_made 68 = .ok (.iload_n 1, 1) := by decide +kernel
theorem d_Mod_made_69 : decode b_Mod_made 69 = .ok (.iconst 0, 1) := by decide +kernel
theorem d_Mod_made_70 : decode b_Mod_made 70 = .ok (.iconst 0, 1) := by decide +kernel
theorem d_Mod_made_71 : decode b_Mod_made 71 = .ok (.invokevirtual 336, 3) := by decide +kernel
