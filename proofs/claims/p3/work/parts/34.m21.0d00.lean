theorem d_Mod_normal_0 : decode b_Mod_normal 0 = .ok (.iload_n 2, 1) := by decide +kernel
theorem d_Mod_normal_1 : decode b_Mod_normal 1 = .ok (.bipush 120, 2) := by decide +kernel
theorem d_Mod_normal_3 : decode b_Mod_normal 3 = .ok (.if_icmp .le 9, 3) := by decide +kernel
theorem d_Mod_normal_6 : decode b_Mod_normal 6 = .ok (.bipush 10, 2) := by decide +kernel
theorem d_Mod_normal_8 : decode b_Mod_normal 8 = .ok (.invokestatic 323, 3) := by decide +kernel
theorem d_Mod_normal_11 : decode b_Mod_normal 11 = .ok (.athrow, 1) := by decide +kernel
theorem d_Mod_normal_12 : decode b_Mod_normal 12 = .ok (.aload_n 0, 1) := by decide +kernel
theorem d_Mod_normal_13 : decode b_Mod_normal 13 = .ok (.iload_n 1, 1) := by decide +kernel
theorem d_Mod_normal_14 : decode b_Mod_normal 14 = .ok (.invokevirtual 458, 3) := by decide +kernel
theorem d_Mod_normal_17 : decode b_Mod_normal 17 = .ok (.istore_n 3, 1) := by decide +kernel
theorem d_Mod_normal_18 : decode b_Mod_normal 18 = .ok (.aload_n 0, 1) := by decide +kernel
theorem d_Mod_normal_19 : decode b_Mod_normal 19 = .ok (.getfield 55, 3) := by decide +kernel
theorem d_Mod_normal_22 : decode b_Mod_normal 22 = .ok (.iload_n 3, 1) := by decide +kernel
theorem d_Mod_normal_23 : decode b_Mod_normal 23 = .ok (.baload, 1) := by decide +kernel
theorem d_Mod_normal_24 : decode b_Mod_normal 24 = .ok (.bipush 6, 2) := by decide +kernel
theorem d_Mod_normal_26 : decode b_Mod_normal 26 = .ok (.if_icmp .eq 14, 3) := by decide +kernel
theorem d_Mod_normal_29 : decode b_Mod_normal 29 = .ok (.aload_n 0, 1) := by decide +kernel
theorem d_Mod_normal_30 : decode b_Mod_normal 30 = .ok (.getfield 55, 3) := by decide +kernel
theorem d_Mod_normal_33 : decode b_Mod_normal 33 = .ok (.iload_n 3, 1) := by decide +kernel
theorem d_Mod_normal_34 : decode b_Mod_normal 34 = .ok (.baload, 1) := by decide +kernel
theorem d_Mod_normal_35 : decode b_Mod_normal 35 = .ok (.bipush 7, 2) := by decide +kernel
theorem d_Mod_normal_37 : decode b_Mod_normal 37 = .ok (.if_icmp .ne 82, 3) := by decide +kernel
theorem d_Mod_normal_40 : decode b_Mod_normal 40 = .ok (.aload_n 0, 1) := by decide +kernel
theorem d_Mod_normal_41 : decode b_Mod_normal 41 = .ok (.aload_n 0, 1) := by decide +kernel
theorem d_Mod_normal_42 : decode b_Mod_normal 42 = .ok (.getfield 58, 3) := by decide +kernel
theorem d_Mod_normal_45 : decode b_Mod_normal 45 = .ok (.iload_n 3, 1) := by decide +kernel
theorem d_Mod_normal_46 : decode b_Mod_normal 46 = .ok (.iaload, 1) := by decide +kernel
theorem d_Mod_normal_47 : decode b_Mod_normal 47 = .ok (.iload_n 2, 1) := by decide +kernel
theorem d_Mod_normal_48 : decode b_Mod_normal 48 = .ok (.iconst 1, 1) := by decide +kernel
theorem d_Mod_normal_49 : decode b_Mod_normal 49 = .ok (.iadd, 1) := by decide +kernel
theorem d_Mod_normal_50 : decode b_Mod_normal 50 = .ok (.invokevirtual 491, 3) := by decide +kernel
theorem d_Mod_normal_53 : decode b_Mod_normal 53 = .ok (.istore 4, 2) := by decide +kernel
theorem d_Mod_normal_55 : decode b_Mod_normal 55 = .ok (.aload_n 0, 1) := by decide +kernel
theorem d_Mod_normal_56 : decode b_Mod_normal 56 = .ok (.aload_n 0, 1) := by decide +kernel
theorem d_Mod_normal_57 : decode b_Mod_normal 57 = .ok (.getfield 58, 3) := by decide +kernel
theorem d_Mod_normal_60 : decode b_Mod_normal 60 = .ok (.iload_n 3, 1) := by decide +kernel
theorem d_Mod_normal_61 : decode b_Mod_normal 61 = .ok (.iaload, 1) := by decide +kernel
theorem d_Mod_normal_62 : decode b_Mod_normal 62 = .ok (.invokevirtual 468, 3) := by decide +kernel
theorem d_Mod_normal_65 : decode b_Mod_normal 65 = .ok (.istore 5, 2) := by decide +kernel
theorem d_Mod_normal_67 : decode b_Mod_normal 67 = .ok (.aload_n 0, 1) := by decide +kernel
theorem d_Mod_normal_68 : decode b_Mod_normal 68 = .ok (.aload_n 0, 1) := by decide +kernel
theorem d_Mod_normal_69 : decode b_Mod_normal 69 = .ok (.aload_n 0, 1) := by decide +kernel
theorem d_Mod_normal_70 : decode b_Mod_normal 70 = .ok (.getfield 62, 3) := by decide +kernel
theorem d_Mod_normal_73 : decode b_Mod_normal 73 = .ok (.iload_n 3, 1) := by decide +kernel
theorem d_Mod_normal_74 : decode b_Mod_normal 74 = .ok (.iaload, 1) := by decide +kernel
theorem d_Mod_normal_75 : decode b_Mod_normal 75 = .ok (.iload 5, 2) := by decide +kernel
theorem d_Mod_normal_77 : decode b_Mod_normal 77 = .ok (.invokevirtual 471, 3) := by decide +kernel
theorem d_Mod_normal_80 : decode b_Mod_normal 80 = .ok (.iload_n 2, 1) := by decide +kernel
theorem d_Mod_normal_81 : decode b_Mod_normal 81 = .ok (.iconst 1, 1) := by decide +kernel
theorem d_Mod_normal_82 : decode b_Mod_normal 82 = .ok (.iadd, 1) := by decide +kernel
theorem d_Mod_normal_83 : decode b_Mod_normal 83 = .ok (.invokevirtual 491, 3) := by decide +kernel
theorem d_Mod_normal_86 : decode b_Mod_normal 86 = .ok (.istore 6, 2) := by decide +kernel
theorem d_Mod_normal_88 : decode b_Mod_normal 88 = .ok (.aload_n 0, 1) := by decide +kernel
theorem d_Mod_normal_89 : decode b_Mod_normal 89 = .ok (.aload_n 0, 1) := by decide +kernel
theorem d_Mod_normal_90 : decode b_Mod_normal 90 = .ok (.aload_n 0, 1) := by decide +kernel
theorem d_Mod_normal_91 : decode b_Mod_normal 91 = .ok (.getfield 55, 3) := by decide +kernel
theorem d_Mod_normal_94 : decode b_Mod_normal 94 = .ok (.iload_n 3, 1) := by decide +kernel
theorem d_Mod_normal_95 : decode b_Mod_normal 95 = .ok (.baload, 1) := by decide +kernel
theorem d_Mod_normal_96 : decode b_Mod_normal 96 = .ok (.iload 4, 2) := by decide +kernel
theorem d_Mod_normal_98 : decode b_Mod_normal 98 = .ok (.aload_n 0, 1) := by decide +kernel
theorem d_Mod_normal_99 : decode b_Mod_normal 99 = .ok (.iload 6, 2) := by decide +kernel
theorem d_Mod_normal_101 : decode b_Mod_normal 101 = .ok (.aload_n 0, 1) := by decide +kernel
theorem d_Mod_normal_102 : decode b_Mod_normal 102 = .ok (.getfield 58, 3) := by decide +kernel
theorem d_Mod_normal_105 : decode b_Mod_normal 105 = .ok (.iload 5, 2) := by decide +kernel
theorem d_Mod_normal_107 : decode b_Mod_normal 107 = .ok (.iaload, 1) := by decide +kernel
theorem d_Mod_normal_108 : decode b_Mod_normal 108 = .ok (.invokevirtual 482, 3) := by decide +kernel
theorem d_Mod_normal_111 : decode b_Mod_normal 111 = .ok (.iconst 0, 1) := by decide +kernel
theorem d_Mod_normal_112 : decode b_Mod_normal 112 = .ok (.invokevirtual 336, 3) := by decide +kernel
theorem d_Mod_normal_115 : decode b_Mod_normal 115 = .ok (.invokevirtual 402, 3) := by decide +kernel
theorem d_Mod_normal_118 : decode b_Mod_normal 118 = .ok (.ireturn, 1) := by decide +kernel
theorem d_Mod_normal_119 : decode b_Mod_normal 119 = .ok (.aload_n 0, 1) := by decide +kernel
theorem d_Mod_normal_120 : decode b_Mod_normal 120 = .ok (.iload_n 3, 1) := by decide +kernel
theorem d_Mod_normal_121 : decode b_Mod_normal 121 = .ok (.invokevirtual 449, 3) := by decide +kernel
theorem d_Mod_normal_124 : decode b_Mod_normal 124 = .ok (.istore 4, 2) := by decide +kernel
theorem d_Mod_normal_126 : decode b_Mod_normal 126 = .ok (.aload_n 0, 1) := by decide +kernel
theorem d_Mod_normal_127 : decode b_Mod_normal 127 = .ok (.iload_n 3, 1) := by decide +kernel
theorem d_Mod_normal_128 : decode b_Mod_normal 128 = .ok (.invokevirtual 446, 3) := by decide +kernel
theorem d_Mod_normal_131 : decode b_Mod_normal 131 = .ok (.istore 5, 2) := by decide +kernel
theorem d_Mod_normal_133 : decode b_Mod_normal 133 = .ok (.iconst 0, 1) := by decide +kernel
theorem d_Mod_normal_134 : decode b_Mod_normal 134 = .ok (.istore 6, 2) := by decide +kernel
theorem d_Mod_normal_136 : decode b_Mod_normal 136 = .ok (.iload 6, 2) := by decide +kernel
theorem d_Mod_normal_138 : decode b_Mod_normal 138 = .ok (.iload 4, 2) := by decide +kernel
theorem d_Mod_normal_140 : decode b_Mod_normal 140 = .ok (.if_icmp .ge 37, 3) := by decide +kernel
theorem d_Mod_normal_143 : decode b_Mod_normal 143 = .ok (.aload_n 0, 1) := by decide +kernel
theorem d_Mod_normal_144 : decode b_Mod_normal 144 = .ok (.aload_n 0, 1) := by decide +kernel
theorem d_Mod_normal_145 : decode b_Mod_normal 145 = .ok (.iload 5, 2) := by decide +kernel
theorem d_Mod_normal_147 : decode b_Mod_normal 147 = .ok (.aload_n 0, 1) := by decide +kernel
theorem d_Mod_normal_148 : decode b_Mod_normal 148 = .ok (.aload_n 0, 1) := by decide +kernel
theorem d_Mod_normal_149 : decode b_Mod_normal 149 = .ok (.iload_n 3, 1) := by decide +kernel
theorem d_Mod_normal_150 : decode b_Mod_normal 150 = .ok (.iload 4, 2) := by decide +kernel
theorem d_Mod_normal_152 : decode b_Mod_normal 152 = .ok (.iload 6, 2) := by decide +kernel
theorem d_Mod_normal_154 : decode b_Mod_normal 154 = .ok (.invokevirtual 440, 3) := by decide +kernel
theorem d_Mod_normal_157 : decode b_Mod_normal 157 = .ok (.iload_n 2, 1) := by decide +kernel
theorem d_Mod_normal_158 : decode b_Mod_normal 158 = .ok (.iconst 1, 1) := by decide +kernel
theorem d_Mod_normal_159 : decode b_Mod_normal 159 = .ok (.iadd, 1) := by decide +kernel
theorem d_Mod_normal_160 : decode b_Mod_normal 160 = .ok (.invokevirtual 491, 3) := by decide +kernel
theorem d_Mod_normal_163 : decode b_Mod_normal 163 = .ok (.invokevirtual 350, 3) := by decide +kernel
theorem d_Mod_normal_166 : decode b_Mod_normal 166 = .ok (.invokevirtual 402, 3) := by decide +kernel
theorem d_Mod_normal_169 : decode b_Mod_normal 169 = .ok (.istore 5, 2) := by decide +kernel
theorem d_Mod_normal_171 : decode b_Mod_normal 171 = .ok (.iinc 6 1, 3) := by decide +kernel
theorem d_Mod_normal_174 : decode b_Mod_normal 174 = .ok (.goto (-38), 3) := by decide +kernel
theorem d_Mod_normal_177 : decode b_Mod_normal 177 = .ok (.iload 5, 2) := by decide +kernel
theorem d_Mod_normal_179 : decode b_Mod_normal 179 = .ok (.ireturn, 1) := by decide +kernel
