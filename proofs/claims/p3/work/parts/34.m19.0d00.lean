theorem d_Mod_isFamily_0 : decode b_Mod_isFamily 0 = .ok (.aload_n 0, 1) := by decide +kernel
theorem d_Mod_isFamily_1 : decode b_Mod_isFamily 1 = .ok (.iload_n 1, 1) := by decide +kernel
theorem d_Mod_isFamily_2 : decode b_Mod_isFamily 2 = .ok (.invokevirtual 446, 3) := by decide +kernel
theorem d_Mod_isFamily_5 : decode b_Mod_isFamily 5 = .ok (.istore 5, 2) := by decide +kernel
theorem d_Mod_isFamily_7 : decode b_Mod_isFamily 7 = .ok (.aload_n 0, 1) := by decide +kernel
theorem d_Mod_isFamily_8 : decode b_Mod_isFamily 8 = .ok (.getfield 55, 3) := by decide +kernel
theorem d_Mod_isFamily_11 : decode b_Mod_isFamily 11 = .ok (.iload 5, 2) := by decide +kernel
theorem d_Mod_isFamily_13 : decode b_Mod_isFamily 13 = .ok (.baload, 1) := by decide +kernel
theorem d_Mod_isFamily_14 : decode b_Mod_isFamily 14 = .ok (.iconst 1, 1) := by decide +kernel
theorem d_Mod_isFamily_15 : decode b_Mod_isFamily 15 = .ok (.if_icmp .ne 26, 3) := by decide +kernel
theorem d_Mod_isFamily_18 : decode b_Mod_isFamily 18 = .ok (.aload_n 0, 1) := by decide +kernel
theorem d_Mod_isFamily_19 : decode b_Mod_isFamily 19 = .ok (.getfield 58, 3) := by decide +kernel
theorem d_Mod_isFamily_22 : decode b_Mod_isFamily 22 = .ok (.iload 5, 2) := by decide +kernel
theorem d_Mod_isFamily_24 : decode b_Mod_isFamily 24 = .ok (.iaload, 1) := by decide +kernel
theorem d_Mod_isFamily_25 : decode b_Mod_isFamily 25 = .ok (.iload_n 2, 1) := by decide +kernel
theorem d_Mod_isFamily_26 : decode b_Mod_isFamily 26 = .ok (.if_icmp .ne 15, 3) := by decide +kernel
theorem d_Mod_isFamily_29 : decode b_Mod_isFamily 29 = .ok (.aload_n 0, 1) := by decide +kernel
theorem d_Mod_isFamily_30 : decode b_Mod_isFamily 30 = .ok (.iload_n 1, 1) := by decide +kernel
theorem d_Mod_isFamily_31 : decode b_Mod_isFamily 31 = .ok (.invokevirtual 449, 3) := by decide +kernel
theorem d_Mod_isFamily_34 : decode b_Mod_isFamily 34 = .ok (.iload_n 3, 1) := by decide +kernel
theorem d_Mod_isFamily_35 : decode b_Mod_isFamily 35 = .ok (.iload 4, 2) := by decide +kernel
theorem d_Mod_isFamily_37 : decode b_Mod_isFamily 37 = .ok (.iadd, 1) := by decide +kernel
theorem d_Mod_isFamily_38 : decode b_Mod_isFamily 38 = .ok (.if_icmp .eq 5, 3) := by decide +kernel
theorem d_Mod_isFamily_41 : decode b_Mod_isFamily 41 = .ok (.iconst 0, 1) := by decide +kernel
theorem d_Mod_isFamily_42 : decode b_Mod_isFamily 42 = .ok (.ireturn, 1) := by decide +kernel
theorem d_Mod_isFamily_43 : decode b_Mod_isFamily 43 = .ok (.iconst 0, 1) := by decide +kernel
theorem d_Mod_isFamily_44 : decode b_Mod_isFamily 44 = .ok (.istore 6, 2) := by decide +kernel
theorem d_Mod_isFamily_46 : decode b_Mod_isFamily 46 = .ok (.iload 6, 2) := by decide +kernel
theorem d_Mod_isFamily_48 : decode b_Mod_isFamily 48 = .ok (.iload_n 3, 1) := by decide +kernel
theorem d_Mod_isFamily_49 : decode b_Mod_isFamily 49 = .ok (.if_icmp .ge 52, 3) := by decide +kernel
theorem d_Mod_isFamily_52 : decode b_Mod_isFamily 52 = .ok (.aload_n 0, 1) := by decide +kernel
theorem d_Mod_isFamily_53 : decode b_Mod_isFamily 53 = .ok (.iload_n 1, 1) := by decide +kernel
theorem d_Mod_isFamily_54 : decode b_Mod_isFamily 54 = .ok (.iload_n 3, 1) := by decide +kernel
theorem d_Mod_isFamily_55 : decode b_Mod_isFamily 55 = .ok (.iload 4, 2) := by decide +kernel
theorem d_Mod_isFamily_57 : decode b_Mod_isFamily 57 = .ok (.iadd, 1) := by decide +kernel
theorem d_Mod_isFamily_58 : decode b_Mod_isFamily 58 = .ok (.iload 6, 2) := by decide +kernel
theorem d_Mod_isFamily_60 : decode b_Mod_isFamily 60 = .ok (.invokevirtual 440, 3) := by decide +kernel
theorem d_Mod_isFamily_63 : decode b_Mod_isFamily 63 = .ok (.istore 7, 2) := by decide +kernel
theorem d_Mod_isFamily_65 : decode b_Mod_isFamily 65 = .ok (.aload_n 0, 1) := by decide +kernel
theorem d_Mod_isFamily_66 : decode b_Mod_isFamily 66 = .ok (.getfield 55, 3) := by decide +kernel
theorem d_Mod_isFamily_69 : decode b_Mod_isFamily 69 = .ok (.iload 7, 2) := by decide +kernel
theorem d_Mod_isFamily_71 : decode b_Mod_isFamily 71 = .ok (.baload, 1) := by decide +kernel
theorem d_Mod_isFamily_72 : decode b_Mod_isFamily 72 = .ok (.iconst 3, 1) := by decide +kernel
theorem d_Mod_isFamily_73 : decode b_Mod_isFamily 73 = .ok (.if_icmp .ne 20, 3) := by decide +kernel
theorem d_Mod_isFamily_76 : decode b_Mod_isFamily 76 = .ok (.aload_n 0, 1) := by decide +kernel
theorem d_Mod_isFamily_77 : decode b_Mod_isFamily 77 = .ok (.getfield 58, 3) := by decide +kernel
theorem d_Mod_isFamily_80 : decode b_Mod_isFamily 80 = .ok (.iload 7, 2) := by decide +kernel
theorem d_Mod_isFamily_82 : decode b_Mod_isFamily 82 = .ok (.iaload, 1) := by decide +kernel
theorem d_Mod_isFamily_83 : decode b_Mod_isFamily 83 = .ok (.aload_n 0, 1) := by decide +kernel
theorem d_Mod_isFamily_84 : decode b_Mod_isFamily 84 = .ok (.getfield 208, 3) := by decide +kernel
theorem d_Mod_isFamily_87 : decode b_Mod_isFamily 87 = .ok (.iload 6, 2) := by decide +kernel
theorem d_Mod_isFamily_89 : decode b_Mod_isFamily 89 = .ok (.iaload, 1) := by decide +kernel
theorem d_Mod_isFamily_90 : decode b_Mod_isFamily 90 = .ok (.if_icmp .eq 5, 3) := by decide +kernel
theorem d_Mod_isFamily_93 : decode b_Mod_isFamily 93 = .ok (.iconst 0, 1) := by decide +kernel
theorem d_Mod_isFamily_94 : decode b_Mod_isFamily 94 = .ok (.ireturn, 1) := by decide +kernel
theorem d_Mod_isFamily_95 : decode b_Mod_isFamily 95 = .ok (.iinc 6 1, 3) := by decide +kernel
theorem d_Mod_isFamily_98 : decode b_Mod_isFamily 98 = .ok (.goto (-52), 3) := by decide +kernel
theorem d_Mod_isFamily_101 : decode b_Mod_isFamily 101 = .ok (.iload_n 3, 1) := by decide +kernel
theorem d_Mod_isFamily_102 : decode b_Mod_isFamily 102 = .ok (.istore 6, 2) := by decide +kernel
theorem d_Mod_isFamily_104 : decode b_Mod_isFamily 104 = .ok (.iload 6, 2) := by decide +kernel
theorem d_Mod_isFamily_106 : decode b_Mod_isFamily 106 = .ok (.iload_n 3, 1) := by decide +kernel
theorem d_Mod_isFamily_107 : decode b_Mod_isFamily 107 = .ok (.iload 4, 2) := by decide +kernel
theorem d_Mod_isFamily_109 : decode b_Mod_isFamily 109 = .ok (.iadd, 1) := by decide +kernel
theorem d_Mod_isFamily_110 : decode b_Mod_isFamily 110 = .ok (.if_icmp .ge 30, 3) := by decide +kernel
theorem d_Mod_isFamily_113 : decode b_Mod_isFamily 113 = .ok (.aload_n 0, 1) := by decide +kernel
theorem d_Mod_isFamily_114 : decode b_Mod_isFamily 114 = .ok (.aload_n 0, 1) := by decide +kernel
theorem d_Mod_isFamily_115 : decode b_Mod_isFamily 115 = .ok (.iload_n 1, 1) := by decide +kernel
theorem d_Mod_isFamily_116 : decode b_Mod_isFamily 116 = .ok (.iload_n 3, 1) := by decide +kernel
theorem d_Mod_isFamily_117 : decode b_Mod_isFamily 117 = .ok (.iload 4, 2) := by decide +kernel
theorem d_Mod_isFamily_119 : decode b_Mod_isFamily 119 = .ok (.iadd, 1) := by decide +kernel
theorem d_Mod_isFamily_120 : decode b_Mod_isFamily 120 = .ok (.iload 6, 2) := by decide +kernel
theorem d_Mod_isFamily_122 : decode b_Mod_isFamily 122 = .ok (.invokevirtual 440, 3) := by decide +kernel
theorem d_Mod_isFamily_125 : decode b_Mod_isFamily 125 = .ok (.iload_n 2, 1) := by decide +kernel
theorem d_Mod_isFamily_126 : decode b_Mod_isFamily 126 = .ok (.invokevirtual 367, 3) := by decide +kernel
theorem d_Mod_isFamily_129 : decode b_Mod_isFamily 129 = .ok (.ifCond .eq 5, 3) := by decide +kernel
theorem d_Mod_isFamily_132 : decode b_Mod_isFamily 132 = .ok (.iconst 0, 1) := by decide +kernel
theorem d_Mod_isFamily_133 : decode b_Mod_isFamily 133 = .ok (.ireturn, 1) := by decide +kernel
theorem d_Mod_isFamily_134 : decode b_Mod_isFamily 134 = .ok (.iinc 6 1, 3) := by decide +kernel
theorem d_Mod_isFamily_137 : decode b_Mod_isFamily 137 = .ok (.goto (-33), 3) := by decide +kernel
theorem d_Mod_isFamily_140 : decode b_Mod_isFamily 140 = .ok (.iconst 1, 1) := by decide +kernel
theorem d_Mod_isFamily_141 : decode b_Mod_isFamily 141 = .ok (.ireturn, 1) := by decide +kernel
theorem d_Mod_telescope_0 : decode b_Mod_telescope 0 = .ok (.iload_n 2, 1) := by decide +kernel
theorem d_Mod_telescope_1 : decode b_Mod_telescope 1 = .ok (.istore_n 3, 1) := by decide +kernel
theorem d_Mod_telescope_2 : decode b_Mod_telescope 2 = .ok (.iload_n 1, 1) := by decide +kernel
theorem d_Mod_telescope_3 : decode b_Mod_telescope 3 = .ok (.iconst 1, 1) := by decide +kernel
theorem d_Mod_telescope_4 : decode b_Mod_telescope 4 = .ok (.isub, 1) := by decide +kernel
theorem d_Mod_telescope_5 : decode b_Mod_telescope 5 = .ok (.istore 4, 2) := by decide +kernel
theorem d_Mod_telescope_7 : decode b_Mod_telescope 7 = .ok (.iload 4, 2) := by decide +kernel
theorem d_Mod_telescope_9 : decode b_Mod_telescope 9 = .ok (.ifCond .lt 29, 3) := by decide +kernel
theorem d_Mod_telescope_12 : decode b_Mod_telescope 12 = .ok (.aload_n 0, 1) := by decide +kernel
theorem d_Mod_telescope_13 : decode b_Mod_telescope 13 = .ok (.aload_n 0, 1) := by decide +kernel
theorem d_Mod_telescope_14 : decode b_Mod_telescope 14 = .ok (.bipush 6, 2) := by decide +kernel
theorem d_Mod_telescope_16 : decode b_Mod_telescope 16 = .ok (.aload_n 0, 1) := by decide +kernel
theorem d_Mod_telescope_17 : decode b_Mod_telescope 17 = .ok (.getfield 162, 3) := by decide +kernel
theorem d_Mod_telescope_20 : decode b_Mod_telescope 20 = .ok (.iload 4, 2) := by decide +kernel
theorem d_Mod_telescope_22 : decode b_Mod_telescope 22 = .ok (.iaload, 1) := by decide +kernel
theorem d_Mod_telescope_23 : decode b_Mod_telescope 23 = .ok (.iload_n 3, 1) := by decide +kernel
theorem d_Mod_telescope_24 : decode b_Mod_telescope 24 = .ok (.iconst 0, 1) := by decide +kernel
theorem d_Mod_telescope_25 : decode b_Mod_telescope 25 = .ok (.invokevirtual 336, 3) := by decide +kernel
theorem d_Mod_telescope_28 : decode b_Mod_telescope 28 = .ok (.invokevirtual 402, 3) := by decide +kernel
theorem d_Mod_telescope_31 : decode b_Mod_telescope 31 = .ok (.istore_n 3, 1) := by decide +kernel
theorem d_Mod_telescope_32 : decode b_Mod_telescope 32 = .ok (.iinc 4 (-1), 3) := by decide +kernel
theorem d_Mod_telescope_35 : decode b_Mod_telescope 35 = .ok (.goto (-28), 3) := by decide +kernel
theorem d_Mod_telescope_38 : decode b_Mod_telescope 38 = .ok (.iload_n 3, 1) := by decide +kernel
theorem d_Mod_telescope_39 : decode b_Mod_telescope 39 = .ok (.ireturn, 1) := by decide +kernel
theorem d_Mod_constructor_0 : decode b_Mod_constructor 0 = .ok (.aload_n 0, 1) := by decide +kernel
theorem d_Mod_constructor_1 : decode b_Mod_constructor 1 = .ok (.aload_n 0, 1) := by decide +kernel
theorem d_Mod_constructor_2 : decode b_Mod_constructor 2 = .ok (.getfield 211, 3) := by decide +kernel
theorem d_Mod_constructor_5 : decode b_Mod_constructor 5 = .ok (.iload_n 3, 1) := by decide +kernel
theorem d_Mod_constructor_6 : decode b_Mod_constructor 6 = .ok (.iaload, 1) := by decide +kernel
theorem d_Mod_constructor_7 : decode b_Mod_constructor 7 = .ok (.iload 5, 2) := by decide +kernel
theorem d_Mod_constructor_9 : decode b_Mod_constructor 9 = .ok (.iload 5, 2) := by decide +kernel
theorem d_Mod_constructor_11 : decode b_Mod_constructor 11 = .ok (.invokevirtual 513, 3) := by decide +kernel
theorem d_Mod_constructor_14 : decode b_Mod_constructor 14 = .ok (.istore 7, 2) := by decide +kernel
theorem d_Mod_constructor_16 : decode b_Mod_constructor 16 = .ok (.aload_n 0, 1) := by decide +kernel
theorem d_Mod_constructor_17 : decode b_Mod_constructor 17 = .ok (.getfield 217, 3) := by decide +kernel
theorem d_Mod_constructor_20 : decode b_Mod_constructor 20 = .ok (.iload_n 3, 1) := by decide +kernel
theorem d_Mod_constructor_21 : decode b_Mod_constructor 21 = .ok (.aload_n 0, 1) := by decide +kernel
theorem d_Mod_constructor_22 : decode b_Mod_constructor 22 = .ok (.getfield 232, 3) := by decide +kernel
theorem d_Mod_constructor_25 : decode b_Mod_constructor 25 = .ok (.iastore, 1) := by decide +kernel
theorem d_Mod_constructor_26 : decode b_Mod_constructor 26 = .ok (.aload_n 0, 1) := by decide +kernel
theorem d_Mod_constructor_27 : decode b_Mod_constructor 27 = .ok (.getfield 244, 3) := by decide +kernel
theorem d_Mod_constructor_30 : decode b_Mod_constructor 30 = .ok (.iload_n 3, 1) := by decide +kernel
theorem d_Mod_constructor_31 : decode b_Mod_constructor 31 = .ok (.iconst 0, 1) := by decide +kernel
theorem d_Mod_constructor_32 : decode b_Mod_constructor 32 = .ok (.iastore, 1) := by decide +kernel
theorem d_Mod_constructor_33 : decode b_Mod_constructor 33 = .ok (.aload_n 0, 1) := by decide +kernel
theorem d_Mod_constructor_34 : decode b_Mod_constructor 34 = .ok (.getfield 128, 3) := by decide +kernel
theorem d_Mod_constructor_37 : decode b_Mod_constructor 37 = .ok (.iload_n 2, 1) := by decide +kernel
theorem d_Mod_constructor_38 : decode b_Mod_constructor 38 = .ok (.iconst 0, 1) := by decide +kernel
theorem d_Mod_constructor_39 : decode b_Mod_constructor 39 = .ok (.iastore, 1) := by decide +kernel
theorem d_Mod_constructor_40 : decode b_Mod_constructor 40 = .ok (.iload 7, 2) := by decide +kernel
theorem d_Mod_constructor_42 : decode b_Mod_constructor 42 = .ok (.istore 8, 2) := by decide +kernel
theorem d_Mod_constructor_44 : decode b_Mod_constructor 44 = .ok (.aload_n 0, 1) := by decide +kernel
theorem d_Mod_constructor_45 : decode b_Mod_constructor 45 = .ok (.getfield 55, 3) := by decide +kernel
theorem d_Mod_constructor_48 : decode b_Mod_constructor 48 = .ok (.iload 8, 2) := by decide +kernel
theorem d_Mod_constructor_50 : decode b_Mod_constructor 50 = .ok (.baload, 1) := by decide +kernel
theorem d_Mod_constructor_51 : decode b_Mod_constructor 51 = .ok (.bipush 6, 2) := by decide +kernel
theorem d_Mod_constructor_53 : decode b_Mod_constructor 53 = .ok (.if_icmp .ne 227, 3) := by decide +kernel
theorem d_Mod_constructor_56 : decode b_Mod_constructor 56 = .ok (.aload_n 0, 1) := by decide +kernel
theorem d_Mod_constructor_57 : decode b_Mod_constructor 57 = .ok (.getfield 58, 3) := by decide +kernel
theorem d_Mod_constructor_60 : decode b_Mod_constructor 60 = .ok (.iload 8, 2) := by decide +kernel
theorem d_Mod_constructor_62 : decode b_Mod_constructor 62 = .ok (.iaload, 1) := by decide +kernel
theorem d_Mod_constructor_63 : decode b_Mod_constructor 63 = .ok (.istore 9, 2) := by decide +kernel
theorem d_Mod_constructor_65 : decode b_Mod_constructor 65 = .ok (.aload_n 0, 1) := by decide +kernel
theorem d_Mod_constructor_66 : decode b_Mod_constructor 66 = .ok (.iload 9, 2) := by decide +kernel
theorem d_Mod_constructor_68 : decode b_Mod_constructor 68 = .ok (.iconst 0, 1) := by decide +kernel
theorem d_Mod_constructor_69 : decode b_Mod_constructor 69 = .ok (.invokevirtual 477, 3) := by decide +kernel
theorem d_Mod_constructor_72 : decode b_Mod_constructor 72 = .ok (.istore 10, 2) := by decide +kernel
theorem d_Mod_constructor_74 : decode b_Mod_constructor 74 = .ok (.iload 4, 2) := by decide +kernel
theorem d_Mod_constructor_76 : decode b_Mod_constructor 76 = .ok (.ifCond .eq 16, 3) := by decide +kernel
theorem d_Mod_constructor_79 : decode b_Mod_constructor 79 = .ok (.iload 10, 2) := by decide +kernel
theorem d_Mod_constructor_81 : decode b_Mod_constructor 81 = .ok (.iload 4, 2) := by decide +kernel
theorem d_Mod_constructor_83 : decode b_Mod_constructor 83 = .ok (.if_icmp .le 9, 3) := by decide +kernel
theorem d_Mod_constructor_86 : decode b_Mod_constructor 86 = .ok (.bipush 7, 2) := by decide +kernel
theorem d_Mod_constructor_88 : decode b_Mod_constructor 88 = .ok (.invokestatic 323, 3) := by decide +kernel
theorem d_Mod_constructor_91 : decode b_Mod_constructor 91 = .ok (.athrow, 1) := by decide +kernel
theorem d_Mod_constructor_92 : decode b_Mod_constructor 92 = .ok (.aload_n 0, 1) := by decide +kernel
theorem d_Mod_constructor_93 : decode b_Mod_constructor 93 = .ok (.iload 9, 2) := by decide +kernel
theorem d_Mod_constructor_95 : decode b_Mod_constructor 95 = .ok (.iload_n 1, 1) := by decide +kernel
theorem d_Mod_constructor_96 : decode b_Mod_constructor 96 = .ok (.invokevirtual 367, 3) := by decide +kernel
theorem d_Mod_constructor_99 : decode b_Mod_constructor 99 = .ok (.istore 11, 2) := by decide +kernel
theorem d_Mod_constructor_101 : decode b_Mod_constructor 101 = .ok (.iload 11, 2) := by decide +kernel
theorem d_Mod_constructor_103 : decode b_Mod_constructor 103 = .ok (.ifCond .eq 82, 3) := by decide +kernel
theorem d_Mod_constructor_106 : decode b_Mod_constructor 106 = .ok (.iload 9, 2) := by decide +kernel
theorem d_Mod_constructor_108 : decode b_Mod_constructor 108 = .ok (.istore 12, 2) := by decide +kernel
theorem d_Mod_constructor_110 : decode b_Mod_constructor 110 = .ok (.aload_n 0, 1) := by decide +kernel
theorem d_Mod_constructor_111 : decode b_Mod_constructor 111 = .ok (.getfield 55, 3) := by decide +kernel
theorem d_Mod_constructor_114 : decode b_Mod_constructor 114 = .ok (.iload 12, 2) := by decide +kernel
theorem d_Mod_constructor_116 : decode b_Mod_constructor 116 = .ok (.baload, 1) := by decide +kernel
theorem d_Mod_constructor_117 : decode b_Mod_constructor 117 = .ok (.bipush 6, 2) := by decide +kernel
theorem d_Mod_constructor_119 : decode b_Mod_constructor 119 = .ok (.if_icmp .ne 36, 3) := by decide +kernel
theorem d_Mod_constructor_122 : decode b_Mod_constructor 122 = .ok (.aload_n 0, 1) := by decide +kernel
theorem d_Mod_constructor_123 : decode b_Mod_constructor 123 = .ok (.aload_n 0, 1) := by decide +kernel
theorem d_Mod_constructor_124 : decode b_Mod_constructor 124 = .ok (.getfield 58, 3) := by decide +kernel
theorem d_Mod_constructor_127 : decode b_Mod_constructor 127 = .ok (.iload 12, 2) := by decide +kernel
theorem d_Mod_constructor_129 : decode b_Mod_constructor 129 = .ok (.iaload, 1) := by decide +kernel
theorem d_Mod_constructor_130 : decode b_Mod_constructor 130 = .ok (.iload_n 1, 1) := by decide +kernel
theorem d_Mod_constructor_131 : decode b_Mod_constructor 131 = .ok (.invokevirtual 367, 3) := by decide +kernel
theorem d_Mod_constructor_134 : decode b_Mod_constructor 134 = .ok (.ifCond .eq 9, 3) := by decide +kernel
theorem d_Mod_constructor_137 : decode b_Mod_constructor 137 = .ok (.bipush 8, 2) := by decide +kernel
theorem d_Mod_constructor_139 : decode b_Mod_constructor 139 = .ok (.invokestatic 323, 3) := by decide +kernel
theorem d_Mod_constructor_142 : decode b_Mod_constructor 142 = .ok (.athrow, 1) := by decide +kernel
theorem d_Mod_constructor_143 : decode b_Mod_constructor 143 = .ok (.aload_n 0, 1) := by decide +kernel
theorem d_Mod_constructor_144 : decode b_Mod_constructor 144 = .ok (.getfield 62, 3) := by decide +kernel
theorem d_Mod_constructor_147 : decode b_Mod_constructor 147 = .ok (.iload 12, 2) := by decide +kernel
theorem d_Mod_constructor_149 : decode b_Mod_constructor 149 = .ok (.iaload, 1) := by decide +kernel
theorem d_Mod_constructor_150 : decode b_Mod_constructor 150 = .ok (.istore 12, 2) := by decide +kernel
theorem d_Mod_constructor_152 : decode b_Mod_constructor 152 = .ok (.goto (-42), 3) := by decide +kernel
theorem d_Mod_constructor_155 : decode b_Mod_constructor 155 = .ok (.aload_n 0, 1) := by decide +kernel
theorem d_Mod_constructor_156 : decode b_Mod_constructor 156 = .ok (.iload 12, 2) := by decide +kernel
theorem d_Mod_constructor_158 : decode b_Mod_constructor 158 = .ok (.iload_n 1, 1) := by decide +kernel
theorem d_Mod_constructor_159 : decode b_Mod_constructor 159 = .ok (.iload 5, 2) := by decide +kernel
theorem d_Mod_constructor_161 : decode b_Mod_constructor 161 = .ok (.iload 6, 2) := by decide +kernel
theorem d_Mod_constructor_163 : decode b_Mod_constructor 163 = .ok (.invokevirtual 547, 3) := by decide +kernel
theorem d_Mod_constructor_166 : decode b_Mod_constructor 166 = .ok (.ifCond .ne 9, 3) := by decide +kernel
theorem d_Mod_constructor_169 : decode b_Mod_constructor 169 = .ok (.bipush 8, 2) := by decide +kernel
theorem d_Mod_constructor_171 : decode b_Mod_constructor 171 = .ok (.invokestatic 323, 3) := by decide +kernel
theorem d_Mod_constructor_174 : decode b_Mod_constructor 174 = .ok (.athrow, 1) := by decide +kernel
theorem d_Mod_constructor_175 : decode b_Mod_constructor 175 = .ok (.aload_n 0, 1) := by decide +kernel
theorem d_Mod_constructor_176 : decode b_Mod_constructor 176 = .ok (.getfield 128, 3) := by decide +kernel
theorem d_Mod_constructor_179 : decode b_Mod_constructor 179 = .ok (.iload_n 2, 1) := by decide +kernel
theorem d_Mod_constructor_180 : decode b_Mod_constructor 180 = .ok (.dup2, 1) := by decide +kernel
theorem d_Mod_constructor_181 : decode b_Mod_constructor 181 = .ok (.iaload, 1) := by decide +kernel
theorem d_Mod_constructor_182 : decode b_Mod_constructor 182 = .ok (.iconst 1, 1) := by decide +kernel
theorem d_Mod_constructor_183 : decode b_Mod_constructor 183 = .ok (.iadd, 1) := by decide +kernel
theorem d_Mod_constructor_184 : decode b_Mod_constructor 184 = .ok (.iastore, 1) := by decide +kernel
theorem d_Mod_constructor_185 : decode b_Mod_constructor 185 = .ok (.aload_n 0, 1) := by decide +kernel
theorem d_Mod_constructor_186 : decode b_Mod_constructor 186 = .ok (.iload 9, 2) := by decide +kernel
theorem d_Mod_constructor_188 : decode b_Mod_constructor 188 = .ok (.invokevirtual 468, 3) := by decide +kernel
theorem d_Mod_constructor_191 : decode b_Mod_constructor 191 = .ok (.istore 12, 2) := by decide +kernel
theorem d_Mod_constructor_193 : decode b_Mod_constructor 193 = .ok (.aload_n 0, 1) := by decide +kernel
theorem d_Mod_constructor_194 : decode b_Mod_constructor 194 = .ok (.getfield 223, 3) := by decide +kernel
theorem d_Mod_constructor_197 : decode b_Mod_constructor 197 = .ok (.aload_n 0, 1) := by decide +kernel
theorem d_Mod_constructor_198 : decode b_Mod_constructor 198 = .ok (.getfield 232, 3) := by decide +kernel
theorem d_Mod_constructor_201 : decode b_Mod_constructor 201 = .ok (.aload_n 0, 1) := by decide +kernel
theorem d_Mod_constructor_202 : decode b_Mod_constructor 202 = .ok (.getfield 58, 3) := by decide +kernel
theorem d_Mod_constructor_205 : decode b_Mod_constructor 205 = .ok (.iload 12, 2) := by decide +kernel
theorem d_Mod_constructor_207 : decode b_Mod_constructor 207 = .ok (.iaload, 1) := by decide +kernel
theorem d_Mod_constructor_208 : decode b_Mod_constructor 208 = .ok (.iastore, 1) := by decide +kernel
theorem d_Mod_constructor_209 : decode b_Mod_constructor 209 = .ok (.aload_n 0, 1) := by decide +kernel
theorem d_Mod_constructor_210 : decode b_Mod_constructor 210 = .ok (.getfield 226, 3) := by decide +kernel
theorem d_Mod_constructor_213 : decode b_Mod_constructor 213 = .ok (.aload_n 0, 1) := by decide +kernel
theorem d_Mod_constructor_214 : decode b_Mod_constructor 214 = .ok (.getfield 232, 3) := by decide +kernel
theorem d_Mod_constructor_217 : decode b_Mod_constructor 217 = .ok (.iload 11, 2) := by decide +kernel
theorem d_Mod_constructor_219 : decode b_Mod_constructor 219 = .ok (.bastore, 1) := by decide +kernel
theorem d_Mod_constructor_220 : decode b_Mod_constructor 220 = .ok (.aload_n 0, 1) := by decide +kernel
theorem d_Mod_constructor_221 : decode b_Mod_constructor 221 = .ok (.getfield 229, 3) := by decide +kernel
theorem d_Mod_constructor_224 : decode b_Mod_constructor 224 = .ok (.aload_n 0, 1) := by decide +kernel
theorem d_Mod_constructor_225 : decode b_Mod_constructor 225 = .ok (.dup, 1) := by decide +kernel
theorem d_Mod_constructor_226 : decode b_Mod_constructor 226 = .ok (.getfield 232, 3) := by decide +kernel
theorem d_Mod_constructor_229 : decode b_Mod_constructor 229 = .ok (.dup_x1, 1) := by decide +kernel
theorem d_Mod_constructor_230 : decode b_Mod_constructor 230 = .ok (.iconst 1, 1) := by decide +kernel
theorem d_Mod_constructor_231 : decode b_Mod_constructor 231 = .ok (.iadd, 1) := by decide +kernel
theorem d_Mod_constructor_232 : decode b_Mod_constructor 232 = .ok (.putfield 232, 3) := by decide +kernel
theorem d_Mod_constructor_235 : decode b_Mod_constructor 235 = .ok (.iload 10, 2) := by decide +kernel
theorem d_Mod_constructor_237 : decode b_Mod_constructor 237 = .ok (.ifCond .ne 7, 3) := by decide +kernel
theorem d_Mod_constructor_240 : decode b_Mod_constructor 240 = .ok (.iconst 1, 1) := by decide +kernel
theorem d_Mod_constructor_241 : decode b_Mod_constructor 241 = .ok (.goto 4, 3) := by decide +kernel
theorem d_Mod_constructor_244 : decode b_Mod_constructor 244 = .ok (.iconst 0, 1) := by decide +kernel
theorem d_Mod_constructor_245 : decode b_Mod_constructor 245 = .ok (.bastore, 1) := by decide +kernel
theorem d_Mod_constructor_246 : decode b_Mod_constructor 246 = .ok (.aload_n 0, 1) := by decide +kernel
theorem d_Mod_constructor_247 : decode b_Mod_constructor 247 = .ok (.aload_n 0, 1) := by decide +kernel
theorem d_Mod_constructor_248 : decode b_Mod_constructor 248 = .ok (.getfield 62, 3) := by decide +kernel
theorem d_Mod_constructor_251 : decode b_Mod_constructor 251 = .ok (.iload 8, 2) := by decide +kernel
theorem d_Mod_constructor_253 : decode b_Mod_constructor 253 = .ok (.iaload, 1) := by decide +kernel
theorem d_Mod_constructor_254 : decode b_Mod_constructor 254 = .ok (.iload 12, 2) := by decide +kernel
theorem d_Mod_constructor_256 : decode b_Mod_constructor 256 = .ok (.invokevirtual 471, 3) := by decide +kernel
theorem d_Mod_constructor_259 : decode b_Mod_constructor 259 = .ok (.istore 8, 2) := by decide +kernel
theorem d_Mod_constructor_261 : decode b_Mod_constructor 261 = .ok (.aload_n 0, 1) := by decide +kernel
theorem d_Mod_constructor_262 : decode b_Mod_constructor 262 = .ok (.getfield 244, 3) := by decide +kernel
theorem d_Mod_constructor_265 : decode b_Mod_constructor 265 = .ok (.iload_n 3, 1) := by decide +kernel
theorem d_Mod_constructor_266 : decode b_Mod_constructor 266 = .ok (.dup2, 1) := by decide +kernel
theorem d_Mod_constructor_267 : decode b_Mod_constructor 267 = .ok (.iaload, 1) := by decide +kernel
theorem d_Mod_constructor_268 : decode b_Mod_constructor 268 = .ok (.aload_n 0, 1) := by decide +kernel
theorem d_Mod_constructor_269 : decode b_Mod_constructor 269 = .ok (.getfield 68, 3) := by decide +kernel
theorem d_Mod_constructor_272 : decode b_Mod_constructor 272 = .ok (.iload 8, 2) := by decide +kernel
theorem d_Mod_constructor_274 : decode b_Mod_constructor 274 = .ok (.iaload, 1) := by decide +kernel
theorem d_Mod_constructor_275 : decode b_Mod_constructor 275 = .ok (.iadd, 1) := by decide +kernel
theorem d_Mod_constructor_276 : decode b_Mod_constructor 276 = .ok (.iastore, 1) := by decide +kernel
theorem d_Mod_constructor_277 : decode b_Mod_constructor 277 = .ok (.goto (-233), 3) := by decide +kernel
theorem d_Mod_constructor_280 : decode b_Mod_constructor 280 = .ok (.aload_n 0, 1) := by decide +kernel
theorem d_Mod_constructor_281 : decode b_Mod_constructor 281 = .ok (.iload 8, 2) := by decide +kernel
theorem d_Mod_constructor_283 : decode b_Mod_constructor 283 = .ok (.iload_n 1, 1) := by decide +kernel
theorem d_Mod_constructor_284 : decode b_Mod_constructor 284 = .ok (.iload 5, 2) := by decide +kernel
theorem d_Mod_constructor_286 : decode b_Mod_constructor 286 = .ok (.iload 6, 2) := by decide +kernel
theorem d_Mod_constructor_288 : decode b_Mod_constructor 288 = .ok (.invokevirtual 547, 3) := by decide +kernel
theorem d_Mod_constructor_291 : decode b_Mod_constructor 291 = .ok (.ifCond .ne 9, 3) := by decide +kernel
theorem d_Mod_constructor_294 : decode b_Mod_constructor 294 = .ok (.bipush 8, 2) := by decide +kernel
theorem d_Mod_constructor_296 : decode b_Mod_constructor 296 = .ok (.invokestatic 323, 3) := by decide +kernel
theorem d_Mod_constructor_299 : decode b_Mod_constructor 299 = .ok (.athrow, 1) := by decide +kernel
theorem d_Mod_constructor_300 : decode b_Mod_constructor 300 = .ok (.aload_n 0, 1) := by decide +kernel
theorem d_Mod_constructor_301 : decode b_Mod_constructor 301 = .ok (.getfield 220, 3) := by decide +kernel
theorem d_Mod_constructor_304 : decode b_Mod_constructor 304 = .ok (.iload_n 3, 1) := by decide +kernel
theorem d_Mod_constructor_305 : decode b_Mod_constructor 305 = .ok (.iload 8, 2) := by decide +kernel
theorem d_Mod_constructor_307 : decode b_Mod_constructor 307 = .ok (.iastore, 1) := by decide +kernel
theorem d_Mod_constructor_308 : decode b_Mod_constructor 308 = .ok (.aload_n 0, 1) := by decide +kernel
theorem d_Mod_constructor_309 : decode b_Mod_constructor 309 = .ok (.getfield 214, 3) := by decide +kernel
theorem d_Mod_constructor_312 : decode b_Mod_constructor 312 = .ok (.iload_n 3, 1) := by decide +kernel
theorem d_Mod_constructor_313 : decode b_Mod_constructor 313 = .ok (.aload_n 0, 1) := by decide +kernel
theorem d_Mod_constructor_314 : decode b_Mod_constructor 314 = .ok (.aload_n 0, 1) := by decide +kernel
theorem d_Mod_constructor_315 : decode b_Mod_constructor 315 = .ok (.iload 5, 2) := by decide +kernel
theorem d_Mod_constructor_317 : decode b_Mod_constructor 317 = .ok (.aload_n 0, 1) := by decide +kernel
theorem d_Mod_constructor_318 : decode b_Mod_constructor 318 = .ok (.getfield 211, 3) := by decide +kernel
theorem d_Mod_constructor_321 : decode b_Mod_constructor 321 = .ok (.iload_n 3, 1) := by decide +kernel
theorem d_Mod_constructor_322 : decode b_Mod_constructor 322 = .ok (.iaload, 1) := by decide +kernel
theorem d_Mod_constructor_323 : decode b_Mod_constructor 323 = .ok (.invokevirtual 534, 3) := by decide +kernel
theorem d_Mod_constructor_326 : decode b_Mod_constructor 326 = .ok (.iconst 0, 1) := by decide +kernel
theorem d_Mod_constructor_327 : decode b_Mod_constructor 327 = .ok (.iconst 0, 1) := by decide +kernel
theorem d_Mod_constructor_328 : decode b_Mod_constructor 328 = .ok (.invokevirtual 513, 3) := by decide +kernel
theorem d_Mod_constructor_331 : decode b_Mod_constructor 331 = .ok (.iastore, 1) := by decide +kernel
theorem d_Mod_constructor_332 : decode b_Mod_constructor 332 = .ok (.aload_n 0, 1) := by decide +kernel
theorem d_Mod_constructor_333 : decode b_Mod_constructor 333 = .ok (.getfield 74, 3) := by decide +kernel
theorem d_Mod_constructor_336 : decode b_Mod_constructor 336 = .ok (.istore 9, 2) := by decide +kernel
theorem d_Mod_constructor_338 : decode b_Mod_constructor 338 = .ok (.aload_n 0, 1) := by decide +kernel
theorem d_Mod_constructor_339 : decode b_Mod_constructor 339 = .ok (.aload_n 0, 1) := by decide +kernel
theorem d_Mod_constructor_340 : decode b_Mod_constructor 340 = .ok (.getfield 214, 3) := by decide +kernel
theorem d_Mod_constructor_343 : decode b_Mod_constructor 343 = .ok (.iload_n 3, 1) := by decide +kernel
theorem d_Mod_constructor_344 : decode b_Mod_constructor 344 = .ok (.iaload, 1) := by decide +kernel
theorem d_Mod_constructor_345 : decode b_Mod_constructor 345 = .ok (.iconst 0, 1) := by decide +kernel
theorem d_Mod_constructor_346 : decode b_Mod_constructor 346 = .ok (.invokevirtual 477, 3) := by decide +kernel
theorem d_Mod_constructor_349 : decode b_Mod_constructor 349 = .ok (.pop, 1) := by decide +kernel
theorem d_Mod_constructor_350 : decode b_Mod_constructor 350 = .ok (.aload_n 0, 1) := by decide +kernel
theorem d_Mod_constructor_351 : decode b_Mod_constructor 351 = .ok (.iload 9, 2) := by decide +kernel
theorem d_Mod_constructor_353 : decode b_Mod_constructor 353 = .ok (.putfield 74, 3) := by decide +kernel
theorem d_Mod_constructor_356 : decode b_Mod_constructor 356 = .ok (.aload_n 0, 1) := by decide +kernel
theorem d_Mod_constructor_357 : decode b_Mod_constructor 357 = .ok (.getfield 107, 3) := by decide +kernel
theorem d_Mod_constructor_360 : decode b_Mod_constructor 360 = .ok (.iload_n 2, 1) := by decide +kernel
theorem d_Mod_constructor_361 : decode b_Mod_constructor 361 = .ok (.iconst 4, 1) := by decide +kernel
theorem d_Mod_constructor_362 : decode b_Mod_constructor 362 = .ok (.iastore, 1) := by decide +kernel
theorem d_Mod_constructor_363 : decode b_Mod_constructor 363 = .ok (.aload_n 0, 1) := by decide +kernel
theorem d_Mod_constructor_364 : decode b_Mod_constructor 364 = .ok (.getfield 140, 3) := by decide +kernel
theorem d_Mod_constructor_367 : decode b_Mod_constructor 367 = .ok (.iload_n 2, 1) := by decide +kernel
theorem d_Mod_constructor_368 : decode b_Mod_constructor 368 = .ok (.iload_n 1, 1) := by decide +kernel
theorem d_Mod_constructor_369 : decode b_Mod_constructor 369 = .ok (.iastore, 1) := by decide +kernel
theorem d_Mod_constructor_370 : decode b_Mod_constructor 370 = .ok (.aload_n 0, 1) := by decide +kernel
theorem d_Mod_constructor_371 : decode b_Mod_constructor 371 = .ok (.getfield 125, 3) := by decide +kernel
theorem d_Mod_constructor_374 : decode b_Mod_constructor 374 = .ok (.iload_n 2, 1) := by decide +kernel
theorem d_Mod_constructor_375 : decode b_Mod_constructor 375 = .ok (.aload_n 0, 1) := by decide +kernel
theorem d_Mod_constructor_376 : decode b_Mod_constructor 376 = .ok (.getfield 232, 3) := by decide +kernel
theorem d_Mod_constructor_379 : decode b_Mod_constructor 379 = .ok (.aload_n 0, 1) := by decide +kernel
theorem d_Mod_constructor_380 : decode b_Mod_constructor 380 = .ok (.getfield 217, 3) := by decide +kernel
theorem d_Mod_constructor_383 : decode b_Mod_constructor 383 = .ok (.iload_n 3, 1) := by decide +kernel
theorem d_Mod_constructor_384 : decode b_Mod_constructor 384 = .ok (.iaload, 1) := by decide +kernel
theorem d_Mod_constructor_385 : decode b_Mod_constructor 385 = .ok (.isub, 1) := by decide +kernel
theorem d_Mod_constructor_386 : decode b_Mod_constructor 386 = .ok (.iastore, 1) := by decide +kernel
theorem d_Mod_constructor_387 : decode b_Mod_constructor 387 = .ok (.aload_n 0, 1) := by decide +kernel
theorem d_Mod_constructor_388 : decode b_Mod_constructor 388 = .ok (.getfield 116, 3) := by decide +kernel
theorem d_Mod_constructor_391 : decode b_Mod_constructor 391 = .ok (.iload_n 2, 1) := by decide +kernel
theorem d_Mod_constructor_392 : decode b_Mod_constructor 392 = .ok (.iload 5, 2) := by decide +kernel
theorem d_Mod_constructor_394 : decode b_Mod_constructor 394 = .ok (.iastore, 1) := by decide +kernel
theorem d_Mod_constructor_395 : decode b_Mod_constructor 395 = .ok (.aload_n 0, 1) := by decide +kernel
theorem d_Mod_constructor_396 : decode b_Mod_constructor 396 = .ok (.getfield 119, 3) := by decide +kernel
theorem d_Mod_constructor_399 : decode b_Mod_constructor 399 = .ok (.iload_n 2, 1) := by decide +kernel
theorem d_Mod_constructor_400 : decode b_Mod_constructor 400 = .ok (.iconst 0, 1) := by decide +kernel
theorem d_Mod_constructor_401 : decode b_Mod_constructor 401 = .ok (.iastore, 1) := by decide +kernel
theorem d_Mod_constructor_402 : decode b_Mod_constructor 402 = .ok (.aload_n 0, 1) := by decide +kernel
theorem d_Mod_constructor_403 : decode b_Mod_constructor 403 = .ok (.getfield 122, 3) := by decide +kernel
theorem d_Mod_constructor_406 : decode b_Mod_constructor 406 = .ok (.iload_n 2, 1) := by decide +kernel
theorem d_Mod_constructor_407 : decode b_Mod_constructor 407 = .ok (.iconst 0, 1) := by decide +kernel
theorem d_Mod_constructor_408 : decode b_Mod_constructor 408 = .ok (.iastore, 1) := by decide +kernel
theorem d_Mod_constructor_409 : decode b_Mod_constructor 409 = .ok (.aload_n 0, 1) := by decide +kernel
theorem d_Mod_constructor_410 : decode b_Mod_constructor 410 = .ok (.getfield 113, 3) := by decide +kernel
theorem d_Mod_constructor_413 : decode b_Mod_constructor 413 = .ok (.iload_n 2, 1) := by decide +kernel
theorem d_Mod_constructor_414 : decode b_Mod_constructor 414 = .ok (.iconst (-1), 1) := by decide +kernel
theorem d_Mod_constructor_415 : decode b_Mod_constructor 415 = .ok (.iastore, 1) := by decide +kernel
theorem d_Mod_constructor_416 : decode b_Mod_constructor 416 = .ok (.return_, 1) := by decide +kernel
theorem d_Mod_count_0 : decode b_Mod_count 0 = .ok (.aload_n 0, 1) := by decide +kernel
theorem d_Mod_count_1 : decode b_Mod_count 1 = .ok (.iconst 0, 1) := by decide +kernel
theorem d_Mod_count_2 : decode b_Mod_count 2 = .ok (.putfield 29, 3) := by decide +kernel
theorem d_Mod_count_5 : decode b_Mod_count 5 = .ok (.iload_n 1, 1) := by decide +kernel
theorem d_Mod_count_6 : decode b_Mod_count 6 = .ok (.tableswitch 68 0 5 #[38, 43, 48, 53, 58, 63], 38) := by decide +kernel
theorem d_Mod_count_44 : decode b_Mod_count 44 = .ok (.aload_n 0, 1) := by decide +kernel
theorem d_Mod_count_45 : decode b_Mod_count 45 = .ok (.getfield 104, 3) := by decide +kernel
theorem d_Mod_count_48 : decode b_Mod_count 48 = .ok (.ireturn, 1) := by decide +kernel
theorem d_Mod_count_49 : decode b_Mod_count 49 = .ok (.aload_n 0, 1) := by decide +kernel
theorem d_Mod_count_50 : decode b_Mod_count 50 = .ok (.getfield 199, 3) := by decide +kernel
theorem d_Mod_count_53 : decode b_Mod_count 53 = .ok (.ireturn, 1) := by decide +kernel
theorem d_Mod_count_54 : decode b_Mod_count 54 = .ok (.aload_n 0, 1) := by decide +kernel
theorem d_Mod_count_55 : decode b_Mod_count 55 = .ok (.getfield 202, 3) := by decide +kernel
theorem d_Mod_count_58 : decode b_Mod_count 58 = .ok (.ireturn, 1) := by decide +kernel
theorem d_Mod_count_59 : decode b_Mod_count 59 = .ok (.aload_n 0, 1) := by decide +kernel
theorem d_Mod_count_60 : decode b_Mod_count 60 = .ok (.getfield 150, 3) := by decide +kernel
theorem d_Mod_count_63 : decode b_Mod_count 63 = .ok (.ireturn, 1) := by decide +kernel
theorem d_Mod_count_64 : decode b_Mod_count 64 = .ok (.aload_n 0, 1) := by decide +kernel
theorem d_Mod_count_65 : decode b_Mod_count 65 = .ok (.getfield 22, 3) := by decide +kernel
theorem d_Mod_count_68 : decode b_Mod_count 68 = .ok (.ireturn, 1) := by decide +kernel
theorem d_Mod_count_69 : decode b_Mod_count 69 = .ok (.aload_n 0, 1) := by decide +kernel
theorem d_Mod_count_70 : decode b_Mod_count 70 = .ok (.getfield 26, 3) := by decide +kernel
theorem d_Mod_count_73 : decode b_Mod_count 73 = .ok (.ireturn, 1) := by decide +kernel
theorem d_Mod_count_74 : decode b_Mod_count 74 = .ok (.iconst (-1), 1) := by decide +kernel
theorem d_Mod_count_75 : decode b_Mod_count 75 = .ok (.ireturn, 1) := by decide +kernel
theorem d_Mod_newName_0 : decode b_Mod_newName 0 = .ok (.aload_n 0, 1) := by decide +kernel
theorem d_Mod_newName_1 : decode b_Mod_newName 1 = .ok (.invokevirtual 273, 3) := by decide +kernel
theorem d_Mod_newName_4 : decode b_Mod_newName 4 = .ok (.iconst 1, 1) := by decide +kernel
theorem d_Mod_newName_5 : decode b_Mod_newName 5 = .ok (.if_icmp .ne 10, 3) := by decide +kernel
theorem d_Mod_newName_8 : decode b_Mod_newName 8 = .ok (.aload_n 0, 1) := by decide +kernel
theorem d_Mod_newName_9 : decode b_Mod_newName 9 = .ok (.invokevirtual 380, 3) := by decide +kernel
theorem d_Mod_newName_12 : decode b_Mod_newName 12 = .ok (.ifCond .eq 8, 3) := by decide +kernel
theorem d_Mod_newName_15 : decode b_Mod_newName 15 = .ok (.aload_n 0, 1) := by decide +kernel
theorem d_Mod_newName_16 : decode b_Mod_newName 16 = .ok (.invokevirtual 277, 3) := by decide +kernel
theorem d_Mod_newName_19 : decode b_Mod_newName 19 = .ok (.athrow, 1) := by decide +kernel
theorem d_Mod_newName_20 : decode b_Mod_newName 20 = .ok (.aload_n 0, 1) := by decide +kernel
theorem d_Mod_newName_21 : decode b_Mod_newName 21 = .ok (.aload_n 0, 1) := by decide +kernel
theorem d_Mod_newName_22 : decode b_Mod_newName 22 = .ok (.getfield 104, 3) := by decide +kernel
theorem d_Mod_newName_25 : decode b_Mod_newName 25 = .ok (.invokevirtual 373, 3) := by decide +kernel
theorem d_Mod_newName_28 : decode b_Mod_newName 28 = .ok (.ifCond .lt 16, 3) := by decide +kernel
theorem d_Mod_newName_31 : decode b_Mod_newName 31 = .ok (.new 1, 3) := by decide +kernel
theorem d_Mod_newName_34 : decode b_Mod_newName 34 = .ok (.dup, 1) := by decide +kernel
theorem d_Mod_newName_35 : decode b_Mod_newName 35 = .ok (.iconst 2, 1) := by decide +kernel
theorem d_Mod_newName_36 : decode b_Mod_newName 36 = .ok (.aload_n 0, 1) := by decide +kernel
theorem d_Mod_newName_37 : decode b_Mod_newName 37 = .ok (.getfield 44, 3) := by decide +kernel
theorem d_Mod_newName_40 : decode b_Mod_newName 40 = .ok (.invokespecial 3, 3) := by decide +kernel
theorem d_Mod_newName_43 : decode b_Mod_newName 43 = .ok (.athrow, 1) := by decide +kernel
theorem d_Mod_newName_44 : decode b_Mod_newName 44 = .ok (.aload_n 0, 1) := by decide +kernel
theorem d_Mod_newName_45 : decode b_Mod_newName 45 = .ok (.getfield 104, 3) := by decide +kernel
theorem d_Mod_newName_48 : decode b_Mod_newName 48 = .ok (.sipush 300, 3) := by decide +kernel
theorem d_Mod_newName_51 : decode b_Mod_newName 51 = .ok (.if_icmp .ne 9, 3) := by decide +kernel
theorem d_Mod_newName_54 : decode b_Mod_newName 54 = .ok (.bipush 10, 2) := by decide +kernel
theorem d_Mod_newName_56 : decode b_Mod_newName 56 = .ok (.invokestatic 323, 3) := by decide +kernel
theorem d_Mod_newName_59 : decode b_Mod_newName 59 = .ok (.athrow, 1) := by decide +kernel
theorem d_Mod_newName_60 : decode b_Mod_newName 60 = .ok (.aload_n 0, 1) := by decide +kernel
theorem d_Mod_newName_61 : decode b_Mod_newName 61 = .ok (.getfield 95, 3) := by decide +kernel
theorem d_Mod_newName_64 : decode b_Mod_newName 64 = .ok (.aload_n 0, 1) := by decide +kernel
theorem d_Mod_newName_65 : decode b_Mod_newName 65 = .ok (.getfield 104, 3) := by decide +kernel
theorem d_Mod_newName_68 : decode b_Mod_newName 68 = .ok (.aload_n 0, 1) := by decide +kernel
theorem d_Mod_newName_69 : decode b_Mod_newName 69 = .ok (.getfield 101, 3) := by decide +kernel
theorem d_Mod_newName_72 : decode b_Mod_newName 72 = .ok (.iastore, 1) := by decide +kernel
theorem d_Mod_newName_73 : decode b_Mod_newName 73 = .ok (.aload_n 0, 1) := by decide +kernel
theorem d_Mod_newName_74 : decode b_Mod_newName 74 = .ok (.getfield 98, 3) := by decide +kernel
theorem d_Mod_newName_77 : decode b_Mod_newName 77 = .ok (.aload_n 0, 1) := by decide +kernel
theorem d_Mod_newName_78 : decode b_Mod_newName 78 = .ok (.getfield 104, 3) := by decide +kernel
theorem d_Mod_newName_81 : decode b_Mod_newName 81 = .ok (.aload_n 0, 1) := by decide +kernel
theorem d_Mod_newName_82 : decode b_Mod_newName 82 = .ok (.getfield 47, 3) := by decide +kernel
theorem d_Mod_newName_85 : decode b_Mod_newName 85 = .ok (.aload_n 0, 1) := by decide +kernel
theorem d_Mod_newName_86 : decode b_Mod_newName 86 = .ok (.getfield 44, 3) := by decide +kernel
theorem d_Mod_newName_89 : decode b_Mod_newName 89 = .ok (.isub, 1) := by decide +kernel
theorem d_Mod_newName_90 : decode b_Mod_newName 90 = .ok (.iastore, 1) := by decide +kernel
theorem d_Mod_newName_91 : decode b_Mod_newName 91 = .ok (.aload_n 0, 1) := by decide +kernel
theorem d_Mod_newName_92 : decode b_Mod_newName 92 = .ok (.getfield 44, 3) := by decide +kernel
theorem d_Mod_newName_95 : decode b_Mod_newName 95 = .ok (.istore_n 1, 1) := by decide +kernel
theorem d_Mod_newName_96 : decode b_Mod_newName 96 = .ok (.iload_n 1, 1) := by decide +kernel
theorem d_Mod_newName_97 : decode b_Mod_newName 97 = .ok (.aload_n 0, 1) := by decide +kernel
theorem d_Mod_newName_98 : decode b_Mod_newName 98 = .ok (.getfield 47, 3) := by decide +kernel
theorem d_Mod_newName_101 : decode b_Mod_newName 101 = .ok (.if_icmp .ge 31, 3) := by decide +kernel
theorem d_Mod_newName_104 : decode b_Mod_newName 104 = .ok (.aload_n 0, 1) := by decide +kernel
theorem d_Mod_newName_105 : decode b_Mod_newName 105 = .ok (.getfield 92, 3) := by decide +kernel
theorem d_Mod_newName_108 : decode b_Mod_newName 108 = .ok (.aload_n 0, 1) := by decide +kernel
theorem d_Mod_newName_109 : decode b_Mod_newName 109 = .ok (.dup, 1) := by decide +kernel
theorem d_Mod_newName_110 : decode b_Mod_newName 110 = .ok (.getfield 101, 3) := by decide +kernel
theorem d_Mod_newName_113 : decode b_Mod_newName 113 = .ok (.dup_x1, 1) := by decide +kernel
theorem d_Mod_newName_114 : decode b_Mod_newName 114 = .ok (.iconst 1, 1) := by decide +kernel
theorem d_Mod_newName_115 : decode b_Mod_newName 115 = .ok (.iadd, 1) := by decide +kernel
theorem d_Mod_newName_116 : decode b_Mod_newName 116 = .ok (.putfield 101, 3) := by decide +kernel
theorem d_Mod_newName_119 : decode b_Mod_newName 119 = .ok (.aload_n 0, 1) := by decide +kernel
theorem d_Mod_newName_120 : decode b_Mod_newName 120 = .ok (.getfield 13, 3) := by decide +kernel
theorem d_Mod_newName_123 : decode b_Mod_newName 123 = .ok (.iload_n 1, 1) := by decide +kernel
theorem d_Mod_newName_124 : decode b_Mod_newName 124 = .ok (.baload, 1) := by decide +kernel
theorem d_Mod_newName_125 : decode b_Mod_newName 125 = .ok (.bastore, 1) := by decide +kernel
theorem d_Mod_newName_126 : decode b_Mod_newName 126 = .ok (.iinc 1 1, 3) := by decide +kernel
theorem d_Mod_newName_129 : decode b_Mod_newName 129 = .ok (.goto (-33), 3) := by decide +kernel
theorem d_Mod_newName_132 : decode b_Mod_newName 132 = .ok (.aload_n 0, 1) := by decide +kernel
theorem d_Mod_newName_133 : decode b_Mod_newName 133 = .ok (.invokevirtual 281, 3) := by decide +kernel
theorem d_Mod_newName_136 : decode b_Mod_newName 136 = .ok (.return_, 1) := by decide +kernel
theorem d_Mod_room_0 : decode b_Mod_room 0 = .ok (.aload_n 0, 1) := by decide +kernel
theorem d_Mod_room_1 : decode b_Mod_room 1 = .ok (.getfield 150, 3) := by decide +kernel
theorem d_Mod_room_4 : decode b_Mod_room 4 = .ok (.iload_n 1, 1) := by decide +kernel
theorem d_Mod_room_5 : decode b_Mod_room 5 = .ok (.iadd, 1) := by decide +kernel
theorem d_Mod_room_6 : decode b_Mod_room 6 = .ok (.sipush 30000, 3) := by decide +kernel
theorem d_Mod_room_9 : decode b_Mod_room 9 = .ok (.if_icmp .le 9, 3) := by decide +kernel
theorem d_Mod_room_12 : decode b_Mod_room 12 = .ok (.bipush 10, 2) := by decide +kernel
theorem d_Mod_room_14 : decode b_Mod_room 14 = .ok (.invokestatic 323, 3) := by decide +kernel
theorem d_Mod_room_17 : decode b_Mod_room 17 = .ok (.athrow, 1) := by decide +kernel
theorem d_Mod_room_18 : decode b_Mod_room 18 = .ok (.aload_n 0, 1) := by decide +kernel
theorem d_Mod_room_19 : decode b_Mod_room 19 = .ok (.dup, 1) := by decide +kernel
theorem d_Mod_room_20 : decode b_Mod_room 20 = .ok (.getfield 150, 3) := by decide +kernel
theorem d_Mod_room_23 : decode b_Mod_room 23 = .ok (.iload_n 1, 1) := by decide +kernel
theorem d_Mod_room_24 : decode b_Mod_room 24 = .ok (.iadd, 1) := by decide +kernel
theorem d_Mod_room_25 : decode b_Mod_room 25 = .ok (.putfield 150, 3) := by decide +kernel
theorem d_Mod_room_28 : decode b_Mod_room 28 = .ok (.return_, 1) := by decide +kernel
theorem d_Mod_keep_0 : decode b_Mod_keep 0 = .ok (.aload_n 0, 1) := by decide +kernel
theorem d_Mod_keep_1 : decode b_Mod_keep 1 = .ok (.getfield 74, 3) := by decide +kernel
theorem d_Mod_keep_4 : decode b_Mod_keep 4 = .ok (.istore_n 2, 1) := by decide +kernel
theorem d_Mod_keep_5 : decode b_Mod_keep 5 = .ok (.aload_n 0, 1) := by decide +kernel
theorem d_Mod_keep_6 : decode b_Mod_keep 6 = .ok (.aload_n 0, 1) := by decide +kernel
theorem d_Mod_keep_7 : decode b_Mod_keep 7 = .ok (.getfield 147, 3) := by decide +kernel
theorem d_Mod_keep_10 : decode b_Mod_keep 10 = .ok (.putfield 74, 3) := by decide +kernel
theorem d_Mod_keep_13 : decode b_Mod_keep 13 = .ok (.aload_n 0, 1) := by decide +kernel
theorem d_Mod_keep_14 : decode b_Mod_keep 14 = .ok (.iconst 5, 1) := by decide +kernel
theorem d_Mod_keep_15 : decode b_Mod_keep 15 = .ok (.iload_n 1, 1) := by decide +kernel
theorem d_Mod_keep_16 : decode b_Mod_keep 16 = .ok (.iconst 0, 1) := by decide +kernel
theorem d_Mod_keep_17 : decode b_Mod_keep 17 = .ok (.iconst 0, 1) := by decide +kernel
theorem d_Mod_keep_18 : decode b_Mod_keep 18 = .ok (.iconst 0, 1) := by decide +kernel
theorem d_Mod_keep_19 : decode b_Mod_keep 19 = .ok (.invokevirtual 359, 3) := by decide +kernel
theorem d_Mod_keep_22 : decode b_Mod_keep 22 = .ok (.istore_n 3, 1) := by decide +kernel
theorem d_Mod_keep_23 : decode b_Mod_keep 23 = .ok (.aload_n 0, 1) := by decide +kernel
theorem d_Mod_keep_24 : decode b_Mod_keep 24 = .ok (.aload_n 0, 1) := by decide +kernel
theorem d_Mod_keep_25 : decode b_Mod_keep 25 = .ok (.getfield 74, 3) := by decide +kernel
theorem d_Mod_keep_28 : decode b_Mod_keep 28 = .ok (.putfield 147, 3) := by decide +kernel
theorem d_Mod_keep_31 : decode b_Mod_keep 31 = .ok (.aload_n 0, 1) := by decide +kernel
theorem d_Mod_keep_32 : decode b_Mod_keep 32 = .ok (.iload_n 2, 1) := by decide +kernel
theorem d_Mod_keep_33 : decode b_Mod_keep 33 = .ok (.putfield 74, 3) := by decide +kernel
theorem d_Mod_keep_36 : decode b_Mod_keep 36 = .ok (.iload_n 3, 1) := by decide +kernel
theorem d_Mod_keep_37 : decode b_Mod_keep 37 = .ok (.ireturn, 1) := by decide +kernel
theorem d_Mod_stated_0 : decode b_Mod_stated 0 = .ok (.aload_n 0, 1) := by decide +kernel
theorem d_Mod_stated_1 : decode b_Mod_stated 1 = .ok (.invokevirtual 281, 3) := by decide +kernel
theorem d_Mod_stated_4 : decode b_Mod_stated 4 = .ok (.aload_n 0, 1) := by decide +kernel
theorem d_Mod_stated_5 : decode b_Mod_stated 5 = .ok (.invokevirtual 516, 3) := by decide +kernel
theorem d_Mod_stated_8 : decode b_Mod_stated 8 = .ok (.aload_n 0, 1) := by decide +kernel
theorem d_Mod_stated_9 : decode b_Mod_stated 9 = .ok (.bipush 58, 2) := by decide +kernel
theorem d_Mod_stated_11 : decode b_Mod_stated 11 = .ok (.invokevirtual 405, 3) := by decide +kernel
theorem d_Mod_stated_14 : decode b_Mod_stated 14 = .ok (.aload_n 0, 1) := by decide +kernel
theorem d_Mod_stated_15 : decode b_Mod_stated 15 = .ok (.iconst 0, 1) := by decide +kernel
theorem d_Mod_stated_16 : decode b_Mod_stated 16 = .ok (.invokevirtual 399, 3) := by decide +kernel
theorem d_Mod_stated_19 : decode b_Mod_stated 19 = .ok (.istore_n 2, 1) := by decide +kernel
theorem d_Mod_stated_20 : decode b_Mod_stated 20 = .ok (.iconst (-1), 1) := by decide +kernel
theorem d_Mod_stated_21 : decode b_Mod_stated 21 = .ok (.istore_n 3, 1) := by decide +kernel
theorem d_Mod_stated_22 : decode b_Mod_stated 22 = .ok (.iload_n 1, 1) := by decide +kernel
theorem d_Mod_stated_23 : decode b_Mod_stated 23 = .ok (.ifCond .eq 16, 3) := by decide +kernel
theorem d_Mod_stated_26 : decode b_Mod_stated 26 = .ok (.aload_n 0, 1) := by decide +kernel
theorem d_Mod_stated_27 : decode b_Mod_stated 27 = .ok (.sipush 300, 3) := by decide +kernel
theorem d_Mod_stated_30 : decode b_Mod_stated 30 = .ok (.invokevirtual 405, 3) := by decide +kernel
theorem d_Mod_stated_33 : decode b_Mod_stated 33 = .ok (.aload_n 0, 1) := by decide +kernel
theorem d_Mod_stated_34 : decode b_Mod_stated 34 = .ok (.iconst 0, 1) := by decide +kernel
theorem d_Mod_stated_35 : decode b_Mod_stated 35 = .ok (.invokevirtual 399, 3) := by decide +kernel
theorem d_Mod_stated_38 : decode b_Mod_stated 38 = .ok (.istore_n 3, 1) := by decide +kernel
theorem d_Mod_stated_39 : decode b_Mod_stated 39 = .ok (.aload_n 0, 1) := by decide +kernel
theorem d_Mod_stated_40 : decode b_Mod_stated 40 = .ok (.bipush 46, 2) := by decide +kernel
theorem d_Mod_stated_42 : decode b_Mod_stated 42 = .ok (.invokevirtual 405, 3) := by decide +kernel
theorem d_Mod_stated_45 : decode b_Mod_stated 45 = .ok (.aload_n 0, 1) := by decide +kernel
theorem d_Mod_stated_46 : decode b_Mod_stated 46 = .ok (.aload_n 0, 1) := by decide +kernel
theorem d_Mod_stated_47 : decode b_Mod_stated 47 = .ok (.getfield 68, 3) := by decide +kernel
theorem d_Mod_stated_50 : decode b_Mod_stated 50 = .ok (.iload_n 2, 1) := by decide +kernel
theorem d_Mod_stated_51 : decode b_Mod_stated 51 = .ok (.iaload, 1) := by decide +kernel
theorem d_Mod_stated_52 : decode b_Mod_stated 52 = .ok (.iload_n 3, 1) := by decide +kernel
theorem d_Mod_stated_53 : decode b_Mod_stated 53 = .ok (.ifCond .ge 7, 3) := by decide +kernel
theorem d_Mod_stated_56 : decode b_Mod_stated 56 = .ok (.iconst 0, 1) := by decide +kernel
theorem d_Mod_stated_57 : decode b_Mod_stated 57 = .ok (.goto 9, 3) := by decide +kernel
theorem d_Mod_stated_60 : decode b_Mod_stated 60 = .ok (.aload_n 0, 1) := by decide +kernel
theorem d_Mod_stated_61 : decode b_Mod_stated 61 = .ok (.getfield 68, 3) := by decide +kernel
theorem d_Mod_stated_64 : decode b_Mod_stated 64 = .ok (.iload_n 3, 1) := by decide +kernel
theorem d_Mod_stated_65 : decode b_Mod_stated 65 = .ok (.iaload, 1) := by decide +kernel
theorem d_Mod_stated_66 : decode b_Mod_stated 66 = .ok (.iadd, 1) := by decide +kernel
theorem d_Mod_stated_67 : decode b_Mod_stated 67 = .ok (.invokevirtual 519, 3) := by decide +kernel
theorem d_Mod_stated_70 : decode b_Mod_stated 70 = .ok (.aload_n 0, 1) := by decide +kernel
theorem d_Mod_stated_71 : decode b_Mod_stated 71 = .ok (.iload_n 2, 1) := by decide +kernel
theorem d_Mod_stated_72 : decode b_Mod_stated 72 = .ok (.invokevirtual 522, 3) := by decide +kernel
theorem d_Mod_stated_75 : decode b_Mod_stated 75 = .ok (.istore_n 2, 1) := by decide +kernel
theorem d_Mod_stated_76 : decode b_Mod_stated 76 = .ok (.iload_n 3, 1) := by decide +kernel
theorem d_Mod_stated_77 : decode b_Mod_stated 77 = .ok (.ifCond .lt 9, 3) := by decide +kernel
theorem d_Mod_stated_80 : decode b_Mod_stated 80 = .ok (.aload_n 0, 1) := by decide +kernel
theorem d_Mod_stated_81 : decode b_Mod_stated 81 = .ok (.iload_n 3, 1) := by decide +kernel
theorem d_Mod_stated_82 : decode b_Mod_stated 82 = .ok (.invokevirtual 522, 3) := by decide +kernel
theorem d_Mod_stated_85 : decode b_Mod_stated 85 = .ok (.istore_n 3, 1) := by decide +kernel
theorem d_Mod_stated_86 : decode b_Mod_stated 86 = .ok (.aload_n 0, 1) := by decide +kernel
theorem d_Mod_stated_87 : decode b_Mod_stated 87 = .ok (.iload_n 2, 1) := by decide +kernel
theorem d_Mod_stated_88 : decode b_Mod_stated 88 = .ok (.iconst 0, 1) := by decide +kernel
theorem d_Mod_stated_89 : decode b_Mod_stated 89 = .ok (.invokevirtual 477, 3) := by decide +kernel
theorem d_Mod_stated_92 : decode b_Mod_stated 92 = .ok (.pop, 1) := by decide +kernel
theorem d_Mod_stated_93 : decode b_Mod_stated 93 = .ok (.iload_n 3, 1) := by decide +kernel
theorem d_Mod_stated_94 : decode b_Mod_stated 94 = .ok (.ifCond .lt 10, 3) := by decide +kernel
theorem d_Mod_stated_97 : decode b_Mod_stated 97 = .ok (.aload_n 0, 1) := by decide +kernel
theorem d_Mod_stated_98 : decode b_Mod_stated 98 = .ok (.iload_n 3, 1) := by decide +kernel
theorem d_Mod_stated_99 : decode b_Mod_stated 99 = .ok (.iload_n 2, 1) := by decide +kernel
theorem d_Mod_stated_100 : decode b_Mod_stated 100 = .ok (.iconst 0, 1) := by decide +kernel
theorem d_Mod_stated_101 : decode b_Mod_stated 101 = .ok (.invokevirtual 485, 3) := by decide +kernel
theorem d_Mod_stated_104 : decode b_Mod_stated 104 = .ok (.aload_n 0, 1) := by decide +kernel
theorem d_Mod_stated_105 : decode b_Mod_stated 105 = .ok (.aload_n 0, 1) := by decide +kernel
theorem d_Mod_stated_106 : decode b_Mod_stated 106 = .ok (.getfield 68, 3) := by decide +kernel
theorem d_Mod_stated_109 : decode b_Mod_stated 109 = .ok (.iload_n 2, 1) := by decide +kernel
theorem d_Mod_stated_110 : decode b_Mod_stated 110 = .ok (.iaload, 1) := by decide +kernel
theorem d_Mod_stated_111 : decode b_Mod_stated 111 = .ok (.iload_n 3, 1) := by decide +kernel
theorem d_Mod_stated_112 : decode b_Mod_stated 112 = .ok (.ifCond .ge 7, 3) := by decide +kernel
theorem d_Mod_stated_115 : decode b_Mod_stated 115 = .ok (.iconst 0, 1) := by decide +kernel
theorem d_Mod_stated_116 : decode b_Mod_stated 116 = .ok (.goto 9, 3) := by decide +kernel
theorem d_Mod_stated_119 : decode b_Mod_stated 119 = .ok (.aload_n 0, 1) := by decide +kernel
theorem d_Mod_stated_120 : decode b_Mod_stated 120 = .ok (.getfield 68, 3) := by decide +kernel
theorem d_Mod_stated_123 : decode b_Mod_stated 123 = .ok (.iload_n 3, 1) := by decide +kernel
theorem d_Mod_stated_124 : decode b_Mod_stated 124 = .ok (.iaload, 1) := by decide +kernel
theorem d_Mod_stated_125 : decode b_Mod_stated 125 = .ok (.iadd, 1) := by decide +kernel
theorem d_Mod_stated_126 : decode b_Mod_stated 126 = .ok (.invokevirtual 525, 3) := by decide +kernel
theorem d_Mod_stated_129 : decode b_Mod_stated 129 = .ok (.aload_n 0, 1) := by decide +kernel
theorem d_Mod_stated_130 : decode b_Mod_stated 130 = .ok (.dup, 1) := by decide +kernel
theorem d_Mod_stated_131 : decode b_Mod_stated 131 = .ok (.getfield 104, 3) := by decide +kernel
theorem d_Mod_stated_134 : decode b_Mod_stated 134 = .ok (.dup_x1, 1) := by decide +kernel
theorem d_Mod_stated_135 : decode b_Mod_stated 135 = .ok (.iconst 1, 1) := by decide +kernel
theorem d_Mod_stated_136 : decode b_Mod_stated 136 = .ok (.iadd, 1) := by decide +kernel
theorem d_Mod_stated_137 : decode b_Mod_stated 137 = .ok (.putfield 104, 3) := by decide +kernel
theorem d_Mod_stated_140 : decode b_Mod_stated 140 = .ok (.istore 4, 2) := by decide +kernel
theorem d_Mod_stated_142 : decode b_Mod_stated 142 = .ok (.aload_n 0, 1) := by decide +kernel
theorem d_Mod_stated_143 : decode b_Mod_stated 143 = .ok (.getfield 107, 3) := by decide +kernel
theorem d_Mod_stated_146 : decode b_Mod_stated 146 = .ok (.iload 4, 2) := by decide +kernel
theorem d_Mod_stated_148 : decode b_Mod_stated 148 = .ok (.iload_n 1, 1) := by decide +kernel
theorem d_Mod_stated_149 : decode b_Mod_stated 149 = .ok (.iastore, 1) := by decide +kernel
theorem d_Mod_stated_150 : decode b_Mod_stated 150 = .ok (.aload_n 0, 1) := by decide +kernel
theorem d_Mod_stated_151 : decode b_Mod_stated 151 = .ok (.getfield 110, 3) := by decide +kernel
theorem d_Mod_stated_154 : decode b_Mod_stated 154 = .ok (.iload 4, 2) := by decide +kernel
theorem d_Mod_stated_156 : decode b_Mod_stated 156 = .ok (.aload_n 0, 1) := by decide +kernel
theorem d_Mod_stated_157 : decode b_Mod_stated 157 = .ok (.iload_n 2, 1) := by decide +kernel
theorem d_Mod_stated_158 : decode b_Mod_stated 158 = .ok (.invokevirtual 528, 3) := by decide +kernel
theorem d_Mod_stated_161 : decode b_Mod_stated 161 = .ok (.iastore, 1) := by decide +kernel
theorem d_Mod_stated_162 : decode b_Mod_stated 162 = .ok (.aload_n 0, 1) := by decide +kernel
theorem d_Mod_stated_163 : decode b_Mod_stated 163 = .ok (.getfield 113, 3) := by decide +kernel
theorem d_Mod_stated_166 : decode b_Mod_stated 166 = .ok (.iload 4, 2) := by decide +kernel
theorem d_Mod_stated_168 : decode b_Mod_stated 168 = .ok (.iload_n 3, 1) := by decide +kernel
theorem d_Mod_stated_169 : decode b_Mod_stated 169 = .ok (.ifCond .ge 7, 3) := by decide +kernel
theorem d_Mod_stated_172 : decode b_Mod_stated 172 = .ok (.iconst (-1), 1) := by decide +kernel
theorem d_Mod_stated_173 : decode b_Mod_stated 173 = .ok (.goto 8, 3) := by decide +kernel
theorem d_Mod_stated_176 : decode b_Mod_stated 176 = .ok (.aload_n 0, 1) := by decide +kernel
theorem d_Mod_stated_177 : decode b_Mod_stated 177 = .ok (.iload_n 3, 1) := by decide +kernel
theorem d_Mod_stated_178 : decode b_Mod_stated 178 = .ok (.invokevirtual 528, 3) := by decide +kernel
theorem d_Mod_stated_181 : decode b_Mod_stated 181 = .ok (.iastore, 1) := by decide +kernel
theorem d_Mod_stated_182 : decode b_Mod_stated 182 = .ok (.aload_n 0, 1) := by decide +kernel
theorem d_Mod_stated_183 : decode b_Mod_stated 183 = .ok (.getfield 116, 3) := by decide +kernel
theorem d_Mod_stated_186 : decode b_Mod_stated 186 = .ok (.iload 4, 2) := by decide +kernel
theorem d_Mod_stated_188 : decode b_Mod_stated 188 = .ok (.iconst 0, 1) := by decide +kernel
theorem d_Mod_stated_189 : decode b_Mod_stated 189 = .ok (.iastore, 1) := by decide +kernel
theorem d_Mod_stated_190 : decode b_Mod_stated 190 = .ok (.aload_n 0, 1) := by decide +kernel
theorem d_Mod_stated_191 : decode b_Mod_stated 191 = .ok (.getfield 119, 3) := by decide +kernel
theorem d_Mod_stated_194 : decode b_Mod_stated 194 = .ok (.iload 4, 2) := by decide +kernel
theorem d_Mod_stated_196 : decode b_Mod_stated 196 = .ok (.iconst 0, 1) := by decide +kernel
