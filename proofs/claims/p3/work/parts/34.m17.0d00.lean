theorem d_Mod_together_0 : decode b_Mod_together 0 = .ok (.iload_n 1, 1) := by decide +kernel
theorem d_Mod_together_1 : decode b_Mod_together 1 = .ok (.sipush 6000, 3) := by decide +kernel
theorem d_Mod_together_4 : decode b_Mod_together 4 = .ok (.if_icmp .le 9, 3) := by decide +kernel
theorem d_Mod_together_7 : decode b_Mod_together 7 = .ok (.bipush 10, 2) := by decide +kernel
theorem d_Mod_together_9 : decode b_Mod_together 9 = .ok (.invokestatic 323, 3) := by decide +kernel
theorem d_Mod_together_12 : decode b_Mod_together 12 = .ok (.athrow, 1) := by decide +kernel
theorem d_Mod_together_13 : decode b_Mod_together 13 = .ok (.return_, 1) := by decide +kernel
theorem d_Mod_checked_0 : decode b_Mod_checked 0 = .ok (.aload_n 0, 1) := by decide +kernel
theorem d_Mod_checked_1 : decode b_Mod_checked 1 = .ok (.invokevirtual 281, 3) := by decide +kernel
theorem d_Mod_checked_4 : decode b_Mod_checked 4 = .ok (.aload_n 0, 1) := by decide +kernel
theorem d_Mod_checked_5 : decode b_Mod_checked 5 = .ok (.iconst 0, 1) := by decide +kernel
theorem d_Mod_checked_6 : decode b_Mod_checked 6 = .ok (.invokevirtual 399, 3) := by decide +kernel
theorem d_Mod_checked_9 : decode b_Mod_checked 9 = .ok (.istore_n 1, 1) := by decide +kernel
theorem d_Mod_checked_10 : decode b_Mod_checked 10 = .ok (.aload_n 0, 1) := by decide +kernel
theorem d_Mod_checked_11 : decode b_Mod_checked 11 = .ok (.bipush 58, 2) := by decide +kernel
theorem d_Mod_checked_13 : decode b_Mod_checked 13 = .ok (.invokevirtual 405, 3) := by decide +kernel
theorem d_Mod_checked_16 : decode b_Mod_checked 16 = .ok (.aload_n 0, 1) := by decide +kernel
theorem d_Mod_checked_17 : decode b_Mod_checked 17 = .ok (.iconst 0, 1) := by decide +kernel
theorem d_Mod_checked_18 : decode b_Mod_checked 18 = .ok (.invokevirtual 399, 3) := by decide +kernel
theorem d_Mod_checked_21 : decode b_Mod_checked 21 = .ok (.istore_n 2, 1) := by decide +kernel
theorem d_Mod_checked_22 : decode b_Mod_checked 22 = .ok (.aload_n 0, 1) := by decide +kernel
theorem d_Mod_checked_23 : decode b_Mod_checked 23 = .ok (.bipush 46, 2) := by decide +kernel
theorem d_Mod_checked_25 : decode b_Mod_checked 25 = .ok (.invokevirtual 405, 3) := by decide +kernel
theorem d_Mod_checked_28 : decode b_Mod_checked 28 = .ok (.aload_n 0, 1) := by decide +kernel
theorem d_Mod_checked_29 : decode b_Mod_checked 29 = .ok (.aload_n 0, 1) := by decide +kernel
theorem d_Mod_checked_30 : decode b_Mod_checked 30 = .ok (.getfield 68, 3) := by decide +kernel
theorem d_Mod_checked_33 : decode b_Mod_checked 33 = .ok (.iload_n 1, 1) := by decide +kernel
theorem d_Mod_checked_34 : decode b_Mod_checked 34 = .ok (.iaload, 1) := by decide +kernel
theorem d_Mod_checked_35 : decode b_Mod_checked 35 = .ok (.aload_n 0, 1) := by decide +kernel
theorem d_Mod_checked_36 : decode b_Mod_checked 36 = .ok (.getfield 68, 3) := by decide +kernel
theorem d_Mod_checked_39 : decode b_Mod_checked 39 = .ok (.iload_n 2, 1) := by decide +kernel
theorem d_Mod_checked_40 : decode b_Mod_checked 40 = .ok (.iaload, 1) := by decide +kernel
theorem d_Mod_checked_41 : decode b_Mod_checked 41 = .ok (.iadd, 1) := by decide +kernel
theorem d_Mod_checked_42 : decode b_Mod_checked 42 = .ok (.invokevirtual 519, 3) := by decide +kernel
theorem d_Mod_checked_45 : decode b_Mod_checked 45 = .ok (.aload_n 0, 1) := by decide +kernel
theorem d_Mod_checked_46 : decode b_Mod_checked 46 = .ok (.iload_n 1, 1) := by decide +kernel
theorem d_Mod_checked_47 : decode b_Mod_checked 47 = .ok (.invokevirtual 522, 3) := by decide +kernel
theorem d_Mod_checked_50 : decode b_Mod_checked 50 = .ok (.istore_n 1, 1) := by decide +kernel
theorem d_Mod_checked_51 : decode b_Mod_checked 51 = .ok (.aload_n 0, 1) := by decide +kernel
theorem d_Mod_checked_52 : decode b_Mod_checked 52 = .ok (.iload_n 2, 1) := by decide +kernel
theorem d_Mod_checked_53 : decode b_Mod_checked 53 = .ok (.invokevirtual 522, 3) := by decide +kernel
theorem d_Mod_checked_56 : decode b_Mod_checked 56 = .ok (.istore_n 2, 1) := by decide +kernel
theorem d_Mod_checked_57 : decode b_Mod_checked 57 = .ok (.aload_n 0, 1) := by decide +kernel
theorem d_Mod_checked_58 : decode b_Mod_checked 58 = .ok (.iload_n 2, 1) := by decide +kernel
theorem d_Mod_checked_59 : decode b_Mod_checked 59 = .ok (.iconst 0, 1) := by decide +kernel
theorem d_Mod_checked_60 : decode b_Mod_checked 60 = .ok (.invokevirtual 477, 3) := by decide +kernel
theorem d_Mod_checked_63 : decode b_Mod_checked 63 = .ok (.pop, 1) := by decide +kernel
theorem d_Mod_checked_64 : decode b_Mod_checked 64 = .ok (.aload_n 0, 1) := by decide +kernel
theorem d_Mod_checked_65 : decode b_Mod_checked 65 = .ok (.iload_n 1, 1) := by decide +kernel
theorem d_Mod_checked_66 : decode b_Mod_checked 66 = .ok (.iload_n 2, 1) := by decide +kernel
theorem d_Mod_checked_67 : decode b_Mod_checked 67 = .ok (.iconst 0, 1) := by decide +kernel
theorem d_Mod_checked_68 : decode b_Mod_checked 68 = .ok (.invokevirtual 485, 3) := by decide +kernel
theorem d_Mod_checked_71 : decode b_Mod_checked 71 = .ok (.return_, 1) := by decide +kernel
theorem d_Mod_refuse_0 : decode b_Mod_refuse 0 = .ok (.iload_n 2, 1) := by decide +kernel
theorem d_Mod_refuse_1 : decode b_Mod_refuse 1 = .ok (.ifCond .eq 8, 3) := by decide +kernel
theorem d_Mod_refuse_4 : decode b_Mod_refuse 4 = .ok (.aload_n 0, 1) := by decide +kernel
theorem d_Mod_refuse_5 : decode b_Mod_refuse 5 = .ok (.iload_n 1, 1) := by decide +kernel
theorem d_Mod_refuse_6 : decode b_Mod_refuse 6 = .ok (.putfield 29, 3) := by decide +kernel
theorem d_Mod_refuse_9 : decode b_Mod_refuse 9 = .ok (.iload_n 2, 1) := by decide +kernel
theorem d_Mod_refuse_10 : decode b_Mod_refuse 10 = .ok (.ireturn, 1) := by decide +kernel
theorem d_Mod_none_0 : decode b_Mod_none 0 = .ok (.aload_n 0, 1) := by decide +kernel
theorem d_Mod_none_1 : decode b_Mod_none 1 = .ok (.iconst 0, 1) := by decide +kernel
theorem d_Mod_none_2 : decode b_Mod_none 2 = .ok (.putfield 29, 3) := by decide +kernel
theorem d_Mod_none_5 : decode b_Mod_none 5 = .ok (.aload_n 0, 1) := by decide +kernel
theorem d_Mod_none_6 : decode b_Mod_none 6 = .ok (.iconst 1, 1) := by decide +kernel
theorem d_Mod_none_7 : decode b_Mod_none 7 = .ok (.iload_n 1, 1) := by decide +kernel
theorem d_Mod_none_8 : decode b_Mod_none 8 = .ok (.ifCond .lt 11, 3) := by decide +kernel
theorem d_Mod_none_11 : decode b_Mod_none 11 = .ok (.iload_n 1, 1) := by decide +kernel
theorem d_Mod_none_12 : decode b_Mod_none 12 = .ok (.aload_n 0, 1) := by decide +kernel
theorem d_Mod_none_13 : decode b_Mod_none 13 = .ok (.getfield 104, 3) := by decide +kernel
theorem d_Mod_none_16 : decode b_Mod_none 16 = .ok (.if_icmp .lt 7, 3) := by decide +kernel
theorem d_Mod_none_19 : decode b_Mod_none 19 = .ok (.iconst 1, 1) := by decide +kernel
theorem d_Mod_none_20 : decode b_Mod_none 20 = .ok (.goto 4, 3) := by decide +kernel
theorem d_Mod_none_23 : decode b_Mod_none 23 = .ok (.iconst 0, 1) := by decide +kernel
theorem d_Mod_none_24 : decode b_Mod_none 24 = .ok (.invokevirtual 251, 3) := by decide +kernel
theorem d_Mod_none_27 : decode b_Mod_none 27 = .ok (.ireturn, 1) := by decide +kernel
theorem d_Mod_constant_2_0 : decode b_Mod_constant_2 0 = .ok (.aload_n 0, 1) := by decide +kernel
theorem d_Mod_constant_2_1 : decode b_Mod_constant_2 1 = .ok (.iload_n 1, 1) := by decide +kernel
theorem d_Mod_constant_2_2 : decode b_Mod_constant_2 2 = .ok (.invokevirtual 577, 3) := by decide +kernel
theorem d_Mod_constant_2_5 : decode b_Mod_constant_2 5 = .ok (.ifCond .eq 5, 3) := by decide +kernel
theorem d_Mod_constant_2_8 : decode b_Mod_constant_2 8 = .ok (.iconst 0, 1) := by decide +kernel
theorem d_Mod_constant_2_9 : decode b_Mod_constant_2 9 = .ok (.ireturn, 1) := by decide +kernel
theorem d_Mod_constant_2_10 : decode b_Mod_constant_2 10 = .ok (.aload_n 0, 1) := by decide +kernel
theorem d_Mod_constant_2_11 : decode b_Mod_constant_2 11 = .ok (.getfield 107, 3) := by decide +kernel
theorem d_Mod_constant_2_14 : decode b_Mod_constant_2 14 = .ok (.iload_n 1, 1) := by decide +kernel
theorem d_Mod_constant_2_15 : decode b_Mod_constant_2 15 = .ok (.iaload, 1) := by decide +kernel
theorem d_Mod_constant_2_16 : decode b_Mod_constant_2 16 = .ok (.iconst 3, 1) := by decide +kernel
theorem d_Mod_constant_2_17 : decode b_Mod_constant_2 17 = .ok (.if_icmp .ne 7, 3) := by decide +kernel
theorem d_Mod_constant_2_20 : decode b_Mod_constant_2 20 = .ok (.iconst 1, 1) := by decide +kernel
theorem d_Mod_constant_2_21 : decode b_Mod_constant_2 21 = .ok (.goto 4, 3) := by decide +kernel
theorem d_Mod_constant_2_24 : decode b_Mod_constant_2 24 = .ok (.iconst 0, 1) := by decide +kernel
theorem d_Mod_constant_2_25 : decode b_Mod_constant_2 25 = .ok (.istore_n 3, 1) := by decide +kernel
theorem d_Mod_constant_2_26 : decode b_Mod_constant_2 26 = .ok (.iload_n 2, 1) := by decide +kernel
theorem d_Mod_constant_2_27 : decode b_Mod_constant_2 27 = .ok (.tableswitch 176 0 7 #[45, 52, 64, 89, 104, 119, 134, 155], 45) := by decide +kernel
theorem d_Mod_constant_2_72 : decode b_Mod_constant_2 72 = .ok (.aload_n 0, 1) := by decide +kernel
theorem d_Mod_constant_2_73 : decode b_Mod_constant_2 73 = .ok (.getfield 107, 3) := by decide +kernel
theorem d_Mod_constant_2_76 : decode b_Mod_constant_2 76 = .ok (.iload_n 1, 1) := by decide +kernel
theorem d_Mod_constant_2_77 : decode b_Mod_constant_2 77 = .ok (.iaload, 1) := by decide +kernel
theorem d_Mod_constant_2_78 : decode b_Mod_constant_2 78 = .ok (.ireturn, 1) := by decide +kernel
theorem d_Mod_constant_2_79 : decode b_Mod_constant_2 79 = .ok (.aload_n 0, 1) := by decide +kernel
theorem d_Mod_constant_2_80 : decode b_Mod_constant_2 80 = .ok (.getfield 68, 3) := by decide +kernel
theorem d_Mod_constant_2_83 : decode b_Mod_constant_2 83 = .ok (.aload_n 0, 1) := by decide +kernel
theorem d_Mod_constant_2_84 : decode b_Mod_constant_2 84 = .ok (.getfield 110, 3) := by decide +kernel
theorem d_Mod_constant_2_87 : decode b_Mod_constant_2 87 = .ok (.iload_n 1, 1) := by decide +kernel
theorem d_Mod_constant_2_88 : decode b_Mod_constant_2 88 = .ok (.iaload, 1) := by decide +kernel
theorem d_Mod_constant_2_89 : decode b_Mod_constant_2 89 = .ok (.iaload, 1) := by decide +kernel
theorem d_Mod_constant_2_90 : decode b_Mod_constant_2 90 = .ok (.ireturn, 1) := by decide +kernel
theorem d_Mod_constant_2_91 : decode b_Mod_constant_2 91 = .ok (.aload_n 0, 1) := by decide +kernel
theorem d_Mod_constant_2_92 : decode b_Mod_constant_2 92 = .ok (.getfield 113, 3) := by decide +kernel
theorem d_Mod_constant_2_95 : decode b_Mod_constant_2 95 = .ok (.iload_n 1, 1) := by decide +kernel
theorem d_Mod_constant_2_96 : decode b_Mod_constant_2 96 = .ok (.iaload, 1) := by decide +kernel
theorem d_Mod_constant_2_97 : decode b_Mod_constant_2 97 = .ok (.ifCond .ge 7, 3) := by decide +kernel
theorem d_Mod_constant_2_100 : decode b_Mod_constant_2 100 = .ok (.iconst 0, 1) := by decide +kernel
theorem d_Mod_constant_2_101 : decode b_Mod_constant_2 101 = .ok (.goto 14, 3) := by decide +kernel
theorem d_Mod_constant_2_104 : decode b_Mod_constant_2 104 = .ok (.aload_n 0, 1) := by decide +kernel
theorem d_Mod_constant_2_105 : decode b_Mod_constant_2 105 = .ok (.getfield 68, 3) := by decide +kernel
theorem d_Mod_constant_2_108 : decode b_Mod_constant_2 108 = .ok (.aload_n 0, 1) := by decide +kernel
theorem d_Mod_constant_2_109 : decode b_Mod_constant_2 109 = .ok (.getfield 113, 3) := by decide +kernel
theorem d_Mod_constant_2_112 : decode b_Mod_constant_2 112 = .ok (.iload_n 1, 1) := by decide +kernel
theorem d_Mod_constant_2_113 : decode b_Mod_constant_2 113 = .ok (.iaload, 1) := by decide +kernel
theorem d_Mod_constant_2_114 : decode b_Mod_constant_2 114 = .ok (.iaload, 1) := by decide +kernel
theorem d_Mod_constant_2_115 : decode b_Mod_constant_2 115 = .ok (.ireturn, 1) := by decide +kernel
theorem d_Mod_constant_2_116 : decode b_Mod_constant_2 116 = .ok (.iload_n 3, 1) := by decide +kernel
theorem d_Mod_constant_2_117 : decode b_Mod_constant_2 117 = .ok (.ifCond .eq 12, 3) := by decide +kernel
theorem d_Mod_constant_2_120 : decode b_Mod_constant_2 120 = .ok (.aload_n 0, 1) := by decide +kernel
theorem d_Mod_constant_2_121 : decode b_Mod_constant_2 121 = .ok (.getfield 116, 3) := by decide +kernel
theorem d_Mod_constant_2_124 : decode b_Mod_constant_2 124 = .ok (.iload_n 1, 1) := by decide +kernel
theorem d_Mod_constant_2_125 : decode b_Mod_constant_2 125 = .ok (.iaload, 1) := by decide +kernel
theorem d_Mod_constant_2_126 : decode b_Mod_constant_2 126 = .ok (.goto 4, 3) := by decide +kernel
theorem d_Mod_constant_2_129 : decode b_Mod_constant_2 129 = .ok (.iconst 0, 1) := by decide +kernel
theorem d_Mod_constant_2_130 : decode b_Mod_constant_2 130 = .ok (.ireturn, 1) := by decide +kernel
theorem d_Mod_constant_2_131 : decode b_Mod_constant_2 131 = .ok (.iload_n 3, 1) := by decide +kernel
theorem d_Mod_constant_2_132 : decode b_Mod_constant_2 132 = .ok (.ifCond .eq 12, 3) := by decide +kernel
theorem d_Mod_constant_2_135 : decode b_Mod_constant_2 135 = .ok (.aload_n 0, 1) := by decide +kernel
theorem d_Mod_constant_2_136 : decode b_Mod_constant_2 136 = .ok (.getfield 119, 3) := by decide +kernel
theorem d_Mod_constant_2_139 : decode b_Mod_constant_2 139 = .ok (.iload_n 1, 1) := by decide +kernel
theorem d_Mod_constant_2_140 : decode b_Mod_constant_2 140 = .ok (.iaload, 1) := by decide +kernel
theorem d_Mod_constant_2_141 : decode b_Mod_constant_2 141 = .ok (.goto 4, 3) := by decide +kernel
theorem d_Mod_constant_2_144 : decode b_Mod_constant_2 144 = .ok (.iconst 0, 1) := by decide +kernel
theorem d_Mod_constant_2_145 : decode b_Mod_constant_2 145 = .ok (.ireturn, 1) := by decide +kernel
theorem d_Mod_constant_2_146 : decode b_Mod_constant_2 146 = .ok (.iload_n 3, 1) := by decide +kernel
theorem d_Mod_constant_2_147 : decode b_Mod_constant_2 147 = .ok (.ifCond .eq 12, 3) := by decide +kernel
theorem d_Mod_constant_2_150 : decode b_Mod_constant_2 150 = .ok (.aload_n 0, 1) := by decide +kernel
theorem d_Mod_constant_2_151 : decode b_Mod_constant_2 151 = .ok (.getfield 122, 3) := by decide +kernel
theorem d_Mod_constant_2_154 : decode b_Mod_constant_2 154 = .ok (.iload_n 1, 1) := by decide +kernel
theorem d_Mod_constant_2_155 : decode b_Mod_constant_2 155 = .ok (.iaload, 1) := by decide +kernel
theorem d_Mod_constant_2_156 : decode b_Mod_constant_2 156 = .ok (.goto 4, 3) := by decide +kernel
theorem d_Mod_constant_2_159 : decode b_Mod_constant_2 159 = .ok (.iconst 0, 1) := by decide +kernel
theorem d_Mod_constant_2_160 : decode b_Mod_constant_2 160 = .ok (.ireturn, 1) := by decide +kernel
theorem d_Mod_constant_2_161 : decode b_Mod_constant_2 161 = .ok (.aload_n 0, 1) := by decide +kernel
theorem d_Mod_constant_2_162 : decode b_Mod_constant_2 162 = .ok (.getfield 107, 3) := by decide +kernel
theorem d_Mod_constant_2_165 : decode b_Mod_constant_2 165 = .ok (.iload_n 1, 1) := by decide +kernel
theorem d_Mod_constant_2_166 : decode b_Mod_constant_2 166 = .ok (.iaload, 1) := by decide +kernel
theorem d_Mod_constant_2_167 : decode b_Mod_constant_2 167 = .ok (.iconst 4, 1) := by decide +kernel
theorem d_Mod_constant_2_168 : decode b_Mod_constant_2 168 = .ok (.if_icmp .ne 12, 3) := by decide +kernel
theorem d_Mod_constant_2_171 : decode b_Mod_constant_2 171 = .ok (.aload_n 0, 1) := by decide +kernel
theorem d_Mod_constant_2_172 : decode b_Mod_constant_2 172 = .ok (.getfield 125, 3) := by decide +kernel
theorem d_Mod_constant_2_175 : decode b_Mod_constant_2 175 = .ok (.iload_n 1, 1) := by decide +kernel
theorem d_Mod_constant_2_176 : decode b_Mod_constant_2 176 = .ok (.iaload, 1) := by decide +kernel
theorem d_Mod_constant_2_177 : decode b_Mod_constant_2 177 = .ok (.goto 4, 3) := by decide +kernel
theorem d_Mod_constant_2_180 : decode b_Mod_constant_2 180 = .ok (.iconst 0, 1) := by decide +kernel
theorem d_Mod_constant_2_181 : decode b_Mod_constant_2 181 = .ok (.ireturn, 1) := by decide +kernel
theorem d_Mod_constant_2_182 : decode b_Mod_constant_2 182 = .ok (.aload_n 0, 1) := by decide +kernel
theorem d_Mod_constant_2_183 : decode b_Mod_constant_2 183 = .ok (.getfield 107, 3) := by decide +kernel
theorem d_Mod_constant_2_186 : decode b_Mod_constant_2 186 = .ok (.iload_n 1, 1) := by decide +kernel
theorem d_Mod_constant_2_187 : decode b_Mod_constant_2 187 = .ok (.iaload, 1) := by decide +kernel
theorem d_Mod_constant_2_188 : decode b_Mod_constant_2 188 = .ok (.iconst 4, 1) := by decide +kernel
theorem d_Mod_constant_2_189 : decode b_Mod_constant_2 189 = .ok (.if_icmp .ne 12, 3) := by decide +kernel
theorem d_Mod_constant_2_192 : decode b_Mod_constant_2 192 = .ok (.aload_n 0, 1) := by decide +kernel
theorem d_Mod_constant_2_193 : decode b_Mod_constant_2 193 = .ok (.getfield 128, 3) := by decide +kernel
theorem d_Mod_constant_2_196 : decode b_Mod_constant_2 196 = .ok (.iload_n 1, 1) := by decide +kernel
theorem d_Mod_constant_2_197 : decode b_Mod_constant_2 197 = .ok (.iaload, 1) := by decide +kernel
theorem d_Mod_constant_2_198 : decode b_Mod_constant_2 198 = .ok (.goto 4, 3) := by decide +kernel
theorem d_Mod_constant_2_201 : decode b_Mod_constant_2 201 = .ok (.iconst 0, 1) := by decide +kernel
theorem d_Mod_constant_2_202 : decode b_Mod_constant_2 202 = .ok (.ireturn, 1) := by decide +kernel
theorem d_Mod_constant_2_203 : decode b_Mod_constant_2 203 = .ok (.aload_n 0, 1) := by decide +kernel
theorem d_Mod_constant_2_204 : decode b_Mod_constant_2 204 = .ok (.iconst 2, 1) := by decide +kernel
theorem d_Mod_constant_2_205 : decode b_Mod_constant_2 205 = .ok (.putfield 29, 3) := by decide +kernel
theorem d_Mod_constant_2_208 : decode b_Mod_constant_2 208 = .ok (.iconst 0, 1) := by decide +kernel
theorem d_Mod_constant_2_209 : decode b_Mod_constant_2 209 = .ok (.ireturn, 1) := by decide +kernel
