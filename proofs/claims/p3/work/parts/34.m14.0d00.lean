theorem d_Mod_bound_0 : decode b_Mod_bound 0 = .ok (.iload_n 1, 1) := by decide +kernel
theorem d_Mod_bound_1 : decode b_Mod_bound 1 = .ok (.istore_n 3, 1) := by decide +kernel
theorem d_Mod_bound_2 : decode b_Mod_bound 2 = .ok (.aload_n 0, 1) := by decide +kernel
theorem d_Mod_bound_3 : decode b_Mod_bound 3 = .ok (.getfield 55, 3) := by decide +kernel
theorem d_Mod_bound_6 : decode b_Mod_bound 6 = .ok (.iload_n 3, 1) := by decide +kernel
theorem d_Mod_bound_7 : decode b_Mod_bound 7 = .ok (.baload, 1) := by decide +kernel
theorem d_Mod_bound_8 : decode b_Mod_bound 8 = .ok (.bipush 8, 2) := by decide +kernel
theorem d_Mod_bound_10 : decode b_Mod_bound 10 = .ok (.if_icmp .ne 29, 3) := by decide +kernel
theorem d_Mod_bound_13 : decode b_Mod_bound 13 = .ok (.aload_n 0, 1) := by decide +kernel
theorem d_Mod_bound_14 : decode b_Mod_bound 14 = .ok (.aload_n 0, 1) := by decide +kernel
theorem d_Mod_bound_15 : decode b_Mod_bound 15 = .ok (.getfield 62, 3) := by decide +kernel
theorem d_Mod_bound_18 : decode b_Mod_bound 18 = .ok (.iload_n 3, 1) := by decide +kernel
theorem d_Mod_bound_19 : decode b_Mod_bound 19 = .ok (.iaload, 1) := by decide +kernel
theorem d_Mod_bound_20 : decode b_Mod_bound 20 = .ok (.iload_n 2, 1) := by decide +kernel
theorem d_Mod_bound_21 : decode b_Mod_bound 21 = .ok (.invokevirtual 370, 3) := by decide +kernel
theorem d_Mod_bound_24 : decode b_Mod_bound 24 = .ok (.ifCond .eq 5, 3) := by decide +kernel
theorem d_Mod_bound_27 : decode b_Mod_bound 27 = .ok (.iconst 1, 1) := by decide +kernel
theorem d_Mod_bound_28 : decode b_Mod_bound 28 = .ok (.ireturn, 1) := by decide +kernel
theorem d_Mod_bound_29 : decode b_Mod_bound 29 = .ok (.aload_n 0, 1) := by decide +kernel
theorem d_Mod_bound_30 : decode b_Mod_bound 30 = .ok (.getfield 58, 3) := by decide +kernel
theorem d_Mod_bound_33 : decode b_Mod_bound 33 = .ok (.iload_n 3, 1) := by decide +kernel
theorem d_Mod_bound_34 : decode b_Mod_bound 34 = .ok (.iaload, 1) := by decide +kernel
theorem d_Mod_bound_35 : decode b_Mod_bound 35 = .ok (.istore_n 3, 1) := by decide +kernel
theorem d_Mod_bound_36 : decode b_Mod_bound 36 = .ok (.goto (-34), 3) := by decide +kernel
theorem d_Mod_bound_39 : decode b_Mod_bound 39 = .ok (.aload_n 0, 1) := by decide +kernel
theorem d_Mod_bound_40 : decode b_Mod_bound 40 = .ok (.getfield 55, 3) := by decide +kernel
theorem d_Mod_bound_43 : decode b_Mod_bound 43 = .ok (.iload_n 3, 1) := by decide +kernel
theorem d_Mod_bound_44 : decode b_Mod_bound 44 = .ok (.baload, 1) := by decide +kernel
theorem d_Mod_bound_45 : decode b_Mod_bound 45 = .ok (.tableswitch 141 4 9 #[39, 141, 55, 55, 141, 91], 39) := by decide +kernel
theorem d_Mod_bound_84 : decode b_Mod_bound 84 = .ok (.aload_n 0, 1) := by decide +kernel
theorem d_Mod_bound_85 : decode b_Mod_bound 85 = .ok (.getfield 58, 3) := by decide +kernel
theorem d_Mod_bound_88 : decode b_Mod_bound 88 = .ok (.iload_n 3, 1) := by decide +kernel
theorem d_Mod_bound_89 : decode b_Mod_bound 89 = .ok (.iaload, 1) := by decide +kernel
theorem d_Mod_bound_90 : decode b_Mod_bound 90 = .ok (.iload_n 2, 1) := by decide +kernel
theorem d_Mod_bound_91 : decode b_Mod_bound 91 = .ok (.if_icmp .ne 7, 3) := by decide +kernel
theorem d_Mod_bound_94 : decode b_Mod_bound 94 = .ok (.iconst 1, 1) := by decide +kernel
theorem d_Mod_bound_95 : decode b_Mod_bound 95 = .ok (.goto 4, 3) := by decide +kernel
theorem d_Mod_bound_98 : decode b_Mod_bound 98 = .ok (.iconst 0, 1) := by decide +kernel
theorem d_Mod_bound_99 : decode b_Mod_bound 99 = .ok (.ireturn, 1) := by decide +kernel
theorem d_Mod_bound_100 : decode b_Mod_bound 100 = .ok (.aload_n 0, 1) := by decide +kernel
theorem d_Mod_bound_101 : decode b_Mod_bound 101 = .ok (.aload_n 0, 1) := by decide +kernel
theorem d_Mod_bound_102 : decode b_Mod_bound 102 = .ok (.getfield 58, 3) := by decide +kernel
theorem d_Mod_bound_105 : decode b_Mod_bound 105 = .ok (.iload_n 3, 1) := by decide +kernel
theorem d_Mod_bound_106 : decode b_Mod_bound 106 = .ok (.iaload, 1) := by decide +kernel
theorem d_Mod_bound_107 : decode b_Mod_bound 107 = .ok (.iload_n 2, 1) := by decide +kernel
theorem d_Mod_bound_108 : decode b_Mod_bound 108 = .ok (.invokevirtual 370, 3) := by decide +kernel
theorem d_Mod_bound_111 : decode b_Mod_bound 111 = .ok (.ifCond .ne 19, 3) := by decide +kernel
theorem d_Mod_bound_114 : decode b_Mod_bound 114 = .ok (.aload_n 0, 1) := by decide +kernel
theorem d_Mod_bound_115 : decode b_Mod_bound 115 = .ok (.aload_n 0, 1) := by decide +kernel
theorem d_Mod_bound_116 : decode b_Mod_bound 116 = .ok (.getfield 62, 3) := by decide +kernel
theorem d_Mod_bound_119 : decode b_Mod_bound 119 = .ok (.iload_n 3, 1) := by decide +kernel
theorem d_Mod_bound_120 : decode b_Mod_bound 120 = .ok (.iaload, 1) := by decide +kernel
theorem d_Mod_bound_121 : decode b_Mod_bound 121 = .ok (.iload_n 2, 1) := by decide +kernel
theorem d_Mod_bound_122 : decode b_Mod_bound 122 = .ok (.iconst 1, 1) := by decide +kernel
theorem d_Mod_bound_123 : decode b_Mod_bound 123 = .ok (.iadd, 1) := by decide +kernel
theorem d_Mod_bound_124 : decode b_Mod_bound 124 = .ok (.invokevirtual 370, 3) := by decide +kernel
theorem d_Mod_bound_127 : decode b_Mod_bound 127 = .ok (.ifCond .eq 7, 3) := by decide +kernel
theorem d_Mod_bound_130 : decode b_Mod_bound 130 = .ok (.iconst 1, 1) := by decide +kernel
theorem d_Mod_bound_131 : decode b_Mod_bound 131 = .ok (.goto 4, 3) := by decide +kernel
theorem d_Mod_bound_134 : decode b_Mod_bound 134 = .ok (.iconst 0, 1) := by decide +kernel
theorem d_Mod_bound_135 : decode b_Mod_bound 135 = .ok (.ireturn, 1) := by decide +kernel
theorem d_Mod_bound_136 : decode b_Mod_bound 136 = .ok (.aload_n 0, 1) := by decide +kernel
theorem d_Mod_bound_137 : decode b_Mod_bound 137 = .ok (.aload_n 0, 1) := by decide +kernel
theorem d_Mod_bound_138 : decode b_Mod_bound 138 = .ok (.getfield 58, 3) := by decide +kernel
theorem d_Mod_bound_141 : decode b_Mod_bound 141 = .ok (.iload_n 3, 1) := by decide +kernel
theorem d_Mod_bound_142 : decode b_Mod_bound 142 = .ok (.iaload, 1) := by decide +kernel
theorem d_Mod_bound_143 : decode b_Mod_bound 143 = .ok (.iload_n 2, 1) := by decide +kernel
theorem d_Mod_bound_144 : decode b_Mod_bound 144 = .ok (.invokevirtual 370, 3) := by decide +kernel
theorem d_Mod_bound_147 : decode b_Mod_bound 147 = .ok (.ifCond .ne 33, 3) := by decide +kernel
theorem d_Mod_bound_150 : decode b_Mod_bound 150 = .ok (.aload_n 0, 1) := by decide +kernel
theorem d_Mod_bound_151 : decode b_Mod_bound 151 = .ok (.aload_n 0, 1) := by decide +kernel
theorem d_Mod_bound_152 : decode b_Mod_bound 152 = .ok (.getfield 62, 3) := by decide +kernel
theorem d_Mod_bound_155 : decode b_Mod_bound 155 = .ok (.iload_n 3, 1) := by decide +kernel
theorem d_Mod_bound_156 : decode b_Mod_bound 156 = .ok (.iaload, 1) := by decide +kernel
theorem d_Mod_bound_157 : decode b_Mod_bound 157 = .ok (.iload_n 2, 1) := by decide +kernel
theorem d_Mod_bound_158 : decode b_Mod_bound 158 = .ok (.invokevirtual 370, 3) := by decide +kernel
theorem d_Mod_bound_161 : decode b_Mod_bound 161 = .ok (.ifCond .ne 19, 3) := by decide +kernel
theorem d_Mod_bound_164 : decode b_Mod_bound 164 = .ok (.aload_n 0, 1) := by decide +kernel
theorem d_Mod_bound_165 : decode b_Mod_bound 165 = .ok (.aload_n 0, 1) := by decide +kernel
theorem d_Mod_bound_166 : decode b_Mod_bound 166 = .ok (.getfield 65, 3) := by decide +kernel
theorem d_Mod_bound_169 : decode b_Mod_bound 169 = .ok (.iload_n 3, 1) := by decide +kernel
theorem d_Mod_bound_170 : decode b_Mod_bound 170 = .ok (.iaload, 1) := by decide +kernel
theorem d_Mod_bound_171 : decode b_Mod_bound 171 = .ok (.iload_n 2, 1) := by decide +kernel
theorem d_Mod_bound_172 : decode b_Mod_bound 172 = .ok (.iconst 1, 1) := by decide +kernel
theorem d_Mod_bound_173 : decode b_Mod_bound 173 = .ok (.iadd, 1) := by decide +kernel
theorem d_Mod_bound_174 : decode b_Mod_bound 174 = .ok (.invokevirtual 370, 3) := by decide +kernel
theorem d_Mod_bound_177 : decode b_Mod_bound 177 = .ok (.ifCond .eq 7, 3) := by decide +kernel
theorem d_Mod_bound_180 : decode b_Mod_bound 180 = .ok (.iconst 1, 1) := by decide +kernel
theorem d_Mod_bound_181 : decode b_Mod_bound 181 = .ok (.goto 4, 3) := by decide +kernel
theorem d_Mod_bound_184 : decode b_Mod_bound 184 = .ok (.iconst 0, 1) := by decide +kernel
theorem d_Mod_bound_185 : decode b_Mod_bound 185 = .ok (.ireturn, 1) := by decide +kernel
theorem d_Mod_bound_186 : decode b_Mod_bound 186 = .ok (.iconst 0, 1) := by decide +kernel
theorem d_Mod_bound_187 : decode b_Mod_bound 187 = .ok (.ireturn, 1) := by decide +kernel
