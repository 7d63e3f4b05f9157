theorem d_Mod_has_0 : decode b_Mod_has 0 = .ok (.iload_n 1, 1) := by decide +kernel
theorem d_Mod_has_1 : decode b_Mod_has 1 = .ok (.istore_n 3, 1) := by decide +kernel
theorem d_Mod_has_2 : decode b_Mod_has 2 = .ok (.aload_n 0, 1) := by decide +kernel
theorem d_Mod_has_3 : decode b_Mod_has 3 = .ok (.getfield 55, 3) := by decide +kernel
theorem d_Mod_has_6 : decode b_Mod_has 6 = .ok (.iload_n 3, 1) := by decide +kernel
theorem d_Mod_has_7 : decode b_Mod_has 7 = .ok (.baload, 1) := by decide +kernel
theorem d_Mod_has_8 : decode b_Mod_has 8 = .ok (.bipush 8, 2) := by decide +kernel
theorem d_Mod_has_10 : decode b_Mod_has 10 = .ok (.if_icmp .ne 29, 3) := by decide +kernel
theorem d_Mod_has_13 : decode b_Mod_has 13 = .ok (.aload_n 0, 1) := by decide +kernel
theorem d_Mod_has_14 : decode b_Mod_has 14 = .ok (.aload_n 0, 1) := by decide +kernel
theorem d_Mod_has_15 : decode b_Mod_has 15 = .ok (.getfield 62, 3) := by decide +kernel
theorem d_Mod_has_18 : decode b_Mod_has 18 = .ok (.iload_n 3, 1) := by decide +kernel
theorem d_Mod_has_19 : decode b_Mod_has 19 = .ok (.iaload, 1) := by decide +kernel
theorem d_Mod_has_20 : decode b_Mod_has 20 = .ok (.iload_n 2, 1) := by decide +kernel
theorem d_Mod_has_21 : decode b_Mod_has 21 = .ok (.invokevirtual 367, 3) := by decide +kernel
theorem d_Mod_has_24 : decode b_Mod_has 24 = .ok (.ifCond .eq 5, 3) := by decide +kernel
theorem d_Mod_has_27 : decode b_Mod_has 27 = .ok (.iconst 1, 1) := by decide +kernel
theorem d_Mod_has_28 : decode b_Mod_has 28 = .ok (.ireturn, 1) := by decide +kernel
theorem d_Mod_has_29 : decode b_Mod_has 29 = .ok (.aload_n 0, 1) := by decide +kernel
theorem d_Mod_has_30 : decode b_Mod_has 30 = .ok (.getfield 58, 3) := by decide +kernel
theorem d_Mod_has_33 : decode b_Mod_has 33 = .ok (.iload_n 3, 1) := by decide +kernel
theorem d_Mod_has_34 : decode b_Mod_has 34 = .ok (.iaload, 1) := by decide +kernel
theorem d_Mod_has_35 : decode b_Mod_has 35 = .ok (.istore_n 3, 1) := by decide +kernel
theorem d_Mod_has_36 : decode b_Mod_has 36 = .ok (.goto (-34), 3) := by decide +kernel
theorem d_Mod_has_39 : decode b_Mod_has 39 = .ok (.aload_n 0, 1) := by decide +kernel
theorem d_Mod_has_40 : decode b_Mod_has 40 = .ok (.getfield 55, 3) := by decide +kernel
theorem d_Mod_has_43 : decode b_Mod_has 43 = .ok (.iload_n 3, 1) := by decide +kernel
theorem d_Mod_has_44 : decode b_Mod_has 44 = .ok (.baload, 1) := by decide +kernel
theorem d_Mod_has_45 : decode b_Mod_has 45 = .ok (.tableswitch 149 1 9 #[51, 149, 149, 149, 149, 67, 67, 149, 101], 51) := by decide +kernel
theorem d_Mod_has_96 : decode b_Mod_has 96 = .ok (.aload_n 0, 1) := by decide +kernel
theorem d_Mod_has_97 : decode b_Mod_has 97 = .ok (.getfield 58, 3) := by decide +kernel
theorem d_Mod_has_100 : decode b_Mod_has 100 = .ok (.iload_n 3, 1) := by decide +kernel
theorem d_Mod_has_101 : decode b_Mod_has 101 = .ok (.iaload, 1) := by decide +kernel
theorem d_Mod_has_102 : decode b_Mod_has 102 = .ok (.iload_n 2, 1) := by decide +kernel
theorem d_Mod_has_103 : decode b_Mod_has 103 = .ok (.if_icmp .ne 7, 3) := by decide +kernel
theorem d_Mod_has_106 : decode b_Mod_has 106 = .ok (.iconst 1, 1) := by decide +kernel
theorem d_Mod_has_107 : decode b_Mod_has 107 = .ok (.goto 4, 3) := by decide +kernel
theorem d_Mod_has_110 : decode b_Mod_has 110 = .ok (.iconst 0, 1) := by decide +kernel
theorem d_Mod_has_111 : decode b_Mod_has 111 = .ok (.ireturn, 1) := by decide +kernel
theorem d_Mod_has_112 : decode b_Mod_has 112 = .ok (.aload_n 0, 1) := by decide +kernel
theorem d_Mod_has_113 : decode b_Mod_has 113 = .ok (.aload_n 0, 1) := by decide +kernel
theorem d_Mod_has_114 : decode b_Mod_has 114 = .ok (.getfield 58, 3) := by decide +kernel
theorem d_Mod_has_117 : decode b_Mod_has 117 = .ok (.iload_n 3, 1) := by decide +kernel
theorem d_Mod_has_118 : decode b_Mod_has 118 = .ok (.iaload, 1) := by decide +kernel
theorem d_Mod_has_119 : decode b_Mod_has 119 = .ok (.iload_n 2, 1) := by decide +kernel
theorem d_Mod_has_120 : decode b_Mod_has 120 = .ok (.invokevirtual 367, 3) := by decide +kernel
theorem d_Mod_has_123 : decode b_Mod_has 123 = .ok (.ifCond .ne 17, 3) := by decide +kernel
theorem d_Mod_has_126 : decode b_Mod_has 126 = .ok (.aload_n 0, 1) := by decide +kernel
theorem d_Mod_has_127 : decode b_Mod_has 127 = .ok (.aload_n 0, 1) := by decide +kernel
theorem d_Mod_has_128 : decode b_Mod_has 128 = .ok (.getfield 62, 3) := by decide +kernel
theorem d_Mod_has_131 : decode b_Mod_has 131 = .ok (.iload_n 3, 1) := by decide +kernel
theorem d_Mod_has_132 : decode b_Mod_has 132 = .ok (.iaload, 1) := by decide +kernel
theorem d_Mod_has_133 : decode b_Mod_has 133 = .ok (.iload_n 2, 1) := by decide +kernel
theorem d_Mod_has_134 : decode b_Mod_has 134 = .ok (.invokevirtual 367, 3) := by decide +kernel
theorem d_Mod_has_137 : decode b_Mod_has 137 = .ok (.ifCond .eq 7, 3) := by decide +kernel
theorem d_Mod_has_140 : decode b_Mod_has 140 = .ok (.iconst 1, 1) := by decide +kernel
theorem d_Mod_has_141 : decode b_Mod_has 141 = .ok (.goto 4, 3) := by decide +kernel
theorem d_Mod_has_144 : decode b_Mod_has 144 = .ok (.iconst 0, 1) := by decide +kernel
theorem d_Mod_has_145 : decode b_Mod_has 145 = .ok (.ireturn, 1) := by decide +kernel
theorem d_Mod_has_146 : decode b_Mod_has 146 = .ok (.aload_n 0, 1) := by decide +kernel
theorem d_Mod_has_147 : decode b_Mod_has 147 = .ok (.aload_n 0, 1) := by decide +kernel
theorem d_Mod_has_148 : decode b_Mod_has 148 = .ok (.getfield 58, 3) := by decide +kernel
theorem d_Mod_has_151 : decode b_Mod_has 151 = .ok (.iload_n 3, 1) := by decide +kernel
theorem d_Mod_has_152 : decode b_Mod_has 152 = .ok (.iaload, 1) := by decide +kernel
theorem d_Mod_has_153 : decode b_Mod_has 153 = .ok (.iload_n 2, 1) := by decide +kernel
theorem d_Mod_has_154 : decode b_Mod_has 154 = .ok (.invokevirtual 367, 3) := by decide +kernel
theorem d_Mod_has_157 : decode b_Mod_has 157 = .ok (.ifCond .ne 31, 3) := by decide +kernel
theorem d_Mod_has_160 : decode b_Mod_has 160 = .ok (.aload_n 0, 1) := by decide +kernel
theorem d_Mod_has_161 : decode b_Mod_has 161 = .ok (.aload_n 0, 1) := by decide +kernel
theorem d_Mod_has_162 : decode b_Mod_has 162 = .ok (.getfield 62, 3) := by decide +kernel
theorem d_Mod_has_165 : decode b_Mod_has 165 = .ok (.iload_n 3, 1) := by decide +kernel
theorem d_Mod_has_166 : decode b_Mod_has 166 = .ok (.iaload, 1) := by decide +kernel
theorem d_Mod_has_167 : decode b_Mod_has 167 = .ok (.iload_n 2, 1) := by decide +kernel
theorem d_Mod_has_168 : decode b_Mod_has 168 = .ok (.invokevirtual 367, 3) := by decide +kernel
theorem d_Mod_has_171 : decode b_Mod_has 171 = .ok (.ifCond .ne 17, 3) := by decide +kernel
theorem d_Mod_has_174 : decode b_Mod_has 174 = .ok (.aload_n 0, 1) := by decide +kernel
theorem d_Mod_has_175 : decode b_Mod_has 175 = .ok (.aload_n 0, 1) := by decide +kernel
theorem d_Mod_has_176 : decode b_Mod_has 176 = .ok (.getfield 65, 3) := by decide +kernel
theorem d_Mod_has_179 : decode b_Mod_has 179 = .ok (.iload_n 3, 1) := by decide +kernel
theorem d_Mod_has_180 : decode b_Mod_has 180 = .ok (.iaload, 1) := by decide +kernel
theorem d_Mod_has_181 : decode b_Mod_has 181 = .ok (.iload_n 2, 1) := by decide +kernel
theorem d_Mod_has_182 : decode b_Mod_has 182 = .ok (.invokevirtual 367, 3) := by decide +kernel
theorem d_Mod_has_185 : decode b_Mod_has 185 = .ok (.ifCond .eq 7, 3) := by decide +kernel
theorem d_Mod_has_188 : decode b_Mod_has 188 = .ok (.iconst 1, 1) := by decide +kernel
theorem d_Mod_has_189 : decode b_Mod_has 189 = .ok (.goto 4, 3) := by decide +kernel
theorem d_Mod_has_192 : decode b_Mod_has 192 = .ok (.iconst 0, 1) := by decide +kernel
theorem d_Mod_has_193 : decode b_Mod_has 193 = .ok (.ireturn, 1) := by decide +kernel
theorem d_Mod_has_194 : decode b_Mod_has 194 = .ok (.iconst 0, 1) := by decide +kernel
theorem d_Mod_has_195 : decode b_Mod_has 195 = .ok (.ireturn, 1) := by decide +kernel
