theorem d_Ker_init_0 : decode b_Ker_init 0 = .ok (.aload_n 0, 1) := by decide +kernel
theorem d_Ker_init_1 : decode b_Ker_init 1 = .ok (.invokespecial 1, 3) := by decide +kernel
theorem d_Ker_init_4 : decode b_Ker_init 4 = .ok (.aload_n 0, 1) := by decide +kernel
theorem d_Ker_init_5 : decode b_Ker_init 5 = .ok (.new 7, 3) := by decide +kernel
theorem d_Ker_init_8 : decode b_Ker_init 8 = .ok (.dup, 1) := by decide +kernel
theorem d_Ker_init_9 : decode b_Ker_init 9 = .ok (.sipush 256, 3) := by decide +kernel
theorem d_Ker_init_12 : decode b_Ker_init 12 = .ok (.ldc 11, 2) := by decide +kernel
theorem d_Ker_init_14 : decode b_Ker_init 14 = .ok (.invokespecial 12, 3) := by decide +kernel
theorem d_Ker_init_17 : decode b_Ker_init 17 = .ok (.putfield 15, 3) := by decide +kernel
theorem d_Ker_init_20 : decode b_Ker_init 20 = .ok (.aload_n 0, 1) := by decide +kernel
theorem d_Ker_init_21 : decode b_Ker_init 21 = .ok (.new 7, 3) := by decide +kernel
theorem d_Ker_init_24 : decode b_Ker_init 24 = .ok (.dup, 1) := by decide +kernel
theorem d_Ker_init_25 : decode b_Ker_init 25 = .ok (.sipush 256, 3) := by decide +kernel
theorem d_Ker_init_28 : decode b_Ker_init 28 = .ok (.ldc 11, 2) := by decide +kernel
theorem d_Ker_init_30 : decode b_Ker_init 30 = .ok (.invokespecial 12, 3) := by decide +kernel
theorem d_Ker_init_33 : decode b_Ker_init 33 = .ok (.putfield 19, 3) := by decide +kernel
theorem d_Ker_init_36 : decode b_Ker_init 36 = .ok (.aload_n 0, 1) := by decide +kernel
theorem d_Ker_init_37 : decode b_Ker_init 37 = .ok (.new 22, 3) := by decide +kernel
theorem d_Ker_init_40 : decode b_Ker_init 40 = .ok (.dup, 1) := by decide +kernel
theorem d_Ker_init_41 : decode b_Ker_init 41 = .ok (.invokespecial 24, 3) := by decide +kernel
theorem d_Ker_init_44 : decode b_Ker_init 44 = .ok (.putfield 25, 3) := by decide +kernel
theorem d_Ker_init_47 : decode b_Ker_init 47 = .ok (.aload_n 0, 1) := by decide +kernel
theorem d_Ker_init_48 : decode b_Ker_init 48 = .ok (.new 29, 3) := by decide +kernel
theorem d_Ker_init_51 : decode b_Ker_init 51 = .ok (.dup, 1) := by decide +kernel
theorem d_Ker_init_52 : decode b_Ker_init 52 = .ok (.aload_n 0, 1) := by decide +kernel
theorem d_Ker_init_53 : decode b_Ker_init 53 = .ok (.getfield 25, 3) := by decide +kernel
theorem d_Ker_init_56 : decode b_Ker_init 56 = .ok (.invokespecial 31, 3) := by decide +kernel
theorem d_Ker_init_59 : decode b_Ker_init 59 = .ok (.putfield 34, 3) := by decide +kernel
theorem d_Ker_init_62 : decode b_Ker_init 62 = .ok (.aload_n 0, 1) := by decide +kernel
theorem d_Ker_init_63 : decode b_Ker_init 63 = .ok (.new 38, 3) := by decide +kernel
theorem d_Ker_init_66 : decode b_Ker_init 66 = .ok (.dup, 1) := by decide +kernel
theorem d_Ker_init_67 : decode b_Ker_init 67 = .ok (.invokespecial 40, 3) := by decide +kernel
theorem d_Ker_init_70 : decode b_Ker_init 70 = .ok (.putfield 41, 3) := by decide +kernel
theorem d_Ker_init_73 : decode b_Ker_init 73 = .ok (.aload_n 0, 1) := by decide +kernel
theorem d_Ker_init_74 : decode b_Ker_init 74 = .ok (.new 45, 3) := by decide +kernel
theorem d_Ker_init_77 : decode b_Ker_init 77 = .ok (.dup, 1) := by decide +kernel
theorem d_Ker_init_78 : decode b_Ker_init 78 = .ok (.aload_n 0, 1) := by decide +kernel
theorem d_Ker_init_79 : decode b_Ker_init 79 = .ok (.getfield 15, 3) := by decide +kernel
theorem d_Ker_init_82 : decode b_Ker_init 82 = .ok (.invokespecial 47, 3) := by decide +kernel
theorem d_Ker_init_85 : decode b_Ker_init 85 = .ok (.putfield 50, 3) := by decide +kernel
theorem d_Ker_init_88 : decode b_Ker_init 88 = .ok (.aload_n 0, 1) := by decide +kernel
theorem d_Ker_init_89 : decode b_Ker_init 89 = .ok (.new 54, 3) := by decide +kernel
theorem d_Ker_init_92 : decode b_Ker_init 92 = .ok (.dup, 1) := by decide +kernel
theorem d_Ker_init_93 : decode b_Ker_init 93 = .ok (.aload_n 0, 1) := by decide +kernel
theorem d_Ker_init_94 : decode b_Ker_init 94 = .ok (.getfield 15, 3) := by decide +kernel
theorem d_Ker_init_97 : decode b_Ker_init 97 = .ok (.aload_n 0, 1) := by decide +kernel
theorem d_Ker_init_98 : decode b_Ker_init 98 = .ok (.getfield 50, 3) := by decide +kernel
theorem d_Ker_init_101 : decode b_Ker_init 101 = .ok (.aload_n 0, 1) := by decide +kernel
theorem d_Ker_init_102 : decode b_Ker_init 102 = .ok (.getfield 25, 3) := by decide +kernel
theorem d_Ker_init_105 : decode b_Ker_init 105 = .ok (.aload_n 0, 1) := by decide +kernel
theorem d_Ker_init_106 : decode b_Ker_init 106 = .ok (.getfield 34, 3) := by decide +kernel
theorem d_Ker_init_109 : decode b_Ker_init 109 = .ok (.aload_n 0, 1) := by decide +kernel
theorem d_Ker_init_110 : decode b_Ker_init 110 = .ok (.getfield 41, 3) := by decide +kernel
theorem d_Ker_init_113 : decode b_Ker_init 113 = .ok (.invokespecial 56, 3) := by decide +kernel
theorem d_Ker_init_116 : decode b_Ker_init 116 = .ok (.putfield 59, 3) := by decide +kernel
theorem d_Ker_init_119 : decode b_Ker_init 119 = .ok (.aload_n 0, 1) := by decide +kernel
theorem d_Ker_init_120 : decode b_Ker_init 120 = .ok (.new 63, 3) := by decide +kernel
theorem d_Ker_init_123 : decode b_Ker_init 123 = .ok (.dup, 1) := by decide +kernel
theorem d_Ker_init_124 : decode b_Ker_init 124 = .ok (.invokespecial 65, 3) := by decide +kernel
theorem d_Ker_init_127 : decode b_Ker_init 127 = .ok (.putfield 66, 3) := by decide +kernel
theorem d_Ker_init_130 : decode b_Ker_init 130 = .ok (.aload_n 0, 1) := by decide +kernel
theorem d_Ker_init_131 : decode b_Ker_init 131 = .ok (.new 70, 3) := by decide +kernel
theorem d_Ker_init_134 : decode b_Ker_init 134 = .ok (.dup, 1) := by decide +kernel
theorem d_Ker_init_135 : decode b_Ker_init 135 = .ok (.aload_n 0, 1) := by decide +kernel
theorem d_Ker_init_136 : decode b_Ker_init 136 = .ok (.getfield 66, 3) := by decide +kernel
theorem d_Ker_init_139 : decode b_Ker_init 139 = .ok (.aload_n 0, 1) := by decide +kernel
theorem d_Ker_init_140 : decode b_Ker_init 140 = .ok (.getfield 25, 3) := by decide +kernel
theorem d_Ker_init_143 : decode b_Ker_init 143 = .ok (.aload_n 0, 1) := by decide +kernel
theorem d_Ker_init_144 : decode b_Ker_init 144 = .ok (.getfield 34, 3) := by decide +kernel
theorem d_Ker_init_147 : decode b_Ker_init 147 = .ok (.aload_n 0, 1) := by decide +kernel
theorem d_Ker_init_148 : decode b_Ker_init 148 = .ok (.getfield 41, 3) := by decide +kernel
theorem d_Ker_init_151 : decode b_Ker_init 151 = .ok (.invokespecial 72, 3) := by decide +kernel
theorem d_Ker_init_154 : decode b_Ker_init 154 = .ok (.putfield 75, 3) := by decide +kernel
theorem d_Ker_init_157 : decode b_Ker_init 157 = .ok (.aload_n 0, 1) := by decide +kernel
theorem d_Ker_init_158 : decode b_Ker_init 158 = .ok (.new 79, 3) := by decide +kernel
theorem d_Ker_init_161 : decode b_Ker_init 161 = .ok (.dup, 1) := by decide +kernel
theorem d_Ker_init_162 : decode b_Ker_init 162 = .ok (.aload_n 0, 1) := by decide +kernel
theorem d_Ker_init_163 : decode b_Ker_init 163 = .ok (.getfield 66, 3) := by decide +kernel
theorem d_Ker_init_166 : decode b_Ker_init 166 = .ok (.aload_n 0, 1) := by decide +kernel
theorem d_Ker_init_167 : decode b_Ker_init 167 = .ok (.getfield 25, 3) := by decide +kernel
theorem d_Ker_init_170 : decode b_Ker_init 170 = .ok (.aload_n 0, 1) := by decide +kernel
theorem d_Ker_init_171 : decode b_Ker_init 171 = .ok (.getfield 34, 3) := by decide +kernel
theorem d_Ker_init_174 : decode b_Ker_init 174 = .ok (.aload_n 0, 1) := by decide +kernel
theorem d_Ker_init_175 : decode b_Ker_init 175 = .ok (.getfield 41, 3) := by decide +kernel
theorem d_Ker_init_178 : decode b_Ker_init 178 = .ok (.invokespecial 81, 3) := by decide +kernel
theorem d_Ker_init_181 : decode b_Ker_init 181 = .ok (.putfield 82, 3) := by decide +kernel
theorem d_Ker_init_184 : decode b_Ker_init 184 = .ok (.aload_n 0, 1) := by decide +kernel
theorem d_Ker_init_185 : decode b_Ker_init 185 = .ok (.new 86, 3) := by decide +kernel
theorem d_Ker_init_188 : decode b_Ker_init 188 = .ok (.dup, 1) := by decide +kernel
theorem d_Ker_init_189 : decode b_Ker_init 189 = .ok (.aload_n 0, 1) := by decide +kernel
theorem d_Ker_init_190 : decode b_Ker_init 190 = .ok (.getfield 66, 3) := by decide +kernel
theorem d_Ker_init_193 : decode b_Ker_init 193 = .ok (.aload_n 0, 1) := by decide +kernel
theorem d_Ker_init_194 : decode b_Ker_init 194 = .ok (.getfield 25, 3) := by decide +kernel
theorem d_Ker_init_197 : decode b_Ker_init 197 = .ok (.aload_n 0, 1) := by decide +kernel
theorem d_Ker_init_198 : decode b_Ker_init 198 = .ok (.getfield 34, 3) := by decide +kernel
theorem d_Ker_init_201 : decode b_Ker_init 201 = .ok (.aload_n 0, 1) := by decide +kernel
theorem d_Ker_init_202 : decode b_Ker_init 202 = .ok (.getfield 41, 3) := by decide +kernel
theorem d_Ker_init_205 : decode b_Ker_init 205 = .ok (.aload_n 0, 1) := by decide +kernel
theorem d_Ker_init_206 : decode b_Ker_init 206 = .ok (.getfield 59, 3) := by decide +kernel
theorem d_Ker_init_209 : decode b_Ker_init 209 = .ok (.invokespecial 88, 3) := by decide +kernel
theorem d_Ker_init_212 : decode b_Ker_init 212 = .ok (.putfield 91, 3) := by decide +kernel
theorem d_Ker_init_215 : decode b_Ker_init 215 = .ok (.aload_n 0, 1) := by decide +kernel
theorem d_Ker_init_216 : decode b_Ker_init 216 = .ok (.new 95, 3) := by decide +kernel
theorem d_Ker_init_219 : decode b_Ker_init 219 = .ok (.dup, 1) := by decide +kernel
theorem d_Ker_init_220 : decode b_Ker_init 220 = .ok (.aload_n 0, 1) := by decide +kernel
theorem d_Ker_init_221 : decode b_Ker_init 221 = .ok (.getfield 19, 3) := by decide +kernel
theorem d_Ker_init_224 : decode b_Ker_init 224 = .ok (.aload_n 0, 1) := by decide +kernel
theorem d_Ker_init_225 : decode b_Ker_init 225 = .ok (.getfield 34, 3) := by decide +kernel
theorem d_Ker_init_228 : decode b_Ker_init 228 = .ok (.aload_n 0, 1) := by decide +kernel
theorem d_Ker_init_229 : decode b_Ker_init 229 = .ok (.getfield 41, 3) := by decide +kernel
theorem d_Ker_init_232 : decode b_Ker_init 232 = .ok (.invokespecial 97, 3) := by decide +kernel
theorem d_Ker_init_235 : decode b_Ker_init 235 = .ok (.putfield 100, 3) := by decide +kernel
theorem d_Ker_init_238 : decode b_Ker_init 238 = .ok (.return_, 1) := by decide +kernel
