theorem d_Fam_sortOf_0 : decode b_Fam_sortOf 0 = .ok (.aload_n 0, 1) := by decide +kernel
theorem d_Fam_sortOf_1 : decode b_Fam_sortOf 1 = .ok (.getfield 9, 3) := by decide +kernel
theorem d_Fam_sortOf_4 : decode b_Fam_sortOf 4 = .ok (.iconst 0, 1) := by decide +kernel
theorem d_Fam_sortOf_5 : decode b_Fam_sortOf 5 = .ok (.iload_n 1, 1) := by decide +kernel
theorem d_Fam_sortOf_6 : decode b_Fam_sortOf 6 = .ok (.invokevirtual 119, 3) := by decide +kernel
theorem d_Fam_sortOf_9 : decode b_Fam_sortOf 9 = .ok (.aload_n 0, 1) := by decide +kernel
theorem d_Fam_sortOf_10 : decode b_Fam_sortOf 10 = .ok (.getfield 9, 3) := by decide +kernel
theorem d_Fam_sortOf_13 : decode b_Fam_sortOf 13 = .ok (.bipush 25, 2) := by decide +kernel
theorem d_Fam_sortOf_15 : decode b_Fam_sortOf 15 = .ok (.iconst 0, 1) := by decide +kernel
theorem d_Fam_sortOf_16 : decode b_Fam_sortOf 16 = .ok (.iconst 0, 1) := by decide +kernel
theorem d_Fam_sortOf_17 : decode b_Fam_sortOf 17 = .ok (.iconst 0, 1) := by decide +kernel
theorem d_Fam_sortOf_18 : decode b_Fam_sortOf 18 = .ok (.invokevirtual 122, 3) := by decide +kernel
theorem d_Fam_sortOf_21 : decode b_Fam_sortOf 21 = .ok (.aload_n 0, 1) := by decide +kernel
theorem d_Fam_sortOf_22 : decode b_Fam_sortOf 22 = .ok (.getfield 9, 3) := by decide +kernel
theorem d_Fam_sortOf_25 : decode b_Fam_sortOf 25 = .ok (.bipush 15, 2) := by decide +kernel
theorem d_Fam_sortOf_27 : decode b_Fam_sortOf 27 = .ok (.iload_n 2, 1) := by decide +kernel
theorem d_Fam_sortOf_28 : decode b_Fam_sortOf 28 = .ok (.iconst 0, 1) := by decide +kernel
theorem d_Fam_sortOf_29 : decode b_Fam_sortOf 29 = .ok (.iconst 1, 1) := by decide +kernel
theorem d_Fam_sortOf_30 : decode b_Fam_sortOf 30 = .ok (.invokevirtual 122, 3) := by decide +kernel
theorem d_Fam_sortOf_33 : decode b_Fam_sortOf 33 = .ok (.return_, 1) := by decide +kernel
theorem d_Fam_family_0 : decode b_Fam_family 0 = .ok (.aload_n 0, 1) := by decide +kernel
theorem d_Fam_family_1 : decode b_Fam_family 1 = .ok (.aload_n 0, 1) := by decide +kernel
theorem d_Fam_family_2 : decode b_Fam_family 2 = .ok (.getfield 27, 3) := by decide +kernel
theorem d_Fam_family_5 : decode b_Fam_family 5 = .ok (.invokevirtual 53, 3) := by decide +kernel
theorem d_Fam_family_8 : decode b_Fam_family 8 = .ok (.putfield 59, 3) := by decide +kernel
theorem d_Fam_family_11 : decode b_Fam_family 11 = .ok (.aload_n 0, 1) := by decide +kernel
theorem d_Fam_family_12 : decode b_Fam_family 12 = .ok (.aload_n 0, 1) := by decide +kernel
theorem d_Fam_family_13 : decode b_Fam_family 13 = .ok (.getfield 27, 3) := by decide +kernel
theorem d_Fam_family_16 : decode b_Fam_family 16 = .ok (.invokevirtual 63, 3) := by decide +kernel
theorem d_Fam_family_19 : decode b_Fam_family 19 = .ok (.putfield 66, 3) := by decide +kernel
theorem d_Fam_family_22 : decode b_Fam_family 22 = .ok (.aload_n 0, 1) := by decide +kernel
theorem d_Fam_family_23 : decode b_Fam_family 23 = .ok (.aload_n 0, 1) := by decide +kernel
theorem d_Fam_family_24 : decode b_Fam_family 24 = .ok (.getfield 23, 3) := by decide +kernel
theorem d_Fam_family_27 : decode b_Fam_family 27 = .ok (.invokevirtual 68, 3) := by decide +kernel
theorem d_Fam_family_30 : decode b_Fam_family 30 = .ok (.aload_n 0, 1) := by decide +kernel
theorem d_Fam_family_31 : decode b_Fam_family 31 = .ok (.getfield 59, 3) := by decide +kernel
theorem d_Fam_family_34 : decode b_Fam_family 34 = .ok (.isub, 1) := by decide +kernel
theorem d_Fam_family_35 : decode b_Fam_family 35 = .ok (.iconst 1, 1) := by decide +kernel
theorem d_Fam_family_36 : decode b_Fam_family 36 = .ok (.isub, 1) := by decide +kernel
theorem d_Fam_family_37 : decode b_Fam_family 37 = .ok (.putfield 73, 3) := by decide +kernel
theorem d_Fam_family_40 : decode b_Fam_family 40 = .ok (.aload_n 0, 1) := by decide +kernel
theorem d_Fam_family_41 : decode b_Fam_family 41 = .ok (.iconst 0, 1) := by decide +kernel
theorem d_Fam_family_42 : decode b_Fam_family 42 = .ok (.putfield 76, 3) := by decide +kernel
theorem d_Fam_family_45 : decode b_Fam_family 45 = .ok (.aload_n 0, 1) := by decide +kernel
theorem d_Fam_family_46 : decode b_Fam_family 46 = .ok (.iconst 0, 1) := by decide +kernel
theorem d_Fam_family_47 : decode b_Fam_family 47 = .ok (.putfield 79, 3) := by decide +kernel
theorem d_Fam_family_50 : decode b_Fam_family 50 = .ok (.aload_n 0, 1) := by decide +kernel
theorem d_Fam_family_51 : decode b_Fam_family 51 = .ok (.getfield 27, 3) := by decide +kernel
theorem d_Fam_family_54 : decode b_Fam_family 54 = .ok (.invokevirtual 82, 3) := by decide +kernel
theorem d_Fam_family_57 : decode b_Fam_family 57 = .ok (.istore_n 1, 1) := by decide +kernel
theorem d_Fam_family_58 : decode b_Fam_family 58 = .ok (.aload_n 0, 1) := by decide +kernel
theorem d_Fam_family_59 : decode b_Fam_family 59 = .ok (.getfield 76, 3) := by decide +kernel
theorem d_Fam_family_62 : decode b_Fam_family 62 = .ok (.sipush 3000, 3) := by decide +kernel
theorem d_Fam_family_65 : decode b_Fam_family 65 = .ok (.if_icmp .ge 38, 3) := by decide +kernel
theorem d_Fam_family_68 : decode b_Fam_family 68 = .ok (.aload_n 0, 1) := by decide +kernel
theorem d_Fam_family_69 : decode b_Fam_family 69 = .ok (.getfield 19, 3) := by decide +kernel
theorem d_Fam_family_72 : decode b_Fam_family 72 = .ok (.iload_n 1, 1) := by decide +kernel
theorem d_Fam_family_73 : decode b_Fam_family 73 = .ok (.invokevirtual 85, 3) := by decide +kernel
theorem d_Fam_family_76 : decode b_Fam_family 76 = .ok (.bipush 6, 2) := by decide +kernel
theorem d_Fam_family_78 : decode b_Fam_family 78 = .ok (.if_icmp .ne 25, 3) := by decide +kernel
theorem d_Fam_family_81 : decode b_Fam_family 81 = .ok (.aload_n 0, 1) := by decide +kernel
theorem d_Fam_family_82 : decode b_Fam_family 82 = .ok (.getfield 19, 3) := by decide +kernel
theorem d_Fam_family_85 : decode b_Fam_family 85 = .ok (.iload_n 1, 1) := by decide +kernel
theorem d_Fam_family_86 : decode b_Fam_family 86 = .ok (.invokevirtual 91, 3) := by decide +kernel
theorem d_Fam_family_89 : decode b_Fam_family 89 = .ok (.istore_n 1, 1) := by decide +kernel
theorem d_Fam_family_90 : decode b_Fam_family 90 = .ok (.aload_n 0, 1) := by decide +kernel
theorem d_Fam_family_91 : decode b_Fam_family 91 = .ok (.dup, 1) := by decide +kernel
theorem d_Fam_family_92 : decode b_Fam_family 92 = .ok (.getfield 76, 3) := by decide +kernel
theorem d_Fam_family_95 : decode b_Fam_family 95 = .ok (.iconst 1, 1) := by decide +kernel
theorem d_Fam_family_96 : decode b_Fam_family 96 = .ok (.iadd, 1) := by decide +kernel
theorem d_Fam_family_97 : decode b_Fam_family 97 = .ok (.putfield 76, 3) := by decide +kernel
theorem d_Fam_family_100 : decode b_Fam_family 100 = .ok (.goto (-42), 3) := by decide +kernel
theorem d_Fam_family_103 : decode b_Fam_family 103 = .ok (.aload_n 0, 1) := by decide +kernel
theorem d_Fam_family_104 : decode b_Fam_family 104 = .ok (.getfield 19, 3) := by decide +kernel
theorem d_Fam_family_107 : decode b_Fam_family 107 = .ok (.iload_n 1, 1) := by decide +kernel
theorem d_Fam_family_108 : decode b_Fam_family 108 = .ok (.invokevirtual 85, 3) := by decide +kernel
theorem d_Fam_family_111 : decode b_Fam_family 111 = .ok (.iconst 2, 1) := by decide +kernel
theorem d_Fam_family_112 : decode b_Fam_family 112 = .ok (.if_icmp .eq 12, 3) := by decide +kernel
theorem d_Fam_family_115 : decode b_Fam_family 115 = .ok (.aload_n 0, 1) := by decide +kernel
theorem d_Fam_family_116 : decode b_Fam_family 116 = .ok (.getfield 15, 3) := by decide +kernel
theorem d_Fam_family_119 : decode b_Fam_family 119 = .ok (.bipush 8, 2) := by decide +kernel
theorem d_Fam_family_121 : decode b_Fam_family 121 = .ok (.invokevirtual 94, 3) := by decide +kernel
theorem d_Fam_family_124 : decode b_Fam_family 124 = .ok (.aload_n 0, 1) := by decide +kernel
theorem d_Fam_family_125 : decode b_Fam_family 125 = .ok (.aload_n 0, 1) := by decide +kernel
theorem d_Fam_family_126 : decode b_Fam_family 126 = .ok (.getfield 19, 3) := by decide +kernel
theorem d_Fam_family_129 : decode b_Fam_family 129 = .ok (.iload_n 1, 1) := by decide +kernel
theorem d_Fam_family_130 : decode b_Fam_family 130 = .ok (.invokevirtual 100, 3) := by decide +kernel
theorem d_Fam_family_133 : decode b_Fam_family 133 = .ok (.putfield 103, 3) := by decide +kernel
theorem d_Fam_family_136 : decode b_Fam_family 136 = .ok (.aload_n 0, 1) := by decide +kernel
theorem d_Fam_family_137 : decode b_Fam_family 137 = .ok (.getfield 23, 3) := by decide +kernel
theorem d_Fam_family_140 : decode b_Fam_family 140 = .ok (.aload_n 0, 1) := by decide +kernel
theorem d_Fam_family_141 : decode b_Fam_family 141 = .ok (.getfield 59, 3) := by decide +kernel
theorem d_Fam_family_144 : decode b_Fam_family 144 = .ok (.iconst 3, 1) := by decide +kernel
theorem d_Fam_family_145 : decode b_Fam_family 145 = .ok (.aload_n 0, 1) := by decide +kernel
theorem d_Fam_family_146 : decode b_Fam_family 146 = .ok (.getfield 66, 3) := by decide +kernel
theorem d_Fam_family_149 : decode b_Fam_family 149 = .ok (.invokevirtual 106, 3) := by decide +kernel
theorem d_Fam_family_152 : decode b_Fam_family 152 = .ok (.aload_n 0, 1) := by decide +kernel
theorem d_Fam_family_153 : decode b_Fam_family 153 = .ok (.getfield 23, 3) := by decide +kernel
theorem d_Fam_family_156 : decode b_Fam_family 156 = .ok (.aload_n 0, 1) := by decide +kernel
theorem d_Fam_family_157 : decode b_Fam_family 157 = .ok (.getfield 59, 3) := by decide +kernel
theorem d_Fam_family_160 : decode b_Fam_family 160 = .ok (.iconst 4, 1) := by decide +kernel
theorem d_Fam_family_161 : decode b_Fam_family 161 = .ok (.aload_n 0, 1) := by decide +kernel
theorem d_Fam_family_162 : decode b_Fam_family 162 = .ok (.getfield 76, 3) := by decide +kernel
theorem d_Fam_family_165 : decode b_Fam_family 165 = .ok (.invokevirtual 106, 3) := by decide +kernel
theorem d_Fam_family_168 : decode b_Fam_family 168 = .ok (.aload_n 0, 1) := by decide +kernel
theorem d_Fam_family_169 : decode b_Fam_family 169 = .ok (.getfield 23, 3) := by decide +kernel
theorem d_Fam_family_172 : decode b_Fam_family 172 = .ok (.aload_n 0, 1) := by decide +kernel
theorem d_Fam_family_173 : decode b_Fam_family 173 = .ok (.getfield 59, 3) := by decide +kernel
theorem d_Fam_family_176 : decode b_Fam_family 176 = .ok (.iconst 5, 1) := by decide +kernel
theorem d_Fam_family_177 : decode b_Fam_family 177 = .ok (.aload_n 0, 1) := by decide +kernel
theorem d_Fam_family_178 : decode b_Fam_family 178 = .ok (.getfield 73, 3) := by decide +kernel
theorem d_Fam_family_181 : decode b_Fam_family 181 = .ok (.invokevirtual 106, 3) := by decide +kernel
theorem d_Fam_family_184 : decode b_Fam_family 184 = .ok (.aload_n 0, 1) := by decide +kernel
theorem d_Fam_family_185 : decode b_Fam_family 185 = .ok (.getfield 23, 3) := by decide +kernel
theorem d_Fam_family_188 : decode b_Fam_family 188 = .ok (.aload_n 0, 1) := by decide +kernel
theorem d_Fam_family_189 : decode b_Fam_family 189 = .ok (.getfield 59, 3) := by decide +kernel
theorem d_Fam_family_192 : decode b_Fam_family 192 = .ok (.bipush 9, 2) := by decide +kernel
theorem d_Fam_family_194 : decode b_Fam_family 194 = .ok (.aload_n 0, 1) := by decide +kernel
theorem d_Fam_family_195 : decode b_Fam_family 195 = .ok (.getfield 103, 3) := by decide +kernel
theorem d_Fam_family_198 : decode b_Fam_family 198 = .ok (.ifCond .ne 10, 3) := by decide +kernel
theorem d_Fam_family_201 : decode b_Fam_family 201 = .ok (.aload_n 0, 1) := by decide +kernel
theorem d_Fam_family_202 : decode b_Fam_family 202 = .ok (.getfield 73, 3) := by decide +kernel
theorem d_Fam_family_205 : decode b_Fam_family 205 = .ok (.ifCond .ne 7, 3) := by decide +kernel
theorem d_Fam_family_208 : decode b_Fam_family 208 = .ok (.iconst 1, 1) := by decide +kernel
theorem d_Fam_family_209 : decode b_Fam_family 209 = .ok (.goto 4, 3) := by decide +kernel
theorem d_Fam_family_212 : decode b_Fam_family 212 = .ok (.iconst 0, 1) := by decide +kernel
theorem d_Fam_family_213 : decode b_Fam_family 213 = .ok (.invokevirtual 106, 3) := by decide +kernel
theorem d_Fam_family_216 : decode b_Fam_family 216 = .ok (.aload_n 0, 1) := by decide +kernel
theorem d_Fam_family_217 : decode b_Fam_family 217 = .ok (.bipush 33, 2) := by decide +kernel
theorem d_Fam_family_219 : decode b_Fam_family 219 = .ok (.aload_n 0, 1) := by decide +kernel
theorem d_Fam_family_220 : decode b_Fam_family 220 = .ok (.getfield 23, 3) := by decide +kernel
theorem d_Fam_family_223 : decode b_Fam_family 223 = .ok (.aload_n 0, 1) := by decide +kernel
theorem d_Fam_family_224 : decode b_Fam_family 224 = .ok (.getfield 59, 3) := by decide +kernel
theorem d_Fam_family_227 : decode b_Fam_family 227 = .ok (.iconst 1, 1) := by decide +kernel
theorem d_Fam_family_228 : decode b_Fam_family 228 = .ok (.invokevirtual 110, 3) := by decide +kernel
theorem d_Fam_family_231 : decode b_Fam_family 231 = .ok (.invokevirtual 114, 3) := by decide +kernel
theorem d_Fam_family_234 : decode b_Fam_family 234 = .ok (.return_, 1) := by decide +kernel
theorem d_Fam_memberTerm_0 : decode b_Fam_memberTerm 0 = .ok (.aload_n 0, 1) := by decide +kernel
theorem d_Fam_memberTerm_1 : decode b_Fam_memberTerm 1 = .ok (.getfield 23, 3) := by decide +kernel
theorem d_Fam_memberTerm_4 : decode b_Fam_memberTerm 4 = .ok (.aload_n 0, 1) := by decide +kernel
theorem d_Fam_memberTerm_5 : decode b_Fam_memberTerm 5 = .ok (.getfield 59, 3) := by decide +kernel
theorem d_Fam_memberTerm_8 : decode b_Fam_memberTerm 8 = .ok (.iconst 1, 1) := by decide +kernel
theorem d_Fam_memberTerm_9 : decode b_Fam_memberTerm 9 = .ok (.iadd, 1) := by decide +kernel
theorem d_Fam_memberTerm_10 : decode b_Fam_memberTerm 10 = .ok (.iload_n 1, 1) := by decide +kernel
theorem d_Fam_memberTerm_11 : decode b_Fam_memberTerm 11 = .ok (.iadd, 1) := by decide +kernel
theorem d_Fam_memberTerm_12 : decode b_Fam_memberTerm 12 = .ok (.iconst 1, 1) := by decide +kernel
theorem d_Fam_memberTerm_13 : decode b_Fam_memberTerm 13 = .ok (.invokevirtual 110, 3) := by decide +kernel
theorem d_Fam_memberTerm_16 : decode b_Fam_memberTerm 16 = .ok (.ireturn, 1) := by decide +kernel
theorem d_Fam_member_0 : decode b_Fam_member 0 = .ok (.aload_n 0, 1) := by decide +kernel
theorem d_Fam_member_1 : decode b_Fam_member 1 = .ok (.getfield 79, 3) := by decide +kernel
theorem d_Fam_member_4 : decode b_Fam_member 4 = .ok (.aload_n 0, 1) := by decide +kernel
theorem d_Fam_member_5 : decode b_Fam_member 5 = .ok (.getfield 73, 3) := by decide +kernel
theorem d_Fam_member_8 : decode b_Fam_member 8 = .ok (.if_icmp .ne 11, 3) := by decide +kernel
theorem d_Fam_member_11 : decode b_Fam_member 11 = .ok (.aload_n 0, 1) := by decide +kernel
theorem d_Fam_member_12 : decode b_Fam_member 12 = .ok (.getfield 9, 3) := by decide +kernel
theorem d_Fam_member_15 : decode b_Fam_member 15 = .ok (.invokevirtual 126, 3) := by decide +kernel
theorem d_Fam_member_18 : decode b_Fam_member 18 = .ok (.return_, 1) := by decide +kernel
theorem d_Fam_member_19 : decode b_Fam_member 19 = .ok (.aload_n 0, 1) := by decide +kernel
theorem d_Fam_member_20 : decode b_Fam_member 20 = .ok (.getfield 9, 3) := by decide +kernel
theorem d_Fam_member_23 : decode b_Fam_member 23 = .ok (.invokevirtual 129, 3) := by decide +kernel
theorem d_Fam_member_26 : decode b_Fam_member 26 = .ok (.iconst 0, 1) := by decide +kernel
theorem d_Fam_member_27 : decode b_Fam_member 27 = .ok (.istore_n 1, 1) := by decide +kernel
theorem d_Fam_member_28 : decode b_Fam_member 28 = .ok (.iload_n 1, 1) := by decide +kernel
theorem d_Fam_member_29 : decode b_Fam_member 29 = .ok (.aload_n 0, 1) := by decide +kernel
theorem d_Fam_member_30 : decode b_Fam_member 30 = .ok (.getfield 66, 3) := by decide +kernel
theorem d_Fam_member_33 : decode b_Fam_member 33 = .ok (.if_icmp .ge 34, 3) := by decide +kernel
theorem d_Fam_member_36 : decode b_Fam_member 36 = .ok (.aload_n 0, 1) := by decide +kernel
theorem d_Fam_member_37 : decode b_Fam_member 37 = .ok (.getfield 9, 3) := by decide +kernel
theorem d_Fam_member_40 : decode b_Fam_member 40 = .ok (.aload_n 0, 1) := by decide +kernel
theorem d_Fam_member_41 : decode b_Fam_member 41 = .ok (.getfield 19, 3) := by decide +kernel
theorem d_Fam_member_44 : decode b_Fam_member 44 = .ok (.iconst 4, 1) := by decide +kernel
theorem d_Fam_member_45 : decode b_Fam_member 45 = .ok (.aload_n 0, 1) := by decide +kernel
theorem d_Fam_member_46 : decode b_Fam_member 46 = .ok (.getfield 27, 3) := by decide +kernel
theorem d_Fam_member_49 : decode b_Fam_member 49 = .ok (.iload_n 1, 1) := by decide +kernel
theorem d_Fam_member_50 : decode b_Fam_member 50 = .ok (.invokevirtual 132, 3) := by decide +kernel
theorem d_Fam_member_53 : decode b_Fam_member 53 = .ok (.iload_n 1, 1) := by decide +kernel
theorem d_Fam_member_54 : decode b_Fam_member 54 = .ok (.invokevirtual 135, 3) := by decide +kernel
theorem d_Fam_member_57 : decode b_Fam_member 57 = .ok (.invokevirtual 139, 3) := by decide +kernel
theorem d_Fam_member_60 : decode b_Fam_member 60 = .ok (.pop, 1) := by decide +kernel
theorem d_Fam_member_61 : decode b_Fam_member 61 = .ok (.iinc 1 1, 3) := by decide +kernel
theorem d_Fam_member_64 : decode b_Fam_member 64 = .ok (.goto (-36), 3) := by decide +kernel
theorem d_Fam_member_67 : decode b_Fam_member 67 = .ok (.aload_n 0, 1) := by decide +kernel
theorem d_Fam_member_68 : decode b_Fam_member 68 = .ok (.getfield 37, 3) := by decide +kernel
theorem d_Fam_member_71 : decode b_Fam_member 71 = .ok (.iconst 0, 1) := by decide +kernel
theorem d_Fam_member_72 : decode b_Fam_member 72 = .ok (.invokevirtual 142, 3) := by decide +kernel
theorem d_Fam_member_75 : decode b_Fam_member 75 = .ok (.aload_n 0, 1) := by decide +kernel
theorem d_Fam_member_76 : decode b_Fam_member 76 = .ok (.aload_n 0, 1) := by decide +kernel
theorem d_Fam_member_77 : decode b_Fam_member 77 = .ok (.getfield 19, 3) := by decide +kernel
theorem d_Fam_member_80 : decode b_Fam_member 80 = .ok (.iconst 4, 1) := by decide +kernel
theorem d_Fam_member_81 : decode b_Fam_member 81 = .ok (.aload_n 0, 1) := by decide +kernel
theorem d_Fam_member_82 : decode b_Fam_member 82 = .ok (.aload_n 0, 1) := by decide +kernel
theorem d_Fam_member_83 : decode b_Fam_member 83 = .ok (.getfield 79, 3) := by decide +kernel
theorem d_Fam_member_86 : decode b_Fam_member 86 = .ok (.invokevirtual 145, 3) := by decide +kernel
theorem d_Fam_member_89 : decode b_Fam_member 89 = .ok (.aload_n 0, 1) := by decide +kernel
theorem d_Fam_member_90 : decode b_Fam_member 90 = .ok (.getfield 66, 3) := by decide +kernel
theorem d_Fam_member_93 : decode b_Fam_member 93 = .ok (.invokevirtual 135, 3) := by decide +kernel
theorem d_Fam_member_96 : decode b_Fam_member 96 = .ok (.putfield 148, 3) := by decide +kernel
theorem d_Fam_member_99 : decode b_Fam_member 99 = .ok (.aload_n 0, 1) := by decide +kernel
theorem d_Fam_member_100 : decode b_Fam_member 100 = .ok (.getfield 9, 3) := by decide +kernel
theorem d_Fam_member_103 : decode b_Fam_member 103 = .ok (.iconst 0, 1) := by decide +kernel
theorem d_Fam_member_104 : decode b_Fam_member 104 = .ok (.bipush 34, 2) := by decide +kernel
theorem d_Fam_member_106 : decode b_Fam_member 106 = .ok (.invokevirtual 119, 3) := by decide +kernel
theorem d_Fam_member_109 : decode b_Fam_member 109 = .ok (.return_, 1) := by decide +kernel
theorem d_Fam_endsInFamily_0 : decode b_Fam_endsInFamily 0 = .ok (.aload_n 0, 1) := by decide +kernel
theorem d_Fam_endsInFamily_1 : decode b_Fam_endsInFamily 1 = .ok (.getfield 19, 3) := by decide +kernel
theorem d_Fam_endsInFamily_4 : decode b_Fam_endsInFamily 4 = .ok (.iload_n 1, 1) := by decide +kernel
theorem d_Fam_endsInFamily_5 : decode b_Fam_endsInFamily 5 = .ok (.invokevirtual 183, 3) := by decide +kernel
theorem d_Fam_endsInFamily_8 : decode b_Fam_endsInFamily 8 = .ok (.istore_n 2, 1) := by decide +kernel
theorem d_Fam_endsInFamily_9 : decode b_Fam_endsInFamily 9 = .ok (.aload_n 0, 1) := by decide +kernel
theorem d_Fam_endsInFamily_10 : decode b_Fam_endsInFamily 10 = .ok (.getfield 66, 3) := by decide +kernel
theorem d_Fam_endsInFamily_13 : decode b_Fam_endsInFamily 13 = .ok (.aload_n 0, 1) := by decide +kernel
theorem d_Fam_endsInFamily_14 : decode b_Fam_endsInFamily 14 = .ok (.getfield 76, 3) := by decide +kernel
theorem d_Fam_endsInFamily_17 : decode b_Fam_endsInFamily 17 = .ok (.iadd, 1) := by decide +kernel
theorem d_Fam_endsInFamily_18 : decode b_Fam_endsInFamily 18 = .ok (.istore_n 3, 1) := by decide +kernel
theorem d_Fam_endsInFamily_19 : decode b_Fam_endsInFamily 19 = .ok (.aload_n 0, 1) := by decide +kernel
theorem d_Fam_endsInFamily_20 : decode b_Fam_endsInFamily 20 = .ok (.getfield 19, 3) := by decide +kernel
theorem d_Fam_endsInFamily_23 : decode b_Fam_endsInFamily 23 = .ok (.iload_n 2, 1) := by decide +kernel
theorem d_Fam_endsInFamily_24 : decode b_Fam_endsInFamily 24 = .ok (.invokevirtual 85, 3) := by decide +kernel
theorem d_Fam_endsInFamily_27 : decode b_Fam_endsInFamily 27 = .ok (.iconst 3, 1) := by decide +kernel
theorem d_Fam_endsInFamily_28 : decode b_Fam_endsInFamily 28 = .ok (.if_icmp .ne 30, 3) := by decide +kernel
theorem d_Fam_endsInFamily_31 : decode b_Fam_endsInFamily 31 = .ok (.aload_n 0, 1) := by decide +kernel
theorem d_Fam_endsInFamily_32 : decode b_Fam_endsInFamily 32 = .ok (.getfield 19, 3) := by decide +kernel
theorem d_Fam_endsInFamily_35 : decode b_Fam_endsInFamily 35 = .ok (.iload_n 2, 1) := by decide +kernel
theorem d_Fam_endsInFamily_36 : decode b_Fam_endsInFamily 36 = .ok (.invokevirtual 100, 3) := by decide +kernel
theorem d_Fam_endsInFamily_39 : decode b_Fam_endsInFamily 39 = .ok (.aload_n 0, 1) := by decide +kernel
theorem d_Fam_endsInFamily_40 : decode b_Fam_endsInFamily 40 = .ok (.getfield 59, 3) := by decide +kernel
theorem d_Fam_endsInFamily_43 : decode b_Fam_endsInFamily 43 = .ok (.if_icmp .ne 15, 3) := by decide +kernel
theorem d_Fam_endsInFamily_46 : decode b_Fam_endsInFamily 46 = .ok (.aload_n 0, 1) := by decide +kernel
theorem d_Fam_endsInFamily_47 : decode b_Fam_endsInFamily 47 = .ok (.getfield 19, 3) := by decide +kernel
theorem d_Fam_endsInFamily_50 : decode b_Fam_endsInFamily 50 = .ok (.iload_n 1, 1) := by decide +kernel
theorem d_Fam_endsInFamily_51 : decode b_Fam_endsInFamily 51 = .ok (.invokevirtual 186, 3) := by decide +kernel
theorem d_Fam_endsInFamily_54 : decode b_Fam_endsInFamily 54 = .ok (.iload_n 3, 1) := by decide +kernel
theorem d_Fam_endsInFamily_55 : decode b_Fam_endsInFamily 55 = .ok (.if_icmp .eq 5, 3) := by decide +kernel
theorem d_Fam_endsInFamily_58 : decode b_Fam_endsInFamily 58 = .ok (.iconst 0, 1) := by decide +kernel
theorem d_Fam_endsInFamily_59 : decode b_Fam_endsInFamily 59 = .ok (.ireturn, 1) := by decide +kernel
theorem d_Fam_endsInFamily_60 : decode b_Fam_endsInFamily 60 = .ok (.iconst 0, 1) := by decide +kernel
theorem d_Fam_endsInFamily_61 : decode b_Fam_endsInFamily 61 = .ok (.istore 4, 2) := by decide +kernel
theorem d_Fam_endsInFamily_63 : decode b_Fam_endsInFamily 63 = .ok (.iload 4, 2) := by decide +kernel
theorem d_Fam_endsInFamily_65 : decode b_Fam_endsInFamily 65 = .ok (.iload_n 3, 1) := by decide +kernel
theorem d_Fam_endsInFamily_66 : decode b_Fam_endsInFamily 66 = .ok (.if_icmp .ge 100, 3) := by decide +kernel
theorem d_Fam_endsInFamily_69 : decode b_Fam_endsInFamily 69 = .ok (.aload_n 0, 1) := by decide +kernel
theorem d_Fam_endsInFamily_70 : decode b_Fam_endsInFamily 70 = .ok (.getfield 19, 3) := by decide +kernel
theorem d_Fam_endsInFamily_73 : decode b_Fam_endsInFamily 73 = .ok (.iload_n 1, 1) := by decide +kernel
theorem d_Fam_endsInFamily_74 : decode b_Fam_endsInFamily 74 = .ok (.iload_n 3, 1) := by decide +kernel
theorem d_Fam_endsInFamily_75 : decode b_Fam_endsInFamily 75 = .ok (.iconst 1, 1) := by decide +kernel
theorem d_Fam_endsInFamily_76 : decode b_Fam_endsInFamily 76 = .ok (.isub, 1) := by decide +kernel
theorem d_Fam_endsInFamily_77 : decode b_Fam_endsInFamily 77 = .ok (.iload 4, 2) := by decide +kernel
theorem d_Fam_endsInFamily_79 : decode b_Fam_endsInFamily 79 = .ok (.isub, 1) := by decide +kernel
theorem d_Fam_endsInFamily_80 : decode b_Fam_endsInFamily 80 = .ok (.invokevirtual 189, 3) := by decide +kernel
theorem d_Fam_endsInFamily_83 : decode b_Fam_endsInFamily 83 = .ok (.istore 5, 2) := by decide +kernel
theorem d_Fam_endsInFamily_85 : decode b_Fam_endsInFamily 85 = .ok (.iload 4, 2) := by decide +kernel
theorem d_Fam_endsInFamily_87 : decode b_Fam_endsInFamily 87 = .ok (.aload_n 0, 1) := by decide +kernel
theorem d_Fam_endsInFamily_88 : decode b_Fam_endsInFamily 88 = .ok (.getfield 66, 3) := by decide +kernel
theorem d_Fam_endsInFamily_91 : decode b_Fam_endsInFamily 91 = .ok (.if_icmp .ge 38, 3) := by decide +kernel
theorem d_Fam_endsInFamily_94 : decode b_Fam_endsInFamily 94 = .ok (.aload_n 0, 1) := by decide +kernel
theorem d_Fam_endsInFamily_95 : decode b_Fam_endsInFamily 95 = .ok (.getfield 19, 3) := by decide +kernel
theorem d_Fam_endsInFamily_98 : decode b_Fam_endsInFamily 98 = .ok (.iload 5, 2) := by decide +kernel
theorem d_Fam_endsInFamily_100 : decode b_Fam_endsInFamily 100 = .ok (.invokevirtual 85, 3) := by decide +kernel
theorem d_Fam_endsInFamily_103 : decode b_Fam_endsInFamily 103 = .ok (.iconst 1, 1) := by decide +kernel
theorem d_Fam_endsInFamily_104 : decode b_Fam_endsInFamily 104 = .ok (.if_icmp .ne 21, 3) := by decide +kernel
theorem d_Fam_endsInFamily_107 : decode b_Fam_endsInFamily 107 = .ok (.aload_n 0, 1) := by decide +kernel
theorem d_Fam_endsInFamily_108 : decode b_Fam_endsInFamily 108 = .ok (.getfield 19, 3) := by decide +kernel
theorem d_Fam_endsInFamily_111 : decode b_Fam_endsInFamily 111 = .ok (.iload 5, 2) := by decide +kernel
theorem d_Fam_endsInFamily_113 : decode b_Fam_endsInFamily 113 = .ok (.invokevirtual 100, 3) := by decide +kernel
theorem d_Fam_endsInFamily_116 : decode b_Fam_endsInFamily 116 = .ok (.iload 4, 2) := by decide +kernel
theorem d_Fam_endsInFamily_118 : decode b_Fam_endsInFamily 118 = .ok (.if_icmp .ne 7, 3) := by decide +kernel
theorem d_Fam_endsInFamily_121 : decode b_Fam_endsInFamily 121 = .ok (.iconst 1, 1) := by decide +kernel
theorem d_Fam_endsInFamily_122 : decode b_Fam_endsInFamily 122 = .ok (.goto 29, 3) := by decide +kernel
theorem d_Fam_endsInFamily_125 : decode b_Fam_endsInFamily 125 = .ok (.iconst 0, 1) := by decide +kernel
theorem d_Fam_endsInFamily_126 : decode b_Fam_endsInFamily 126 = .ok (.goto 25, 3) := by decide +kernel
theorem d_Fam_endsInFamily_129 : decode b_Fam_endsInFamily 129 = .ok (.aload_n 0, 1) := by decide +kernel
theorem d_Fam_endsInFamily_130 : decode b_Fam_endsInFamily 130 = .ok (.getfield 19, 3) := by decide +kernel
theorem d_Fam_endsInFamily_133 : decode b_Fam_endsInFamily 133 = .ok (.iload 5, 2) := by decide +kernel
theorem d_Fam_endsInFamily_135 : decode b_Fam_endsInFamily 135 = .ok (.iconst 3, 1) := by decide +kernel
theorem d_Fam_endsInFamily_136 : decode b_Fam_endsInFamily 136 = .ok (.aload_n 0, 1) := by decide +kernel
theorem d_Fam_endsInFamily_137 : decode b_Fam_endsInFamily 137 = .ok (.getfield 59, 3) := by decide +kernel
theorem d_Fam_endsInFamily_140 : decode b_Fam_endsInFamily 140 = .ok (.invokevirtual 171, 3) := by decide +kernel
theorem d_Fam_endsInFamily_143 : decode b_Fam_endsInFamily 143 = .ok (.ifCond .ne 7, 3) := by decide +kernel
theorem d_Fam_endsInFamily_146 : decode b_Fam_endsInFamily 146 = .ok (.iconst 1, 1) := by decide +kernel
theorem d_Fam_endsInFamily_147 : decode b_Fam_endsInFamily 147 = .ok (.goto 4, 3) := by decide +kernel
theorem d_Fam_endsInFamily_150 : decode b_Fam_endsInFamily 150 = .ok (.iconst 0, 1) := by decide +kernel
theorem d_Fam_endsInFamily_151 : decode b_Fam_endsInFamily 151 = .ok (.istore 6, 2) := by decide +kernel
theorem d_Fam_endsInFamily_153 : decode b_Fam_endsInFamily 153 = .ok (.iload 6, 2) := by decide +kernel
theorem d_Fam_endsInFamily_155 : decode b_Fam_endsInFamily 155 = .ok (.ifCond .ne 5, 3) := by decide +kernel
theorem d_Fam_endsInFamily_158 : decode b_Fam_endsInFamily 158 = .ok (.iconst 0, 1) := by decide +kernel
theorem d_Fam_endsInFamily_159 : decode b_Fam_endsInFamily 159 = .ok (.ireturn, 1) := by decide +kernel
theorem d_Fam_endsInFamily_160 : decode b_Fam_endsInFamily 160 = .ok (.iinc 4 1, 3) := by decide +kernel
theorem d_Fam_endsInFamily_163 : decode b_Fam_endsInFamily 163 = .ok (.goto (-100), 3) := by decide +kernel
theorem d_Fam_endsInFamily_166 : decode b_Fam_endsInFamily 166 = .ok (.iconst 1, 1) := by decide +kernel
theorem d_Fam_endsInFamily_167 : decode b_Fam_endsInFamily 167 = .ok (.ireturn, 1) := by decide +kernel
theorem d_Fam_constantAt_0 : decode b_Fam_constantAt 0 = .ok (.aload_n 0, 1) := by decide +kernel
theorem d_Fam_constantAt_1 : decode b_Fam_constantAt 1 = .ok (.getfield 59, 3) := by decide +kernel
theorem d_Fam_constantAt_4 : decode b_Fam_constantAt 4 = .ok (.iconst 1, 1) := by decide +kernel
theorem d_Fam_constantAt_5 : decode b_Fam_constantAt 5 = .ok (.iadd, 1) := by decide +kernel
theorem d_Fam_constantAt_6 : decode b_Fam_constantAt 6 = .ok (.aload_n 0, 1) := by decide +kernel
theorem d_Fam_constantAt_7 : decode b_Fam_constantAt 7 = .ok (.getfield 79, 3) := by decide +kernel
theorem d_Fam_constantAt_10 : decode b_Fam_constantAt 10 = .ok (.iadd, 1) := by decide +kernel
theorem d_Fam_constantAt_11 : decode b_Fam_constantAt 11 = .ok (.ireturn, 1) := by decide +kernel
theorem d_Fam_isIndex_0 : decode b_Fam_isIndex 0 = .ok (.iconst 0, 1) := by decide +kernel
theorem d_Fam_isIndex_1 : decode b_Fam_isIndex 1 = .ok (.istore_n 2, 1) := by decide +kernel
theorem d_Fam_isIndex_2 : decode b_Fam_isIndex 2 = .ok (.iload_n 2, 1) := by decide +kernel
theorem d_Fam_isIndex_3 : decode b_Fam_isIndex 3 = .ok (.aload_n 0, 1) := by decide +kernel
theorem d_Fam_isIndex_4 : decode b_Fam_isIndex 4 = .ok (.getfield 76, 3) := by decide +kernel
theorem d_Fam_isIndex_7 : decode b_Fam_isIndex 7 = .ok (.if_icmp .ge 27, 3) := by decide +kernel
theorem d_Fam_isIndex_10 : decode b_Fam_isIndex 10 = .ok (.aload_n 0, 1) := by decide +kernel
theorem d_Fam_isIndex_11 : decode b_Fam_isIndex 11 = .ok (.getfield 19, 3) := by decide +kernel
theorem d_Fam_isIndex_14 : decode b_Fam_isIndex 14 = .ok (.aload_n 0, 1) := by decide +kernel
theorem d_Fam_isIndex_15 : decode b_Fam_isIndex 15 = .ok (.getfield 148, 3) := by decide +kernel
theorem d_Fam_isIndex_18 : decode b_Fam_isIndex 18 = .ok (.iload_n 2, 1) := by decide +kernel
theorem d_Fam_isIndex_19 : decode b_Fam_isIndex 19 = .ok (.invokevirtual 189, 3) := by decide +kernel
theorem d_Fam_isIndex_22 : decode b_Fam_isIndex 22 = .ok (.iload_n 1, 1) := by decide +kernel
theorem d_Fam_isIndex_23 : decode b_Fam_isIndex 23 = .ok (.if_icmp .ne 5, 3) := by decide +kernel
theorem d_Fam_isIndex_26 : decode b_Fam_isIndex 26 = .ok (.iconst 1, 1) := by decide +kernel
theorem d_Fam_isIndex_27 : decode b_Fam_isIndex 27 = .ok (.ireturn, 1) := by decide +kernel
theorem d_Fam_isIndex_28 : decode b_Fam_isIndex 28 = .ok (.iinc 2 1, 3) := by decide +kernel
theorem d_Fam_isIndex_31 : decode b_Fam_isIndex 31 = .ok (.goto (-29), 3) := by decide +kernel
theorem d_Fam_isIndex_34 : decode b_Fam_isIndex 34 = .ok (.iconst 0, 1) := by decide +kernel
theorem d_Fam_isIndex_35 : decode b_Fam_isIndex 35 = .ok (.ireturn, 1) := by decide +kernel
theorem d_Fam_isDetermined_0 : decode b_Fam_isDetermined 0 = .ok (.iconst 0, 1) := by decide +kernel
theorem d_Fam_isDetermined_1 : decode b_Fam_isDetermined 1 = .ok (.istore_n 1, 1) := by decide +kernel
theorem d_Fam_isDetermined_2 : decode b_Fam_isDetermined 2 = .ok (.iload_n 1, 1) := by decide +kernel
theorem d_Fam_isDetermined_3 : decode b_Fam_isDetermined 3 = .ok (.aload_n 0, 1) := by decide +kernel
theorem d_Fam_isDetermined_4 : decode b_Fam_isDetermined 4 = .ok (.getfield 37, 3) := by decide +kernel
theorem d_Fam_isDetermined_7 : decode b_Fam_isDetermined 7 = .ok (.invokevirtual 158, 3) := by decide +kernel
theorem d_Fam_isDetermined_10 : decode b_Fam_isDetermined 10 = .ok (.if_icmp .ge 44, 3) := by decide +kernel
theorem d_Fam_isDetermined_13 : decode b_Fam_isDetermined 13 = .ok (.aload_n 0, 1) := by decide +kernel
theorem d_Fam_isDetermined_14 : decode b_Fam_isDetermined 14 = .ok (.getfield 37, 3) := by decide +kernel
theorem d_Fam_isDetermined_17 : decode b_Fam_isDetermined 17 = .ok (.iload_n 1, 1) := by decide +kernel
theorem d_Fam_isDetermined_18 : decode b_Fam_isDetermined 18 = .ok (.invokevirtual 192, 3) := by decide +kernel
theorem d_Fam_isDetermined_21 : decode b_Fam_isDetermined 21 = .ok (.ifCond .eq 27, 3) := by decide +kernel
theorem d_Fam_isDetermined_24 : decode b_Fam_isDetermined 24 = .ok (.aload_n 0, 1) := by decide +kernel
theorem d_Fam_isDetermined_25 : decode b_Fam_isDetermined 25 = .ok (.aload_n 0, 1) := by decide +kernel
theorem d_Fam_isDetermined_26 : decode b_Fam_isDetermined 26 = .ok (.getfield 19, 3) := by decide +kernel
theorem d_Fam_isDetermined_29 : decode b_Fam_isDetermined 29 = .ok (.iconst 1, 1) := by decide +kernel
theorem d_Fam_isDetermined_30 : decode b_Fam_isDetermined 30 = .ok (.aload_n 0, 1) := by decide +kernel
theorem d_Fam_isDetermined_31 : decode b_Fam_isDetermined 31 = .ok (.getfield 66, 3) := by decide +kernel
theorem d_Fam_isDetermined_34 : decode b_Fam_isDetermined 34 = .ok (.iload_n 1, 1) := by decide +kernel
theorem d_Fam_isDetermined_35 : decode b_Fam_isDetermined 35 = .ok (.iadd, 1) := by decide +kernel
theorem d_Fam_isDetermined_36 : decode b_Fam_isDetermined 36 = .ok (.iconst 0, 1) := by decide +kernel
theorem d_Fam_isDetermined_37 : decode b_Fam_isDetermined 37 = .ok (.invokevirtual 180, 3) := by decide +kernel
theorem d_Fam_isDetermined_40 : decode b_Fam_isDetermined 40 = .ok (.invokevirtual 194, 3) := by decide +kernel
theorem d_Fam_isDetermined_43 : decode b_Fam_isDetermined 43 = .ok (.ifCond .ne 5, 3) := by decide +kernel
theorem d_Fam_isDetermined_46 : decode b_Fam_isDetermined 46 = .ok (.iconst 0, 1) := by decide +kernel
theorem d_Fam_isDetermined_47 : decode b_Fam_isDetermined 47 = .ok (.ireturn, 1) := by decide +kernel
theorem d_Fam_isDetermined_48 : decode b_Fam_isDetermined 48 = .ok (.iinc 1 1, 3) := by decide +kernel
theorem d_Fam_isDetermined_51 : decode b_Fam_isDetermined 51 = .ok (.goto (-49), 3) := by decide +kernel
theorem d_Fam_isDetermined_54 : decode b_Fam_isDetermined 54 = .ok (.iconst 1, 1) := by decide +kernel
theorem d_Fam_isDetermined_55 : decode b_Fam_isDetermined 55 = .ok (.ireturn, 1) := by decide +kernel
theorem d_Fam_argument_0 : decode b_Fam_argument 0 = .ok (.aload_n 0, 1) := by decide +kernel
theorem d_Fam_argument_1 : decode b_Fam_argument 1 = .ok (.getfield 19, 3) := by decide +kernel
theorem d_Fam_argument_4 : decode b_Fam_argument 4 = .ok (.aload_n 0, 1) := by decide +kernel
theorem d_Fam_argument_5 : decode b_Fam_argument 5 = .ok (.getfield 148, 3) := by decide +kernel
theorem d_Fam_argument_8 : decode b_Fam_argument 8 = .ok (.invokevirtual 85, 3) := by decide +kernel
theorem d_Fam_argument_11 : decode b_Fam_argument 11 = .ok (.bipush 6, 2) := by decide +kernel
theorem d_Fam_argument_13 : decode b_Fam_argument 13 = .ok (.if_icmp .ne 21, 3) := by decide +kernel
theorem d_Fam_argument_16 : decode b_Fam_argument 16 = .ok (.aload_n 0, 1) := by decide +kernel
theorem d_Fam_argument_17 : decode b_Fam_argument 17 = .ok (.bipush 35, 2) := by decide +kernel
theorem d_Fam_argument_19 : decode b_Fam_argument 19 = .ok (.aload_n 0, 1) := by decide +kernel
theorem d_Fam_argument_20 : decode b_Fam_argument 20 = .ok (.getfield 19, 3) := by decide +kernel
theorem d_Fam_argument_23 : decode b_Fam_argument 23 = .ok (.aload_n 0, 1) := by decide +kernel
theorem d_Fam_argument_24 : decode b_Fam_argument 24 = .ok (.getfield 148, 3) := by decide +kernel
theorem d_Fam_argument_27 : decode b_Fam_argument 27 = .ok (.invokevirtual 100, 3) := by decide +kernel
theorem d_Fam_argument_30 : decode b_Fam_argument 30 = .ok (.invokevirtual 114, 3) := by decide +kernel
theorem d_Fam_argument_33 : decode b_Fam_argument 33 = .ok (.return_, 1) := by decide +kernel
theorem d_Fam_argument_34 : decode b_Fam_argument 34 = .ok (.aload_n 0, 1) := by decide +kernel
theorem d_Fam_argument_35 : decode b_Fam_argument 35 = .ok (.aload_n 0, 1) := by decide +kernel
theorem d_Fam_argument_36 : decode b_Fam_argument 36 = .ok (.getfield 148, 3) := by decide +kernel
theorem d_Fam_argument_39 : decode b_Fam_argument 39 = .ok (.invokevirtual 151, 3) := by decide +kernel
theorem d_Fam_argument_42 : decode b_Fam_argument 42 = .ok (.ifCond .ne 12, 3) := by decide +kernel
theorem d_Fam_argument_45 : decode b_Fam_argument 45 = .ok (.aload_n 0, 1) := by decide +kernel
theorem d_Fam_argument_46 : decode b_Fam_argument 46 = .ok (.getfield 15, 3) := by decide +kernel
theorem d_Fam_argument_49 : decode b_Fam_argument 49 = .ok (.bipush 8, 2) := by decide +kernel
theorem d_Fam_argument_51 : decode b_Fam_argument 51 = .ok (.invokevirtual 94, 3) := by decide +kernel
theorem d_Fam_argument_54 : decode b_Fam_argument 54 = .ok (.aload_n 0, 1) := by decide +kernel
theorem d_Fam_argument_55 : decode b_Fam_argument 55 = .ok (.getfield 23, 3) := by decide +kernel
theorem d_Fam_argument_58 : decode b_Fam_argument 58 = .ok (.aload_n 0, 1) := by decide +kernel
theorem d_Fam_argument_59 : decode b_Fam_argument 59 = .ok (.invokevirtual 155, 3) := by decide +kernel
theorem d_Fam_argument_62 : decode b_Fam_argument 62 = .ok (.bipush 8, 2) := by decide +kernel
theorem d_Fam_argument_64 : decode b_Fam_argument 64 = .ok (.aload_n 0, 1) := by decide +kernel
theorem d_Fam_argument_65 : decode b_Fam_argument 65 = .ok (.getfield 59, 3) := by decide +kernel
theorem d_Fam_argument_68 : decode b_Fam_argument 68 = .ok (.invokevirtual 106, 3) := by decide +kernel
theorem d_Fam_argument_71 : decode b_Fam_argument 71 = .ok (.aload_n 0, 1) := by decide +kernel
theorem d_Fam_argument_72 : decode b_Fam_argument 72 = .ok (.getfield 23, 3) := by decide +kernel
theorem d_Fam_argument_75 : decode b_Fam_argument 75 = .ok (.aload_n 0, 1) := by decide +kernel
theorem d_Fam_argument_76 : decode b_Fam_argument 76 = .ok (.invokevirtual 155, 3) := by decide +kernel
theorem d_Fam_argument_79 : decode b_Fam_argument 79 = .ok (.bipush 6, 2) := by decide +kernel
theorem d_Fam_argument_81 : decode b_Fam_argument 81 = .ok (.aload_n 0, 1) := by decide +kernel
theorem d_Fam_argument_82 : decode b_Fam_argument 82 = .ok (.getfield 37, 3) := by decide +kernel
theorem d_Fam_argument_85 : decode b_Fam_argument 85 = .ok (.invokevirtual 158, 3) := by decide +kernel
theorem d_Fam_argument_88 : decode b_Fam_argument 88 = .ok (.invokevirtual 106, 3) := by decide +kernel
theorem d_Fam_argument_91 : decode b_Fam_argument 91 = .ok (.aload_n 0, 1) := by decide +kernel
theorem d_Fam_argument_92 : decode b_Fam_argument 92 = .ok (.getfield 73, 3) := by decide +kernel
theorem d_Fam_argument_95 : decode b_Fam_argument 95 = .ok (.iconst 1, 1) := by decide +kernel
theorem d_Fam_argument_96 : decode b_Fam_argument 96 = .ok (.if_icmp .ne 24, 3) := by decide +kernel
theorem d_Fam_argument_99 : decode b_Fam_argument 99 = .ok (.aload_n 0, 1) := by decide +kernel
theorem d_Fam_argument_100 : decode b_Fam_argument 100 = .ok (.invokevirtual 161, 3) := by decide +kernel
theorem d_Fam_argument_103 : decode b_Fam_argument 103 = .ok (.ifCond .eq 17, 3) := by decide +kernel
theorem d_Fam_argument_106 : decode b_Fam_argument 106 = .ok (.aload_n 0, 1) := by decide +kernel
theorem d_Fam_argument_107 : decode b_Fam_argument 107 = .ok (.getfield 23, 3) := by decide +kernel
theorem d_Fam_argument_110 : decode b_Fam_argument 110 = .ok (.aload_n 0, 1) := by decide +kernel
theorem d_Fam_argument_111 : decode b_Fam_argument 111 = .ok (.getfield 59, 3) := by decide +kernel
theorem d_Fam_argument_114 : decode b_Fam_argument 114 = .ok (.bipush 9, 2) := by decide +kernel
theorem d_Fam_argument_116 : decode b_Fam_argument 116 = .ok (.iconst 1, 1) := by decide +kernel
theorem d_Fam_argument_117 : decode b_Fam_argument 117 = .ok (.invokevirtual 106, 3) := by decide +kernel
theorem d_Fam_argument_120 : decode b_Fam_argument 120 = .ok (.aload_n 0, 1) := by decide +kernel
theorem d_Fam_argument_121 : decode b_Fam_argument 121 = .ok (.getfield 9, 3) := by decide +kernel
theorem d_Fam_argument_124 : decode b_Fam_argument 124 = .ok (.invokevirtual 129, 3) := by decide +kernel
theorem d_Fam_argument_127 : decode b_Fam_argument 127 = .ok (.aload_n 0, 1) := by decide +kernel
theorem d_Fam_argument_128 : decode b_Fam_argument 128 = .ok (.bipush 36, 2) := by decide +kernel
theorem d_Fam_argument_130 : decode b_Fam_argument 130 = .ok (.aload_n 0, 1) := by decide +kernel
theorem d_Fam_argument_131 : decode b_Fam_argument 131 = .ok (.getfield 27, 3) := by decide +kernel
theorem d_Fam_argument_134 : decode b_Fam_argument 134 = .ok (.aload_n 0, 1) := by decide +kernel
theorem d_Fam_argument_135 : decode b_Fam_argument 135 = .ok (.aload_n 0, 1) := by decide +kernel
theorem d_Fam_argument_136 : decode b_Fam_argument 136 = .ok (.getfield 79, 3) := by decide +kernel
theorem d_Fam_argument_139 : decode b_Fam_argument 139 = .ok (.invokevirtual 145, 3) := by decide +kernel
theorem d_Fam_argument_142 : decode b_Fam_argument 142 = .ok (.invokevirtual 165, 3) := by decide +kernel
theorem d_Fam_argument_145 : decode b_Fam_argument 145 = .ok (.invokevirtual 114, 3) := by decide +kernel
theorem d_Fam_argument_148 : decode b_Fam_argument 148 = .ok (.return_, 1) := by decide +kernel
theorem d_Fam_isRecursive_0 : decode b_Fam_isRecursive 0 = .ok (.iload_n 1, 1) := by decide +kernel
theorem d_Fam_isRecursive_1 : decode b_Fam_isRecursive 1 = .ok (.istore_n 2, 1) := by decide +kernel
theorem d_Fam_isRecursive_2 : decode b_Fam_isRecursive 2 = .ok (.iconst 0, 1) := by decide +kernel
theorem d_Fam_isRecursive_3 : decode b_Fam_isRecursive 3 = .ok (.istore_n 3, 1) := by decide +kernel
theorem d_Fam_isRecursive_4 : decode b_Fam_isRecursive 4 = .ok (.iload_n 3, 1) := by decide +kernel
theorem d_Fam_isRecursive_5 : decode b_Fam_isRecursive 5 = .ok (.sipush 3000, 3) := by decide +kernel
theorem d_Fam_isRecursive_8 : decode b_Fam_isRecursive 8 = .ok (.if_icmp .ge 56, 3) := by decide +kernel
theorem d_Fam_isRecursive_11 : decode b_Fam_isRecursive 11 = .ok (.aload_n 0, 1) := by decide +kernel
theorem d_Fam_isRecursive_12 : decode b_Fam_isRecursive 12 = .ok (.getfield 19, 3) := by decide +kernel
theorem d_Fam_isRecursive_15 : decode b_Fam_isRecursive 15 = .ok (.iload_n 2, 1) := by decide +kernel
theorem d_Fam_isRecursive_16 : decode b_Fam_isRecursive 16 = .ok (.invokevirtual 85, 3) := by decide +kernel
theorem d_Fam_isRecursive_19 : decode b_Fam_isRecursive 19 = .ok (.bipush 6, 2) := by decide +kernel
theorem d_Fam_isRecursive_21 : decode b_Fam_isRecursive 21 = .ok (.if_icmp .ne 43, 3) := by decide +kernel
theorem d_Fam_isRecursive_24 : decode b_Fam_isRecursive 24 = .ok (.aload_n 0, 1) := by decide +kernel
theorem d_Fam_isRecursive_25 : decode b_Fam_isRecursive 25 = .ok (.getfield 19, 3) := by decide +kernel
theorem d_Fam_isRecursive_28 : decode b_Fam_isRecursive 28 = .ok (.aload_n 0, 1) := by decide +kernel
theorem d_Fam_isRecursive_29 : decode b_Fam_isRecursive 29 = .ok (.getfield 19, 3) := by decide +kernel
theorem d_Fam_isRecursive_32 : decode b_Fam_isRecursive 32 = .ok (.iload_n 2, 1) := by decide +kernel
theorem d_Fam_isRecursive_33 : decode b_Fam_isRecursive 33 = .ok (.invokevirtual 100, 3) := by decide +kernel
theorem d_Fam_isRecursive_36 : decode b_Fam_isRecursive 36 = .ok (.iconst 3, 1) := by decide +kernel
theorem d_Fam_isRecursive_37 : decode b_Fam_isRecursive 37 = .ok (.aload_n 0, 1) := by decide +kernel
theorem d_Fam_isRecursive_38 : decode b_Fam_isRecursive 38 = .ok (.getfield 59, 3) := by decide +kernel
theorem d_Fam_isRecursive_41 : decode b_Fam_isRecursive 41 = .ok (.invokevirtual 171, 3) := by decide +kernel
theorem d_Fam_isRecursive_44 : decode b_Fam_isRecursive 44 = .ok (.ifCond .eq 5, 3) := by decide +kernel
theorem d_Fam_isRecursive_47 : decode b_Fam_isRecursive 47 = .ok (.iconst 0, 1) := by decide +kernel
theorem d_Fam_isRecursive_48 : decode b_Fam_isRecursive 48 = .ok (.ireturn, 1) := by decide +kernel
theorem d_Fam_isRecursive_49 : decode b_Fam_isRecursive 49 = .ok (.aload_n 0, 1) := by decide +kernel
theorem d_Fam_isRecursive_50 : decode b_Fam_isRecursive 50 = .ok (.getfield 19, 3) := by decide +kernel
theorem d_Fam_isRecursive_53 : decode b_Fam_isRecursive 53 = .ok (.iload_n 2, 1) := by decide +kernel
theorem d_Fam_isRecursive_54 : decode b_Fam_isRecursive 54 = .ok (.invokevirtual 91, 3) := by decide +kernel
theorem d_Fam_isRecursive_57 : decode b_Fam_isRecursive 57 = .ok (.istore_n 2, 1) := by decide +kernel
theorem d_Fam_isRecursive_58 : decode b_Fam_isRecursive 58 = .ok (.iinc 3 1, 3) := by decide +kernel
theorem d_Fam_isRecursive_61 : decode b_Fam_isRecursive 61 = .ok (.goto (-57), 3) := by decide +kernel
theorem d_Fam_isRecursive_64 : decode b_Fam_isRecursive 64 = .ok (.aload_n 0, 1) := by decide +kernel
theorem d_Fam_isRecursive_65 : decode b_Fam_isRecursive 65 = .ok (.iload_n 2, 1) := by decide +kernel
theorem d_Fam_isRecursive_66 : decode b_Fam_isRecursive 66 = .ok (.invokevirtual 151, 3) := by decide +kernel
theorem d_Fam_isRecursive_69 : decode b_Fam_isRecursive 69 = .ok (.ireturn, 1) := by decide +kernel
theorem d_Fam_argumentTested_0 : decode b_Fam_argumentTested 0 = .ok (.aload_n 0, 1) := by decide +kernel
theorem d_Fam_argumentTested_1 : decode b_Fam_argumentTested 1 = .ok (.getfield 19, 3) := by decide +kernel
theorem d_Fam_argumentTested_4 : decode b_Fam_argumentTested 4 = .ok (.aload_n 0, 1) := by decide +kernel
theorem d_Fam_argumentTested_5 : decode b_Fam_argumentTested 5 = .ok (.getfield 148, 3) := by decide +kernel
theorem d_Fam_argumentTested_8 : decode b_Fam_argumentTested 8 = .ok (.invokevirtual 100, 3) := by decide +kernel
theorem d_Fam_argumentTested_11 : decode b_Fam_argumentTested 11 = .ok (.istore_n 1, 1) := by decide +kernel
theorem d_Fam_argumentTested_12 : decode b_Fam_argumentTested 12 = .ok (.aload_n 0, 1) := by decide +kernel
theorem d_Fam_argumentTested_13 : decode b_Fam_argumentTested 13 = .ok (.getfield 9, 3) := by decide +kernel
theorem d_Fam_argumentTested_16 : decode b_Fam_argumentTested 16 = .ok (.invokevirtual 168, 3) := by decide +kernel
theorem d_Fam_argumentTested_19 : decode b_Fam_argumentTested 19 = .ok (.istore_n 2, 1) := by decide +kernel
theorem d_Fam_argumentTested_20 : decode b_Fam_argumentTested 20 = .ok (.aload_n 0, 1) := by decide +kernel
theorem d_Fam_argumentTested_21 : decode b_Fam_argumentTested 21 = .ok (.getfield 103, 3) := by decide +kernel
theorem d_Fam_argumentTested_24 : decode b_Fam_argumentTested 24 = .ok (.ifCond .eq 20, 3) := by decide +kernel
theorem d_Fam_argumentTested_27 : decode b_Fam_argumentTested 27 = .ok (.iload_n 2, 1) := by decide +kernel
theorem d_Fam_argumentTested_28 : decode b_Fam_argumentTested 28 = .ok (.aload_n 0, 1) := by decide +kernel
theorem d_Fam_argumentTested_29 : decode b_Fam_argumentTested 29 = .ok (.getfield 103, 3) := by decide +kernel
theorem d_Fam_argumentTested_32 : decode b_Fam_argumentTested 32 = .ok (.if_icmp .le 12, 3) := by decide +kernel
theorem d_Fam_argumentTested_35 : decode b_Fam_argumentTested 35 = .ok (.aload_n 0, 1) := by decide +kernel
theorem d_Fam_argumentTested_36 : decode b_Fam_argumentTested 36 = .ok (.getfield 15, 3) := by decide +kernel
theorem d_Fam_argumentTested_39 : decode b_Fam_argumentTested 39 = .ok (.bipush 7, 2) := by decide +kernel
theorem d_Fam_argumentTested_41 : decode b_Fam_argumentTested 41 = .ok (.invokevirtual 94, 3) := by decide +kernel
theorem d_Fam_argumentTested_44 : decode b_Fam_argumentTested 44 = .ok (.aload_n 0, 1) := by decide +kernel
theorem d_Fam_argumentTested_45 : decode b_Fam_argumentTested 45 = .ok (.getfield 19, 3) := by decide +kernel
theorem d_Fam_argumentTested_48 : decode b_Fam_argumentTested 48 = .ok (.iload_n 1, 1) := by decide +kernel
theorem d_Fam_argumentTested_49 : decode b_Fam_argumentTested 49 = .ok (.iconst 3, 1) := by decide +kernel
theorem d_Fam_argumentTested_50 : decode b_Fam_argumentTested 50 = .ok (.aload_n 0, 1) := by decide +kernel
theorem d_Fam_argumentTested_51 : decode b_Fam_argumentTested 51 = .ok (.getfield 59, 3) := by decide +kernel
theorem d_Fam_argumentTested_54 : decode b_Fam_argumentTested 54 = .ok (.invokevirtual 171, 3) := by decide +kernel
theorem d_Fam_argumentTested_57 : decode b_Fam_argumentTested 57 = .ok (.ifCond .eq 50, 3) := by decide +kernel
theorem d_Fam_argumentTested_60 : decode b_Fam_argumentTested 60 = .ok (.aload_n 0, 1) := by decide +kernel
theorem d_Fam_argumentTested_61 : decode b_Fam_argumentTested 61 = .ok (.iload_n 1, 1) := by decide +kernel
theorem d_Fam_argumentTested_62 : decode b_Fam_argumentTested 62 = .ok (.invokevirtual 175, 3) := by decide +kernel
theorem d_Fam_argumentTested_65 : decode b_Fam_argumentTested 65 = .ok (.ifCond .ne 12, 3) := by decide +kernel
theorem d_Fam_argumentTested_68 : decode b_Fam_argumentTested 68 = .ok (.aload_n 0, 1) := by decide +kernel
theorem d_Fam_argumentTested_69 : decode b_Fam_argumentTested 69 = .ok (.getfield 15, 3) := by decide +kernel
theorem d_Fam_argumentTested_72 : decode b_Fam_argumentTested 72 = .ok (.bipush 8, 2) := by decide +kernel
theorem d_Fam_argumentTested_74 : decode b_Fam_argumentTested 74 = .ok (.invokevirtual 94, 3) := by decide +kernel
theorem d_Fam_argumentTested_77 : decode b_Fam_argumentTested 77 = .ok (.aload_n 0, 1) := by decide +kernel
theorem d_Fam_argumentTested_78 : decode b_Fam_argumentTested 78 = .ok (.getfield 23, 3) := by decide +kernel
theorem d_Fam_argumentTested_81 : decode b_Fam_argumentTested 81 = .ok (.aload_n 0, 1) := by decide +kernel
theorem d_Fam_argumentTested_82 : decode b_Fam_argumentTested 82 = .ok (.invokevirtual 155, 3) := by decide +kernel
theorem d_Fam_argumentTested_85 : decode b_Fam_argumentTested 85 = .ok (.bipush 7, 2) := by decide +kernel
theorem d_Fam_argumentTested_87 : decode b_Fam_argumentTested 87 = .ok (.invokevirtual 110, 3) := by decide +kernel
theorem d_Fam_argumentTested_90 : decode b_Fam_argumentTested 90 = .ok (.istore_n 3, 1) := by decide +kernel
theorem d_Fam_argumentTested_91 : decode b_Fam_argumentTested 91 = .ok (.aload_n 0, 1) := by decide +kernel
theorem d_Fam_argumentTested_92 : decode b_Fam_argumentTested 92 = .ok (.getfield 23, 3) := by decide +kernel
theorem d_Fam_argumentTested_95 : decode b_Fam_argumentTested 95 = .ok (.aload_n 0, 1) := by decide +kernel
theorem d_Fam_argumentTested_96 : decode b_Fam_argumentTested 96 = .ok (.invokevirtual 155, 3) := by decide +kernel
theorem d_Fam_argumentTested_99 : decode b_Fam_argumentTested 99 = .ok (.bipush 7, 2) := by decide +kernel
theorem d_Fam_argumentTested_101 : decode b_Fam_argumentTested 101 = .ok (.iload_n 3, 1) := by decide +kernel
theorem d_Fam_argumentTested_102 : decode b_Fam_argumentTested 102 = .ok (.iconst 1, 1) := by decide +kernel
theorem d_Fam_argumentTested_103 : decode b_Fam_argumentTested 103 = .ok (.iadd, 1) := by decide +kernel
theorem d_Fam_argumentTested_104 : decode b_Fam_argumentTested 104 = .ok (.invokevirtual 106, 3) := by decide +kernel
theorem d_Fam_argumentTested_107 : decode b_Fam_argumentTested 107 = .ok (.aload_n 0, 1) := by decide +kernel
theorem d_Fam_argumentTested_108 : decode b_Fam_argumentTested 108 = .ok (.getfield 37, 3) := by decide +kernel
theorem d_Fam_argumentTested_111 : decode b_Fam_argumentTested 111 = .ok (.iload_n 2, 1) := by decide +kernel
theorem d_Fam_argumentTested_112 : decode b_Fam_argumentTested 112 = .ok (.invokevirtual 178, 3) := by decide +kernel
theorem d_Fam_argumentTested_115 : decode b_Fam_argumentTested 115 = .ok (.aload_n 0, 1) := by decide +kernel
theorem d_Fam_argumentTested_116 : decode b_Fam_argumentTested 116 = .ok (.getfield 19, 3) := by decide +kernel
theorem d_Fam_argumentTested_119 : decode b_Fam_argumentTested 119 = .ok (.iconst 1, 1) := by decide +kernel
theorem d_Fam_argumentTested_120 : decode b_Fam_argumentTested 120 = .ok (.aload_n 0, 1) := by decide +kernel
theorem d_Fam_argumentTested_121 : decode b_Fam_argumentTested 121 = .ok (.getfield 9, 3) := by decide +kernel
theorem d_Fam_argumentTested_124 : decode b_Fam_argumentTested 124 = .ok (.iload_n 1, 1) := by decide +kernel
theorem d_Fam_argumentTested_125 : decode b_Fam_argumentTested 125 = .ok (.invokevirtual 139, 3) := by decide +kernel
theorem d_Fam_argumentTested_128 : decode b_Fam_argumentTested 128 = .ok (.iconst 0, 1) := by decide +kernel
theorem d_Fam_argumentTested_129 : decode b_Fam_argumentTested 129 = .ok (.invokevirtual 180, 3) := by decide +kernel
theorem d_Fam_argumentTested_132 : decode b_Fam_argumentTested 132 = .ok (.istore_n 3, 1) := by decide +kernel
theorem d_Fam_argumentTested_133 : decode b_Fam_argumentTested 133 = .ok (.aload_n 0, 1) := by decide +kernel
theorem d_Fam_argumentTested_134 : decode b_Fam_argumentTested 134 = .ok (.aload_n 0, 1) := by decide +kernel
theorem d_Fam_argumentTested_135 : decode b_Fam_argumentTested 135 = .ok (.getfield 19, 3) := by decide +kernel
theorem d_Fam_argumentTested_138 : decode b_Fam_argumentTested 138 = .ok (.iconst 0, 1) := by decide +kernel
theorem d_Fam_argumentTested_139 : decode b_Fam_argumentTested 139 = .ok (.aload_n 0, 1) := by decide +kernel
theorem d_Fam_argumentTested_140 : decode b_Fam_argumentTested 140 = .ok (.getfield 19, 3) := by decide +kernel
theorem d_Fam_argumentTested_143 : decode b_Fam_argumentTested 143 = .ok (.aload_n 0, 1) := by decide +kernel
theorem d_Fam_argumentTested_144 : decode b_Fam_argumentTested 144 = .ok (.getfield 148, 3) := by decide +kernel
theorem d_Fam_argumentTested_147 : decode b_Fam_argumentTested 147 = .ok (.invokevirtual 91, 3) := by decide +kernel
theorem d_Fam_argumentTested_150 : decode b_Fam_argumentTested 150 = .ok (.iload_n 3, 1) := by decide +kernel
theorem d_Fam_argumentTested_151 : decode b_Fam_argumentTested 151 = .ok (.invokevirtual 135, 3) := by decide +kernel
theorem d_Fam_argumentTested_154 : decode b_Fam_argumentTested 154 = .ok (.putfield 148, 3) := by decide +kernel
theorem d_Fam_argumentTested_157 : decode b_Fam_argumentTested 157 = .ok (.aload_n 0, 1) := by decide +kernel
theorem d_Fam_argumentTested_158 : decode b_Fam_argumentTested 158 = .ok (.getfield 9, 3) := by decide +kernel
theorem d_Fam_argumentTested_161 : decode b_Fam_argumentTested 161 = .ok (.iconst 0, 1) := by decide +kernel
theorem d_Fam_argumentTested_162 : decode b_Fam_argumentTested 162 = .ok (.bipush 34, 2) := by decide +kernel
theorem d_Fam_argumentTested_164 : decode b_Fam_argumentTested 164 = .ok (.invokevirtual 119, 3) := by decide +kernel
theorem d_Fam_argumentTested_167 : decode b_Fam_argumentTested 167 = .ok (.return_, 1) := by decide +kernel
theorem d_Fam_memberTyped_0 : decode b_Fam_memberTyped 0 = .ok (.aload_n 0, 1) := by decide +kernel
theorem d_Fam_memberTyped_1 : decode b_Fam_memberTyped 1 = .ok (.dup, 1) := by decide +kernel
theorem d_Fam_memberTyped_2 : decode b_Fam_memberTyped 2 = .ok (.getfield 79, 3) := by decide +kernel
theorem d_Fam_memberTyped_5 : decode b_Fam_memberTyped 5 = .ok (.iconst 1, 1) := by decide +kernel
theorem d_Fam_memberTyped_6 : decode b_Fam_memberTyped 6 = .ok (.iadd, 1) := by decide +kernel
theorem d_Fam_memberTyped_7 : decode b_Fam_memberTyped 7 = .ok (.putfield 79, 3) := by decide +kernel
theorem d_Fam_memberTyped_10 : decode b_Fam_memberTyped 10 = .ok (.aload_n 0, 1) := by decide +kernel
theorem d_Fam_memberTyped_11 : decode b_Fam_memberTyped 11 = .ok (.getfield 9, 3) := by decide +kernel
theorem d_Fam_memberTyped_14 : decode b_Fam_memberTyped 14 = .ok (.iconst 0, 1) := by decide +kernel
theorem d_Fam_memberTyped_15 : decode b_Fam_memberTyped 15 = .ok (.bipush 33, 2) := by decide +kernel
theorem d_Fam_memberTyped_17 : decode b_Fam_memberTyped 17 = .ok (.invokevirtual 119, 3) := by decide +kernel
theorem d_Fam_memberTyped_20 : decode b_Fam_memberTyped 20 = .ok (.return_, 1) := by decide +kernel
theorem d_Fam_payOpenings_0 : decode b_Fam_payOpenings 0 = .ok (.iconst 0, 1) := by decide +kernel
theorem d_Fam_payOpenings_1 : decode b_Fam_payOpenings 1 = .ok (.istore_n 1, 1) := by decide +kernel
theorem d_Fam_payOpenings_2 : decode b_Fam_payOpenings 2 = .ok (.iload_n 1, 1) := by decide +kernel
theorem d_Fam_payOpenings_3 : decode b_Fam_payOpenings 3 = .ok (.aload_n 0, 1) := by decide +kernel
theorem d_Fam_payOpenings_4 : decode b_Fam_payOpenings 4 = .ok (.getfield 73, 3) := by decide +kernel
theorem d_Fam_payOpenings_7 : decode b_Fam_payOpenings 7 = .ok (.if_icmp .ge 67, 3) := by decide +kernel
theorem d_Fam_payOpenings_10 : decode b_Fam_payOpenings 10 = .ok (.aload_n 0, 1) := by decide +kernel
theorem d_Fam_payOpenings_11 : decode b_Fam_payOpenings 11 = .ok (.iload_n 1, 1) := by decide +kernel
theorem d_Fam_payOpenings_12 : decode b_Fam_payOpenings 12 = .ok (.invokevirtual 145, 3) := by decide +kernel
theorem d_Fam_payOpenings_15 : decode b_Fam_payOpenings 15 = .ok (.istore_n 2, 1) := by decide +kernel
theorem d_Fam_payOpenings_16 : decode b_Fam_payOpenings 16 = .ok (.iconst 0, 1) := by decide +kernel
theorem d_Fam_payOpenings_17 : decode b_Fam_payOpenings 17 = .ok (.istore_n 3, 1) := by decide +kernel
theorem d_Fam_payOpenings_18 : decode b_Fam_payOpenings 18 = .ok (.iload_n 3, 1) := by decide +kernel
theorem d_Fam_payOpenings_19 : decode b_Fam_payOpenings 19 = .ok (.sipush 3000, 3) := by decide +kernel
theorem d_Fam_payOpenings_22 : decode b_Fam_payOpenings 22 = .ok (.if_icmp .ge 46, 3) := by decide +kernel
theorem d_Fam_payOpenings_25 : decode b_Fam_payOpenings 25 = .ok (.aload_n 0, 1) := by decide +kernel
theorem d_Fam_payOpenings_26 : decode b_Fam_payOpenings 26 = .ok (.getfield 19, 3) := by decide +kernel
theorem d_Fam_payOpenings_29 : decode b_Fam_payOpenings 29 = .ok (.iload_n 2, 1) := by decide +kernel
theorem d_Fam_payOpenings_30 : decode b_Fam_payOpenings 30 = .ok (.invokevirtual 85, 3) := by decide +kernel
theorem d_Fam_payOpenings_33 : decode b_Fam_payOpenings 33 = .ok (.bipush 6, 2) := by decide +kernel
theorem d_Fam_payOpenings_35 : decode b_Fam_payOpenings 35 = .ok (.if_icmp .ne 33, 3) := by decide +kernel
theorem d_Fam_payOpenings_38 : decode b_Fam_payOpenings 38 = .ok (.aload_n 0, 1) := by decide +kernel
theorem d_Fam_payOpenings_39 : decode b_Fam_payOpenings 39 = .ok (.getfield 19, 3) := by decide +kernel
theorem d_Fam_payOpenings_42 : decode b_Fam_payOpenings 42 = .ok (.iload_n 2, 1) := by decide +kernel
theorem d_Fam_payOpenings_43 : decode b_Fam_payOpenings 43 = .ok (.invokevirtual 91, 3) := by decide +kernel
theorem d_Fam_payOpenings_46 : decode b_Fam_payOpenings 46 = .ok (.istore_n 2, 1) := by decide +kernel
theorem d_Fam_payOpenings_47 : decode b_Fam_payOpenings 47 = .ok (.aload_n 0, 1) := by decide +kernel
theorem d_Fam_payOpenings_48 : decode b_Fam_payOpenings 48 = .ok (.getfield 15, 3) := by decide +kernel
theorem d_Fam_payOpenings_51 : decode b_Fam_payOpenings 51 = .ok (.aload_n 0, 1) := by decide +kernel
theorem d_Fam_payOpenings_52 : decode b_Fam_payOpenings 52 = .ok (.getfield 19, 3) := by decide +kernel
theorem d_Fam_payOpenings_55 : decode b_Fam_payOpenings 55 = .ok (.iload_n 2, 1) := by decide +kernel
theorem d_Fam_payOpenings_56 : decode b_Fam_payOpenings 56 = .ok (.invokevirtual 215, 3) := by decide +kernel
theorem d_Fam_payOpenings_59 : decode b_Fam_payOpenings 59 = .ok (.invokevirtual 226, 3) := by decide +kernel
theorem d_Fam_payOpenings_62 : decode b_Fam_payOpenings 62 = .ok (.iinc 3 1, 3) := by decide +kernel
theorem d_Fam_payOpenings_65 : decode b_Fam_payOpenings 65 = .ok (.goto (-47), 3) := by decide +kernel
theorem d_Fam_payOpenings_68 : decode b_Fam_payOpenings 68 = .ok (.iinc 1 1, 3) := by decide +kernel
theorem d_Fam_payOpenings_71 : decode b_Fam_payOpenings 71 = .ok (.goto (-69), 3) := by decide +kernel
theorem d_Fam_payOpenings_74 : decode b_Fam_payOpenings 74 = .ok (.return_, 1) := by decide +kernel
theorem d_Fam_split_0 : decode b_Fam_split 0 = .ok (.iload_n 1, 1) := by decide +kernel
theorem d_Fam_split_1 : decode b_Fam_split 1 = .ok (.istore_n 3, 1) := by decide +kernel
theorem d_Fam_split_2 : decode b_Fam_split 2 = .ok (.aload_n 2, 1) := by decide +kernel
theorem d_Fam_split_3 : decode b_Fam_split 3 = .ok (.iconst 0, 1) := by decide +kernel
theorem d_Fam_split_4 : decode b_Fam_split 4 = .ok (.invokevirtual 142, 3) := by decide +kernel
theorem d_Fam_split_7 : decode b_Fam_split 7 = .ok (.iconst 0, 1) := by decide +kernel
theorem d_Fam_split_8 : decode b_Fam_split 8 = .ok (.istore 4, 2) := by decide +kernel
theorem d_Fam_split_10 : decode b_Fam_split 10 = .ok (.iload 4, 2) := by decide +kernel
theorem d_Fam_split_12 : decode b_Fam_split 12 = .ok (.sipush 3000, 3) := by decide +kernel
theorem d_Fam_split_15 : decode b_Fam_split 15 = .ok (.if_icmp .ge 43, 3) := by decide +kernel
