theorem d_Mod_node_0 : decode b_Mod_node 0 = .ok (.aload_n 0, 1) := by decide +kernel
theorem d_Mod_node_1 : decode b_Mod_node 1 = .ok (.getfield 74, 3) := by decide +kernel
theorem d_Mod_node_4 : decode b_Mod_node 4 = .ok (.ldc 54, 2) := by decide +kernel
theorem d_Mod_node_6 : decode b_Mod_node 6 = .ok (.if_icmp .ne 9, 3) := by decide +kernel
theorem d_Mod_node_9 : decode b_Mod_node 9 = .ok (.bipush 10, 2) := by decide +kernel
theorem d_Mod_node_11 : decode b_Mod_node 11 = .ok (.invokestatic 323, 3) := by decide +kernel
theorem d_Mod_node_14 : decode b_Mod_node 14 = .ok (.athrow, 1) := by decide +kernel
theorem d_Mod_node_15 : decode b_Mod_node 15 = .ok (.aload_n 0, 1) := by decide +kernel
theorem d_Mod_node_16 : decode b_Mod_node 16 = .ok (.dup, 1) := by decide +kernel
theorem d_Mod_node_17 : decode b_Mod_node 17 = .ok (.getfield 74, 3) := by decide +kernel
theorem d_Mod_node_20 : decode b_Mod_node 20 = .ok (.dup_x1, 1) := by decide +kernel
theorem d_Mod_node_21 : decode b_Mod_node 21 = .ok (.iconst 1, 1) := by decide +kernel
theorem d_Mod_node_22 : decode b_Mod_node 22 = .ok (.iadd, 1) := by decide +kernel
theorem d_Mod_node_23 : decode b_Mod_node 23 = .ok (.putfield 74, 3) := by decide +kernel
theorem d_Mod_node_26 : decode b_Mod_node 26 = .ok (.istore 5, 2) := by decide +kernel
theorem d_Mod_node_28 : decode b_Mod_node 28 = .ok (.aload_n 0, 1) := by decide +kernel
theorem d_Mod_node_29 : decode b_Mod_node 29 = .ok (.getfield 55, 3) := by decide +kernel
theorem d_Mod_node_32 : decode b_Mod_node 32 = .ok (.iload 5, 2) := by decide +kernel
theorem d_Mod_node_34 : decode b_Mod_node 34 = .ok (.iload_n 1, 1) := by decide +kernel
theorem d_Mod_node_35 : decode b_Mod_node 35 = .ok (.i2b, 1) := by decide +kernel
theorem d_Mod_node_36 : decode b_Mod_node 36 = .ok (.bastore, 1) := by decide +kernel
theorem d_Mod_node_37 : decode b_Mod_node 37 = .ok (.aload_n 0, 1) := by decide +kernel
theorem d_Mod_node_38 : decode b_Mod_node 38 = .ok (.getfield 58, 3) := by decide +kernel
theorem d_Mod_node_41 : decode b_Mod_node 41 = .ok (.iload 5, 2) := by decide +kernel
theorem d_Mod_node_43 : decode b_Mod_node 43 = .ok (.iload_n 2, 1) := by decide +kernel
theorem d_Mod_node_44 : decode b_Mod_node 44 = .ok (.iastore, 1) := by decide +kernel
theorem d_Mod_node_45 : decode b_Mod_node 45 = .ok (.aload_n 0, 1) := by decide +kernel
theorem d_Mod_node_46 : decode b_Mod_node 46 = .ok (.getfield 62, 3) := by decide +kernel
theorem d_Mod_node_49 : decode b_Mod_node 49 = .ok (.iload 5, 2) := by decide +kernel
theorem d_Mod_node_51 : decode b_Mod_node 51 = .ok (.iload_n 3, 1) := by decide +kernel
theorem d_Mod_node_52 : decode b_Mod_node 52 = .ok (.iastore, 1) := by decide +kernel
theorem d_Mod_node_53 : decode b_Mod_node 53 = .ok (.aload_n 0, 1) := by decide +kernel
theorem d_Mod_node_54 : decode b_Mod_node 54 = .ok (.getfield 65, 3) := by decide +kernel
theorem d_Mod_node_57 : decode b_Mod_node 57 = .ok (.iload 5, 2) := by decide +kernel
theorem d_Mod_node_59 : decode b_Mod_node 59 = .ok (.iload 4, 2) := by decide +kernel
theorem d_Mod_node_61 : decode b_Mod_node 61 = .ok (.iastore, 1) := by decide +kernel
theorem d_Mod_node_62 : decode b_Mod_node 62 = .ok (.aload_n 0, 1) := by decide +kernel
theorem d_Mod_node_63 : decode b_Mod_node 63 = .ok (.getfield 68, 3) := by decide +kernel
theorem d_Mod_node_66 : decode b_Mod_node 66 = .ok (.iload 5, 2) := by decide +kernel
theorem d_Mod_node_68 : decode b_Mod_node 68 = .ok (.iconst 1, 1) := by decide +kernel
theorem d_Mod_node_69 : decode b_Mod_node 69 = .ok (.iastore, 1) := by decide +kernel
theorem d_Mod_node_70 : decode b_Mod_node 70 = .ok (.aload_n 0, 1) := by decide +kernel
theorem d_Mod_node_71 : decode b_Mod_node 71 = .ok (.getfield 71, 3) := by decide +kernel
theorem d_Mod_node_74 : decode b_Mod_node 74 = .ok (.iload 5, 2) := by decide +kernel
theorem d_Mod_node_76 : decode b_Mod_node 76 = .ok (.iconst 1, 1) := by decide +kernel
theorem d_Mod_node_77 : decode b_Mod_node 77 = .ok (.iastore, 1) := by decide +kernel
theorem d_Mod_node_78 : decode b_Mod_node 78 = .ok (.iload_n 1, 1) := by decide +kernel
theorem d_Mod_node_79 : decode b_Mod_node 79 = .ok (.bipush 6, 2) := by decide +kernel
theorem d_Mod_node_81 : decode b_Mod_node 81 = .ok (.if_icmp .lt 119, 3) := by decide +kernel
theorem d_Mod_node_84 : decode b_Mod_node 84 = .ok (.aload_n 0, 1) := by decide +kernel
theorem d_Mod_node_85 : decode b_Mod_node 85 = .ok (.getfield 68, 3) := by decide +kernel
theorem d_Mod_node_88 : decode b_Mod_node 88 = .ok (.iload 5, 2) := by decide +kernel
theorem d_Mod_node_90 : decode b_Mod_node 90 = .ok (.ldc_w 327, 3) := by decide +kernel
theorem d_Mod_node_93 : decode b_Mod_node 93 = .ok (.iconst 1, 1) := by decide +kernel
theorem d_Mod_node_94 : decode b_Mod_node 94 = .ok (.aload_n 0, 1) := by decide +kernel
theorem d_Mod_node_95 : decode b_Mod_node 95 = .ok (.getfield 68, 3) := by decide +kernel
theorem d_Mod_node_98 : decode b_Mod_node 98 = .ok (.iload_n 2, 1) := by decide +kernel
theorem d_Mod_node_99 : decode b_Mod_node 99 = .ok (.iaload, 1) := by decide +kernel
theorem d_Mod_node_100 : decode b_Mod_node 100 = .ok (.iadd, 1) := by decide +kernel
theorem d_Mod_node_101 : decode b_Mod_node 101 = .ok (.aload_n 0, 1) := by decide +kernel
theorem d_Mod_node_102 : decode b_Mod_node 102 = .ok (.getfield 68, 3) := by decide +kernel
theorem d_Mod_node_105 : decode b_Mod_node 105 = .ok (.iload_n 3, 1) := by decide +kernel
theorem d_Mod_node_106 : decode b_Mod_node 106 = .ok (.iaload, 1) := by decide +kernel
theorem d_Mod_node_107 : decode b_Mod_node 107 = .ok (.iadd, 1) := by decide +kernel
theorem d_Mod_node_108 : decode b_Mod_node 108 = .ok (.iload_n 1, 1) := by decide +kernel
theorem d_Mod_node_109 : decode b_Mod_node 109 = .ok (.bipush 9, 2) := by decide +kernel
theorem d_Mod_node_111 : decode b_Mod_node 111 = .ok (.if_icmp .ne 13, 3) := by decide +kernel
theorem d_Mod_node_114 : decode b_Mod_node 114 = .ok (.aload_n 0, 1) := by decide +kernel
theorem d_Mod_node_115 : decode b_Mod_node 115 = .ok (.getfield 68, 3) := by decide +kernel
theorem d_Mod_node_118 : decode b_Mod_node 118 = .ok (.iload 4, 2) := by decide +kernel
theorem d_Mod_node_120 : decode b_Mod_node 120 = .ok (.iaload, 1) := by decide +kernel
theorem d_Mod_node_121 : decode b_Mod_node 121 = .ok (.goto 4, 3) := by decide +kernel
theorem d_Mod_node_124 : decode b_Mod_node 124 = .ok (.iconst 0, 1) := by decide +kernel
theorem d_Mod_node_125 : decode b_Mod_node 125 = .ok (.iadd, 1) := by decide +kernel
theorem d_Mod_node_126 : decode b_Mod_node 126 = .ok (.invokestatic 328, 3) := by decide +kernel
theorem d_Mod_node_129 : decode b_Mod_node 129 = .ok (.iastore, 1) := by decide +kernel
theorem d_Mod_node_130 : decode b_Mod_node 130 = .ok (.aload_n 0, 1) := by decide +kernel
theorem d_Mod_node_131 : decode b_Mod_node 131 = .ok (.getfield 71, 3) := by decide +kernel
theorem d_Mod_node_134 : decode b_Mod_node 134 = .ok (.iload 5, 2) := by decide +kernel
theorem d_Mod_node_136 : decode b_Mod_node 136 = .ok (.iload_n 1, 1) := by decide +kernel
theorem d_Mod_node_137 : decode b_Mod_node 137 = .ok (.bipush 8, 2) := by decide +kernel
theorem d_Mod_node_139 : decode b_Mod_node 139 = .ok (.if_icmp .ne 23, 3) := by decide +kernel
theorem d_Mod_node_142 : decode b_Mod_node 142 = .ok (.aload_n 0, 1) := by decide +kernel
theorem d_Mod_node_143 : decode b_Mod_node 143 = .ok (.getfield 71, 3) := by decide +kernel
theorem d_Mod_node_146 : decode b_Mod_node 146 = .ok (.iload_n 2, 1) := by decide +kernel
theorem d_Mod_node_147 : decode b_Mod_node 147 = .ok (.iaload, 1) := by decide +kernel
theorem d_Mod_node_148 : decode b_Mod_node 148 = .ok (.iconst 1, 1) := by decide +kernel
theorem d_Mod_node_149 : decode b_Mod_node 149 = .ok (.aload_n 0, 1) := by decide +kernel
theorem d_Mod_node_150 : decode b_Mod_node 150 = .ok (.getfield 71, 3) := by decide +kernel
theorem d_Mod_node_153 : decode b_Mod_node 153 = .ok (.iload_n 3, 1) := by decide +kernel
theorem d_Mod_node_154 : decode b_Mod_node 154 = .ok (.iaload, 1) := by decide +kernel
theorem d_Mod_node_155 : decode b_Mod_node 155 = .ok (.iadd, 1) := by decide +kernel
theorem d_Mod_node_156 : decode b_Mod_node 156 = .ok (.invokestatic 333, 3) := by decide +kernel
theorem d_Mod_node_159 : decode b_Mod_node 159 = .ok (.goto 40, 3) := by decide +kernel
theorem d_Mod_node_162 : decode b_Mod_node 162 = .ok (.iconst 1, 1) := by decide +kernel
theorem d_Mod_node_163 : decode b_Mod_node 163 = .ok (.aload_n 0, 1) := by decide +kernel
theorem d_Mod_node_164 : decode b_Mod_node 164 = .ok (.getfield 71, 3) := by decide +kernel
theorem d_Mod_node_167 : decode b_Mod_node 167 = .ok (.iload_n 2, 1) := by decide +kernel
theorem d_Mod_node_168 : decode b_Mod_node 168 = .ok (.iaload, 1) := by decide +kernel
theorem d_Mod_node_169 : decode b_Mod_node 169 = .ok (.aload_n 0, 1) := by decide +kernel
theorem d_Mod_node_170 : decode b_Mod_node 170 = .ok (.getfield 71, 3) := by decide +kernel
theorem d_Mod_node_173 : decode b_Mod_node 173 = .ok (.iload_n 3, 1) := by decide +kernel
theorem d_Mod_node_174 : decode b_Mod_node 174 = .ok (.iaload, 1) := by decide +kernel
theorem d_Mod_node_175 : decode b_Mod_node 175 = .ok (.iload_n 1, 1) := by decide +kernel
theorem d_Mod_node_176 : decode b_Mod_node 176 = .ok (.bipush 9, 2) := by decide +kernel
theorem d_Mod_node_178 : decode b_Mod_node 178 = .ok (.if_icmp .ne 13, 3) := by decide +kernel
theorem d_Mod_node_181 : decode b_Mod_node 181 = .ok (.aload_n 0, 1) := by decide +kernel
theorem d_Mod_node_182 : decode b_Mod_node 182 = .ok (.getfield 71, 3) := by decide +kernel
theorem d_Mod_node_185 : decode b_Mod_node 185 = .ok (.iload 4, 2) := by decide +kernel
theorem d_Mod_node_187 : decode b_Mod_node 187 = .ok (.iaload, 1) := by decide +kernel
theorem d_Mod_node_188 : decode b_Mod_node 188 = .ok (.goto 4, 3) := by decide +kernel
theorem d_Mod_node_191 : decode b_Mod_node 191 = .ok (.iconst 0, 1) := by decide +kernel
theorem d_Mod_node_192 : decode b_Mod_node 192 = .ok (.invokestatic 333, 3) := by decide +kernel
theorem d_Mod_node_195 : decode b_Mod_node 195 = .ok (.invokestatic 333, 3) := by decide +kernel
theorem d_Mod_node_198 : decode b_Mod_node 198 = .ok (.iadd, 1) := by decide +kernel
theorem d_Mod_node_199 : decode b_Mod_node 199 = .ok (.iastore, 1) := by decide +kernel
theorem d_Mod_node_200 : decode b_Mod_node 200 = .ok (.iload 5, 2) := by decide +kernel
theorem d_Mod_node_202 : decode b_Mod_node 202 = .ok (.ireturn, 1) := by decide +kernel
theorem d_Mod_free_0 : decode b_Mod_free 0 = .ok (.aload_n 0, 1) := by decide +kernel
theorem d_Mod_free_1 : decode b_Mod_free 1 = .ok (.iconst 3, 1) := by decide +kernel
theorem d_Mod_free_2 : decode b_Mod_free 2 = .ok (.iload_n 1, 1) := by decide +kernel
theorem d_Mod_free_3 : decode b_Mod_free 3 = .ok (.iconst 0, 1) := by decide +kernel
theorem d_Mod_free_4 : decode b_Mod_free 4 = .ok (.iconst 0, 1) := by decide +kernel
theorem d_Mod_free_5 : decode b_Mod_free 5 = .ok (.invokevirtual 336, 3) := by decide +kernel
theorem d_Mod_free_8 : decode b_Mod_free 8 = .ok (.ireturn, 1) := by decide +kernel
theorem d_Mod_sort_0 : decode b_Mod_sort 0 = .ok (.aload_n 0, 1) := by decide +kernel
theorem d_Mod_sort_1 : decode b_Mod_sort 1 = .ok (.iconst 0, 1) := by decide +kernel
theorem d_Mod_sort_2 : decode b_Mod_sort 2 = .ok (.iload_n 1, 1) := by decide +kernel
theorem d_Mod_sort_3 : decode b_Mod_sort 3 = .ok (.iconst 0, 1) := by decide +kernel
theorem d_Mod_sort_4 : decode b_Mod_sort 4 = .ok (.iconst 0, 1) := by decide +kernel
theorem d_Mod_sort_5 : decode b_Mod_sort 5 = .ok (.invokevirtual 336, 3) := by decide +kernel
theorem d_Mod_sort_8 : decode b_Mod_sort 8 = .ok (.ireturn, 1) := by decide +kernel
theorem d_Mod_leaf_0 : decode b_Mod_leaf 0 = .ok (.aload_n 0, 1) := by decide +kernel
theorem d_Mod_leaf_1 : decode b_Mod_leaf 1 = .ok (.getfield 83, 3) := by decide +kernel
theorem d_Mod_leaf_4 : decode b_Mod_leaf 4 = .ok (.tableswitch 301 0 4 #[36, 99, 128, 164, 230], 36) := by decide +kernel
theorem d_Mod_leaf_40 : decode b_Mod_leaf 40 = .ok (.aload_n 0, 1) := by decide +kernel
theorem d_Mod_leaf_41 : decode b_Mod_leaf 41 = .ok (.getfield 55, 3) := by decide +kernel
theorem d_Mod_leaf_44 : decode b_Mod_leaf 44 = .ok (.iload_n 1, 1) := by decide +kernel
theorem d_Mod_leaf_45 : decode b_Mod_leaf 45 = .ok (.baload, 1) := by decide +kernel
theorem d_Mod_leaf_46 : decode b_Mod_leaf 46 = .ok (.iconst 5, 1) := by decide +kernel
theorem d_Mod_leaf_47 : decode b_Mod_leaf 47 = .ok (.if_icmp .eq 7, 3) := by decide +kernel
theorem d_Mod_leaf_50 : decode b_Mod_leaf 50 = .ok (.iload_n 1, 1) := by decide +kernel
theorem d_Mod_leaf_51 : decode b_Mod_leaf 51 = .ok (.goto 51, 3) := by decide +kernel
theorem d_Mod_leaf_54 : decode b_Mod_leaf 54 = .ok (.aload_n 0, 1) := by decide +kernel
theorem d_Mod_leaf_55 : decode b_Mod_leaf 55 = .ok (.getfield 58, 3) := by decide +kernel
theorem d_Mod_leaf_58 : decode b_Mod_leaf 58 = .ok (.iload_n 1, 1) := by decide +kernel
theorem d_Mod_leaf_59 : decode b_Mod_leaf 59 = .ok (.iaload, 1) := by decide +kernel
theorem d_Mod_leaf_60 : decode b_Mod_leaf 60 = .ok (.aload_n 0, 1) := by decide +kernel
theorem d_Mod_leaf_61 : decode b_Mod_leaf 61 = .ok (.getfield 89, 3) := by decide +kernel
theorem d_Mod_leaf_64 : decode b_Mod_leaf 64 = .ok (.if_icmp .ge 21, 3) := by decide +kernel
theorem d_Mod_leaf_67 : decode b_Mod_leaf 67 = .ok (.aload_n 0, 1) := by decide +kernel
theorem d_Mod_leaf_68 : decode b_Mod_leaf 68 = .ok (.aload_n 0, 1) := by decide +kernel
theorem d_Mod_leaf_69 : decode b_Mod_leaf 69 = .ok (.getfield 208, 3) := by decide +kernel
theorem d_Mod_leaf_72 : decode b_Mod_leaf 72 = .ok (.aload_n 0, 1) := by decide +kernel
theorem d_Mod_leaf_73 : decode b_Mod_leaf 73 = .ok (.getfield 58, 3) := by decide +kernel
theorem d_Mod_leaf_76 : decode b_Mod_leaf 76 = .ok (.iload_n 1, 1) := by decide +kernel
theorem d_Mod_leaf_77 : decode b_Mod_leaf 77 = .ok (.iaload, 1) := by decide +kernel
theorem d_Mod_leaf_78 : decode b_Mod_leaf 78 = .ok (.iaload, 1) := by decide +kernel
theorem d_Mod_leaf_79 : decode b_Mod_leaf 79 = .ok (.invokevirtual 353, 3) := by decide +kernel
theorem d_Mod_leaf_82 : decode b_Mod_leaf 82 = .ok (.goto 20, 3) := by decide +kernel
theorem d_Mod_leaf_85 : decode b_Mod_leaf 85 = .ok (.aload_n 0, 1) := by decide +kernel
theorem d_Mod_leaf_86 : decode b_Mod_leaf 86 = .ok (.iconst 4, 1) := by decide +kernel
theorem d_Mod_leaf_87 : decode b_Mod_leaf 87 = .ok (.iload_n 2, 1) := by decide +kernel
theorem d_Mod_leaf_88 : decode b_Mod_leaf 88 = .ok (.iconst 1, 1) := by decide +kernel
theorem d_Mod_leaf_89 : decode b_Mod_leaf 89 = .ok (.isub, 1) := by decide +kernel
theorem d_Mod_leaf_90 : decode b_Mod_leaf 90 = .ok (.aload_n 0, 1) := by decide +kernel
theorem d_Mod_leaf_91 : decode b_Mod_leaf 91 = .ok (.getfield 58, 3) := by decide +kernel
theorem d_Mod_leaf_94 : decode b_Mod_leaf 94 = .ok (.iload_n 1, 1) := by decide +kernel
theorem d_Mod_leaf_95 : decode b_Mod_leaf 95 = .ok (.iaload, 1) := by decide +kernel
theorem d_Mod_leaf_96 : decode b_Mod_leaf 96 = .ok (.isub, 1) := by decide +kernel
theorem d_Mod_leaf_97 : decode b_Mod_leaf 97 = .ok (.iconst 0, 1) := by decide +kernel
theorem d_Mod_leaf_98 : decode b_Mod_leaf 98 = .ok (.iconst 0, 1) := by decide +kernel
theorem d_Mod_leaf_99 : decode b_Mod_leaf 99 = .ok (.invokevirtual 336, 3) := by decide +kernel
theorem d_Mod_leaf_102 : decode b_Mod_leaf 102 = .ok (.ireturn, 1) := by decide +kernel
theorem d_Mod_leaf_103 : decode b_Mod_leaf 103 = .ok (.aload_n 0, 1) := by decide +kernel
theorem d_Mod_leaf_104 : decode b_Mod_leaf 104 = .ok (.getfield 55, 3) := by decide +kernel
theorem d_Mod_leaf_107 : decode b_Mod_leaf 107 = .ok (.iload_n 1, 1) := by decide +kernel
theorem d_Mod_leaf_108 : decode b_Mod_leaf 108 = .ok (.baload, 1) := by decide +kernel
theorem d_Mod_leaf_109 : decode b_Mod_leaf 109 = .ok (.iconst 4, 1) := by decide +kernel
theorem d_Mod_leaf_110 : decode b_Mod_leaf 110 = .ok (.if_icmp .ne 20, 3) := by decide +kernel
theorem d_Mod_leaf_113 : decode b_Mod_leaf 113 = .ok (.aload_n 0, 1) := by decide +kernel
theorem d_Mod_leaf_114 : decode b_Mod_leaf 114 = .ok (.getfield 58, 3) := by decide +kernel
theorem d_Mod_leaf_117 : decode b_Mod_leaf 117 = .ok (.iload_n 1, 1) := by decide +kernel
theorem d_Mod_leaf_118 : decode b_Mod_leaf 118 = .ok (.iaload, 1) := by decide +kernel
theorem d_Mod_leaf_119 : decode b_Mod_leaf 119 = .ok (.iload_n 2, 1) := by decide +kernel
theorem d_Mod_leaf_120 : decode b_Mod_leaf 120 = .ok (.if_icmp .ne 10, 3) := by decide +kernel
theorem d_Mod_leaf_123 : decode b_Mod_leaf 123 = .ok (.aload_n 0, 1) := by decide +kernel
theorem d_Mod_leaf_124 : decode b_Mod_leaf 124 = .ok (.getfield 89, 3) := by decide +kernel
theorem d_Mod_leaf_127 : decode b_Mod_leaf 127 = .ok (.goto 4, 3) := by decide +kernel
theorem d_Mod_leaf_130 : decode b_Mod_leaf 130 = .ok (.iload_n 1, 1) := by decide +kernel
theorem d_Mod_leaf_131 : decode b_Mod_leaf 131 = .ok (.ireturn, 1) := by decide +kernel
theorem d_Mod_leaf_132 : decode b_Mod_leaf 132 = .ok (.aload_n 0, 1) := by decide +kernel
theorem d_Mod_leaf_133 : decode b_Mod_leaf 133 = .ok (.getfield 55, 3) := by decide +kernel
theorem d_Mod_leaf_136 : decode b_Mod_leaf 136 = .ok (.iload_n 1, 1) := by decide +kernel
theorem d_Mod_leaf_137 : decode b_Mod_leaf 137 = .ok (.baload, 1) := by decide +kernel
theorem d_Mod_leaf_138 : decode b_Mod_leaf 138 = .ok (.iconst 3, 1) := by decide +kernel
theorem d_Mod_leaf_139 : decode b_Mod_leaf 139 = .ok (.if_icmp .ne 27, 3) := by decide +kernel
theorem d_Mod_leaf_142 : decode b_Mod_leaf 142 = .ok (.aload_n 0, 1) := by decide +kernel
theorem d_Mod_leaf_143 : decode b_Mod_leaf 143 = .ok (.getfield 58, 3) := by decide +kernel
theorem d_Mod_leaf_146 : decode b_Mod_leaf 146 = .ok (.iload_n 1, 1) := by decide +kernel
theorem d_Mod_leaf_147 : decode b_Mod_leaf 147 = .ok (.iaload, 1) := by decide +kernel
theorem d_Mod_leaf_148 : decode b_Mod_leaf 148 = .ok (.aload_n 0, 1) := by decide +kernel
theorem d_Mod_leaf_149 : decode b_Mod_leaf 149 = .ok (.getfield 86, 3) := by decide +kernel
theorem d_Mod_leaf_152 : decode b_Mod_leaf 152 = .ok (.if_icmp .ne 14, 3) := by decide +kernel
theorem d_Mod_leaf_155 : decode b_Mod_leaf 155 = .ok (.aload_n 0, 1) := by decide +kernel
theorem d_Mod_leaf_156 : decode b_Mod_leaf 156 = .ok (.iconst 4, 1) := by decide +kernel
theorem d_Mod_leaf_157 : decode b_Mod_leaf 157 = .ok (.iload_n 2, 1) := by decide +kernel
theorem d_Mod_leaf_158 : decode b_Mod_leaf 158 = .ok (.iconst 0, 1) := by decide +kernel
theorem d_Mod_leaf_159 : decode b_Mod_leaf 159 = .ok (.iconst 0, 1) := by decide +kernel
theorem d_Mod_leaf_160 : decode b_Mod_leaf 160 = .ok (.invokevirtual 336, 3) := by decide +kernel
theorem d_Mod_leaf_163 : decode b_Mod_leaf 163 = .ok (.goto 4, 3) := by decide +kernel
theorem d_Mod_leaf_166 : decode b_Mod_leaf 166 = .ok (.iload_n 1, 1) := by decide +kernel
theorem d_Mod_leaf_167 : decode b_Mod_leaf 167 = .ok (.ireturn, 1) := by decide +kernel
theorem d_Mod_leaf_168 : decode b_Mod_leaf 168 = .ok (.aload_n 0, 1) := by decide +kernel
theorem d_Mod_leaf_169 : decode b_Mod_leaf 169 = .ok (.getfield 55, 3) := by decide +kernel
theorem d_Mod_leaf_172 : decode b_Mod_leaf 172 = .ok (.iload_n 1, 1) := by decide +kernel
theorem d_Mod_leaf_173 : decode b_Mod_leaf 173 = .ok (.baload, 1) := by decide +kernel
theorem d_Mod_leaf_174 : decode b_Mod_leaf 174 = .ok (.iconst 3, 1) := by decide +kernel
theorem d_Mod_leaf_175 : decode b_Mod_leaf 175 = .ok (.if_icmp .ne 57, 3) := by decide +kernel
theorem d_Mod_leaf_178 : decode b_Mod_leaf 178 = .ok (.aload_n 0, 1) := by decide +kernel
theorem d_Mod_leaf_179 : decode b_Mod_leaf 179 = .ok (.getfield 89, 3) := by decide +kernel
theorem d_Mod_leaf_182 : decode b_Mod_leaf 182 = .ok (.iconst 1, 1) := by decide +kernel
theorem d_Mod_leaf_183 : decode b_Mod_leaf 183 = .ok (.isub, 1) := by decide +kernel
theorem d_Mod_leaf_184 : decode b_Mod_leaf 184 = .ok (.istore_n 3, 1) := by decide +kernel
theorem d_Mod_leaf_185 : decode b_Mod_leaf 185 = .ok (.iload_n 3, 1) := by decide +kernel
theorem d_Mod_leaf_186 : decode b_Mod_leaf 186 = .ok (.aload_n 0, 1) := by decide +kernel
theorem d_Mod_leaf_187 : decode b_Mod_leaf 187 = .ok (.getfield 86, 3) := by decide +kernel
theorem d_Mod_leaf_190 : decode b_Mod_leaf 190 = .ok (.if_icmp .lt 42, 3) := by decide +kernel
theorem d_Mod_leaf_193 : decode b_Mod_leaf 193 = .ok (.aload_n 0, 1) := by decide +kernel
theorem d_Mod_leaf_194 : decode b_Mod_leaf 194 = .ok (.getfield 235, 3) := by decide +kernel
theorem d_Mod_leaf_197 : decode b_Mod_leaf 197 = .ok (.iload_n 3, 1) := by decide +kernel
theorem d_Mod_leaf_198 : decode b_Mod_leaf 198 = .ok (.iaload, 1) := by decide +kernel
theorem d_Mod_leaf_199 : decode b_Mod_leaf 199 = .ok (.aload_n 0, 1) := by decide +kernel
theorem d_Mod_leaf_200 : decode b_Mod_leaf 200 = .ok (.getfield 58, 3) := by decide +kernel
theorem d_Mod_leaf_203 : decode b_Mod_leaf 203 = .ok (.iload_n 1, 1) := by decide +kernel
theorem d_Mod_leaf_204 : decode b_Mod_leaf 204 = .ok (.iaload, 1) := by decide +kernel
theorem d_Mod_leaf_205 : decode b_Mod_leaf 205 = .ok (.if_icmp .ne 21, 3) := by decide +kernel
theorem d_Mod_leaf_208 : decode b_Mod_leaf 208 = .ok (.aload_n 0, 1) := by decide +kernel
theorem d_Mod_leaf_209 : decode b_Mod_leaf 209 = .ok (.iconst 4, 1) := by decide +kernel
theorem d_Mod_leaf_210 : decode b_Mod_leaf 210 = .ok (.iload_n 2, 1) := by decide +kernel
theorem d_Mod_leaf_211 : decode b_Mod_leaf 211 = .ok (.aload_n 0, 1) := by decide +kernel
theorem d_Mod_leaf_212 : decode b_Mod_leaf 212 = .ok (.getfield 89, 3) := by decide +kernel
theorem d_Mod_leaf_215 : decode b_Mod_leaf 215 = .ok (.iadd, 1) := by decide +kernel
theorem d_Mod_leaf_216 : decode b_Mod_leaf 216 = .ok (.iconst 1, 1) := by decide +kernel
theorem d_Mod_leaf_217 : decode b_Mod_leaf 217 = .ok (.isub, 1) := by decide +kernel
theorem d_Mod_leaf_218 : decode b_Mod_leaf 218 = .ok (.iload_n 3, 1) := by decide +kernel
theorem d_Mod_leaf_219 : decode b_Mod_leaf 219 = .ok (.isub, 1) := by decide +kernel
theorem d_Mod_leaf_220 : decode b_Mod_leaf 220 = .ok (.iconst 0, 1) := by decide +kernel
theorem d_Mod_leaf_221 : decode b_Mod_leaf 221 = .ok (.iconst 0, 1) := by decide +kernel
theorem d_Mod_leaf_222 : decode b_Mod_leaf 222 = .ok (.invokevirtual 336, 3) := by decide +kernel
theorem d_Mod_leaf_225 : decode b_Mod_leaf 225 = .ok (.ireturn, 1) := by decide +kernel
theorem d_Mod_leaf_226 : decode b_Mod_leaf 226 = .ok (.iinc 3 (-1), 3) := by decide +kernel
theorem d_Mod_leaf_229 : decode b_Mod_leaf 229 = .ok (.goto (-44), 3) := by decide +kernel
theorem d_Mod_leaf_232 : decode b_Mod_leaf 232 = .ok (.iload_n 1, 1) := by decide +kernel
theorem d_Mod_leaf_233 : decode b_Mod_leaf 233 = .ok (.ireturn, 1) := by decide +kernel
theorem d_Mod_leaf_234 : decode b_Mod_leaf 234 = .ok (.aload_n 0, 1) := by decide +kernel
theorem d_Mod_leaf_235 : decode b_Mod_leaf 235 = .ok (.getfield 55, 3) := by decide +kernel
theorem d_Mod_leaf_238 : decode b_Mod_leaf 238 = .ok (.iload_n 1, 1) := by decide +kernel
theorem d_Mod_leaf_239 : decode b_Mod_leaf 239 = .ok (.baload, 1) := by decide +kernel
theorem d_Mod_leaf_240 : decode b_Mod_leaf 240 = .ok (.ifCond .ne 24, 3) := by decide +kernel
theorem d_Mod_leaf_243 : decode b_Mod_leaf 243 = .ok (.aload_n 0, 1) := by decide +kernel
theorem d_Mod_leaf_244 : decode b_Mod_leaf 244 = .ok (.getfield 58, 3) := by decide +kernel
theorem d_Mod_leaf_247 : decode b_Mod_leaf 247 = .ok (.iload_n 1, 1) := by decide +kernel
theorem d_Mod_leaf_248 : decode b_Mod_leaf 248 = .ok (.iaload, 1) := by decide +kernel
theorem d_Mod_leaf_249 : decode b_Mod_leaf 249 = .ok (.iconst (-1), 1) := by decide +kernel
theorem d_Mod_leaf_250 : decode b_Mod_leaf 250 = .ok (.if_icmp .ne 14, 3) := by decide +kernel
theorem d_Mod_leaf_253 : decode b_Mod_leaf 253 = .ok (.aload_n 0, 1) := by decide +kernel
theorem d_Mod_leaf_254 : decode b_Mod_leaf 254 = .ok (.aload_n 0, 1) := by decide +kernel
theorem d_Mod_leaf_255 : decode b_Mod_leaf 255 = .ok (.getfield 89, 3) := by decide +kernel
theorem d_Mod_leaf_258 : decode b_Mod_leaf 258 = .ok (.invokevirtual 356, 3) := by decide +kernel
theorem d_Mod_leaf_261 : decode b_Mod_leaf 261 = .ok (.goto 43, 3) := by decide +kernel
theorem d_Mod_leaf_264 : decode b_Mod_leaf 264 = .ok (.aload_n 0, 1) := by decide +kernel
theorem d_Mod_leaf_265 : decode b_Mod_leaf 265 = .ok (.getfield 55, 3) := by decide +kernel
theorem d_Mod_leaf_268 : decode b_Mod_leaf 268 = .ok (.iload_n 1, 1) := by decide +kernel
theorem d_Mod_leaf_269 : decode b_Mod_leaf 269 = .ok (.baload, 1) := by decide +kernel
theorem d_Mod_leaf_270 : decode b_Mod_leaf 270 = .ok (.iconst 2, 1) := by decide +kernel
theorem d_Mod_leaf_271 : decode b_Mod_leaf 271 = .ok (.if_icmp .ne 32, 3) := by decide +kernel
theorem d_Mod_leaf_274 : decode b_Mod_leaf 274 = .ok (.aload_n 0, 1) := by decide +kernel
theorem d_Mod_leaf_275 : decode b_Mod_leaf 275 = .ok (.getfield 62, 3) := by decide +kernel
theorem d_Mod_leaf_278 : decode b_Mod_leaf 278 = .ok (.iload_n 1, 1) := by decide +kernel
theorem d_Mod_leaf_279 : decode b_Mod_leaf 279 = .ok (.iaload, 1) := by decide +kernel
theorem d_Mod_leaf_280 : decode b_Mod_leaf 280 = .ok (.iconst (-1), 1) := by decide +kernel
theorem d_Mod_leaf_281 : decode b_Mod_leaf 281 = .ok (.if_icmp .ne 22, 3) := by decide +kernel
theorem d_Mod_leaf_284 : decode b_Mod_leaf 284 = .ok (.aload_n 0, 1) := by decide +kernel
theorem d_Mod_leaf_285 : decode b_Mod_leaf 285 = .ok (.iconst 2, 1) := by decide +kernel
theorem d_Mod_leaf_286 : decode b_Mod_leaf 286 = .ok (.aload_n 0, 1) := by decide +kernel
theorem d_Mod_leaf_287 : decode b_Mod_leaf 287 = .ok (.getfield 58, 3) := by decide +kernel
theorem d_Mod_leaf_290 : decode b_Mod_leaf 290 = .ok (.iload_n 1, 1) := by decide +kernel
theorem d_Mod_leaf_291 : decode b_Mod_leaf 291 = .ok (.iaload, 1) := by decide +kernel
theorem d_Mod_leaf_292 : decode b_Mod_leaf 292 = .ok (.aload_n 0, 1) := by decide +kernel
theorem d_Mod_leaf_293 : decode b_Mod_leaf 293 = .ok (.getfield 89, 3) := by decide +kernel
theorem d_Mod_leaf_296 : decode b_Mod_leaf 296 = .ok (.iconst 0, 1) := by decide +kernel
theorem d_Mod_leaf_297 : decode b_Mod_leaf 297 = .ok (.invokevirtual 336, 3) := by decide +kernel
theorem d_Mod_leaf_300 : decode b_Mod_leaf 300 = .ok (.goto 4, 3) := by decide +kernel
theorem d_Mod_leaf_303 : decode b_Mod_leaf 303 = .ok (.iload_n 1, 1) := by decide +kernel
theorem d_Mod_leaf_304 : decode b_Mod_leaf 304 = .ok (.ireturn, 1) := by decide +kernel
theorem d_Mod_leaf_305 : decode b_Mod_leaf 305 = .ok (.aload_n 0, 1) := by decide +kernel
theorem d_Mod_leaf_306 : decode b_Mod_leaf 306 = .ok (.aload_n 0, 1) := by decide +kernel
theorem d_Mod_leaf_307 : decode b_Mod_leaf 307 = .ok (.getfield 55, 3) := by decide +kernel
theorem d_Mod_leaf_310 : decode b_Mod_leaf 310 = .ok (.iload_n 1, 1) := by decide +kernel
theorem d_Mod_leaf_311 : decode b_Mod_leaf 311 = .ok (.baload, 1) := by decide +kernel
theorem d_Mod_leaf_312 : decode b_Mod_leaf 312 = .ok (.aload_n 0, 1) := by decide +kernel
theorem d_Mod_leaf_313 : decode b_Mod_leaf 313 = .ok (.getfield 58, 3) := by decide +kernel
theorem d_Mod_leaf_316 : decode b_Mod_leaf 316 = .ok (.iload_n 1, 1) := by decide +kernel
theorem d_Mod_leaf_317 : decode b_Mod_leaf 317 = .ok (.iaload, 1) := by decide +kernel
theorem d_Mod_leaf_318 : decode b_Mod_leaf 318 = .ok (.aload_n 0, 1) := by decide +kernel
theorem d_Mod_leaf_319 : decode b_Mod_leaf 319 = .ok (.getfield 62, 3) := by decide +kernel
theorem d_Mod_leaf_322 : decode b_Mod_leaf 322 = .ok (.iload_n 1, 1) := by decide +kernel
theorem d_Mod_leaf_323 : decode b_Mod_leaf 323 = .ok (.iaload, 1) := by decide +kernel
theorem d_Mod_leaf_324 : decode b_Mod_leaf 324 = .ok (.aload_n 0, 1) := by decide +kernel
theorem d_Mod_leaf_325 : decode b_Mod_leaf 325 = .ok (.getfield 65, 3) := by decide +kernel
theorem d_Mod_leaf_328 : decode b_Mod_leaf 328 = .ok (.iload_n 1, 1) := by decide +kernel
theorem d_Mod_leaf_329 : decode b_Mod_leaf 329 = .ok (.iaload, 1) := by decide +kernel
theorem d_Mod_leaf_330 : decode b_Mod_leaf 330 = .ok (.invokevirtual 336, 3) := by decide +kernel
theorem d_Mod_leaf_333 : decode b_Mod_leaf 333 = .ok (.ireturn, 1) := by decide +kernel
theorem d_Mod_apply_0 : decode b_Mod_apply 0 = .ok (.aload_n 0, 1) := by decide +kernel
theorem d_Mod_apply_1 : decode b_Mod_apply 1 = .ok (.bipush 8, 2) := by decide +kernel
theorem d_Mod_apply_3 : decode b_Mod_apply 3 = .ok (.iload_n 1, 1) := by decide +kernel
theorem d_Mod_apply_4 : decode b_Mod_apply 4 = .ok (.iload_n 2, 1) := by decide +kernel
theorem d_Mod_apply_5 : decode b_Mod_apply 5 = .ok (.iconst 0, 1) := by decide +kernel
theorem d_Mod_apply_6 : decode b_Mod_apply 6 = .ok (.invokevirtual 336, 3) := by decide +kernel
theorem d_Mod_apply_9 : decode b_Mod_apply 9 = .ok (.ireturn, 1) := by decide +kernel
