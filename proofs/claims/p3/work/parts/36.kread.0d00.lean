theorem d_Ker_read_0 : decode b_Ker_read 0 = .ok (.aload_n 0, 1) := by decide +kernel
theorem d_Ker_read_1 : decode b_Ker_read 1 = .ok (.getfield 25, 3) := by decide +kernel
theorem d_Ker_read_4 : decode b_Ker_read 4 = .ok (.invokevirtual 124, 3) := by decide +kernel
theorem d_Ker_read_7 : decode b_Ker_read 7 = .ok (.aload_n 0, 1) := by decide +kernel
theorem d_Ker_read_8 : decode b_Ker_read 8 = .ok (.getfield 50, 3) := by decide +kernel
theorem d_Ker_read_11 : decode b_Ker_read 11 = .ok (.invokevirtual 127, 3) := by decide +kernel
theorem d_Ker_read_14 : decode b_Ker_read 14 = .ok (.iconst 0, 1) := by decide +kernel
theorem d_Ker_read_15 : decode b_Ker_read 15 = .ok (.istore_n 1, 1) := by decide +kernel
theorem d_Ker_read_16 : decode b_Ker_read 16 = .ok (.iconst 0, 1) := by decide +kernel
theorem d_Ker_read_17 : decode b_Ker_read 17 = .ok (.istore_n 2, 1) := by decide +kernel
theorem d_Ker_read_18 : decode b_Ker_read 18 = .ok (.iload_n 2, 1) := by decide +kernel
theorem d_Ker_read_19 : decode b_Ker_read 19 = .ok (.ldc 11, 2) := by decide +kernel
theorem d_Ker_read_21 : decode b_Ker_read 21 = .ok (.if_icmp .gt 138, 3) := by decide +kernel
theorem d_Ker_read_24 : decode b_Ker_read 24 = .ok (.aload_n 0, 1) := by decide +kernel
theorem d_Ker_read_25 : decode b_Ker_read 25 = .ok (.getfield 50, 3) := by decide +kernel
theorem d_Ker_read_28 : decode b_Ker_read 28 = .ok (.invokevirtual 130, 3) := by decide +kernel
theorem d_Ker_read_31 : decode b_Ker_read 31 = .ok (.ifCond .eq 128, 3) := by decide +kernel
theorem d_Ker_read_34 : decode b_Ker_read 34 = .ok (.aload_n 0, 1) := by decide +kernel
theorem d_Ker_read_35 : decode b_Ker_read 35 = .ok (.getfield 41, 3) := by decide +kernel
theorem d_Ker_read_38 : decode b_Ker_read 38 = .ok (.invokevirtual 133, 3) := by decide +kernel
theorem d_Ker_read_41 : decode b_Ker_read 41 = .ok (.istore_n 3, 1) := by decide +kernel
theorem d_Ker_read_42 : decode b_Ker_read 42 = .ok (.aload_n 0, 1) := by decide +kernel
theorem d_Ker_read_43 : decode b_Ker_read 43 = .ok (.getfield 34, 3) := by decide +kernel
theorem d_Ker_read_46 : decode b_Ker_read 46 = .ok (.invokevirtual 136, 3) := by decide +kernel
theorem d_Ker_read_49 : decode b_Ker_read 49 = .ok (.istore 4, 2) := by decide +kernel
theorem d_Ker_read_51 : decode b_Ker_read 51 = .ok (.aload_n 0, 1) := by decide +kernel
theorem d_Ker_read_52 : decode b_Ker_read 52 = .ok (.getfield 25, 3) := by decide +kernel
theorem d_Ker_read_55 : decode b_Ker_read 55 = .ok (.aload_n 0, 1) := by decide +kernel
theorem d_Ker_read_56 : decode b_Ker_read 56 = .ok (.getfield 50, 3) := by decide +kernel
theorem d_Ker_read_59 : decode b_Ker_read 59 = .ok (.invokevirtual 137, 3) := by decide +kernel
theorem d_Ker_read_62 : decode b_Ker_read 62 = .ok (.invokevirtual 140, 3) := by decide +kernel
theorem d_Ker_read_65 : decode b_Ker_read 65 = .ok (.aload_n 0, 1) := by decide +kernel
theorem d_Ker_read_66 : decode b_Ker_read 66 = .ok (.getfield 59, 3) := by decide +kernel
theorem d_Ker_read_69 : decode b_Ker_read 69 = .ok (.invokevirtual 142, 3) := by decide +kernel
theorem d_Ker_read_72 : decode b_Ker_read 72 = .ok (.aload_n 0, 1) := by decide +kernel
theorem d_Ker_read_73 : decode b_Ker_read 73 = .ok (.invokevirtual 145, 3) := by decide +kernel
theorem d_Ker_read_76 : decode b_Ker_read 76 = .ok (.aload_n 0, 1) := by decide +kernel
theorem d_Ker_read_77 : decode b_Ker_read 77 = .ok (.getfield 59, 3) := by decide +kernel
theorem d_Ker_read_80 : decode b_Ker_read 80 = .ok (.invokevirtual 148, 3) := by decide +kernel
theorem d_Ker_read_83 : decode b_Ker_read 83 = .ok (.bipush 32, 2) := by decide +kernel
theorem d_Ker_read_85 : decode b_Ker_read 85 = .ok (.if_icmp .ne 13, 3) := by decide +kernel
theorem d_Ker_read_88 : decode b_Ker_read 88 = .ok (.aload_n 0, 1) := by decide +kernel
theorem d_Ker_read_89 : decode b_Ker_read 89 = .ok (.getfield 91, 3) := by decide +kernel
theorem d_Ker_read_92 : decode b_Ker_read 92 = .ok (.invokevirtual 151, 3) := by decide +kernel
theorem d_Ker_read_95 : decode b_Ker_read 95 = .ok (.goto 9, 3) := by decide +kernel
theorem d_Ker_read_98 : decode b_Ker_read 98 = .ok (.aload_n 0, 1) := by decide +kernel
theorem d_Ker_read_99 : decode b_Ker_read 99 = .ok (.iload 4, 2) := by decide +kernel
theorem d_Ker_read_101 : decode b_Ker_read 101 = .ok (.invokevirtual 154, 3) := by decide +kernel
theorem d_Ker_read_104 : decode b_Ker_read 104 = .ok (.goto 25, 3) := by decide +kernel
theorem d_Ker_read_107 : decode b_Ker_read 107 = .ok (.astore 5, 2) := by decide +kernel
theorem d_Ker_read_109 : decode b_Ker_read 109 = .ok (.aload_n 0, 1) := by decide +kernel
theorem d_Ker_read_110 : decode b_Ker_read 110 = .ok (.getfield 41, 3) := by decide +kernel
theorem d_Ker_read_113 : decode b_Ker_read 113 = .ok (.iload_n 3, 1) := by decide +kernel
theorem d_Ker_read_114 : decode b_Ker_read 114 = .ok (.invokevirtual 157, 3) := by decide +kernel
theorem d_Ker_read_117 : decode b_Ker_read 117 = .ok (.aload_n 0, 1) := by decide +kernel
theorem d_Ker_read_118 : decode b_Ker_read 118 = .ok (.getfield 34, 3) := by decide +kernel
theorem d_Ker_read_121 : decode b_Ker_read 121 = .ok (.iload 4, 2) := by decide +kernel
theorem d_Ker_read_123 : decode b_Ker_read 123 = .ok (.invokevirtual 158, 3) := by decide +kernel
theorem d_Ker_read_126 : decode b_Ker_read 126 = .ok (.goto 33, 3) := by decide +kernel
theorem d_Ker_read_129 : decode b_Ker_read 129 = .ok (.aload_n 0, 1) := by decide +kernel
theorem d_Ker_read_130 : decode b_Ker_read 130 = .ok (.dup, 1) := by decide +kernel
theorem d_Ker_read_131 : decode b_Ker_read 131 = .ok (.getfield 161, 3) := by decide +kernel
theorem d_Ker_read_134 : decode b_Ker_read 134 = .ok (.iconst 1, 1) := by decide +kernel
theorem d_Ker_read_135 : decode b_Ker_read 135 = .ok (.iadd, 1) := by decide +kernel
theorem d_Ker_read_136 : decode b_Ker_read 136 = .ok (.putfield 161, 3) := by decide +kernel
theorem d_Ker_read_139 : decode b_Ker_read 139 = .ok (.aload_n 0, 1) := by decide +kernel
theorem d_Ker_read_140 : decode b_Ker_read 140 = .ok (.aload_n 0, 1) := by decide +kernel
theorem d_Ker_read_141 : decode b_Ker_read 141 = .ok (.getfield 25, 3) := by decide +kernel
theorem d_Ker_read_144 : decode b_Ker_read 144 = .ok (.invokevirtual 165, 3) := by decide +kernel
theorem d_Ker_read_147 : decode b_Ker_read 147 = .ok (.putfield 167, 3) := by decide +kernel
theorem d_Ker_read_150 : decode b_Ker_read 150 = .ok (.iinc 1 1, 3) := by decide +kernel
theorem d_Ker_read_153 : decode b_Ker_read 153 = .ok (.iinc 2 1, 3) := by decide +kernel
theorem d_Ker_read_156 : decode b_Ker_read 156 = .ok (.goto (-138), 3) := by decide +kernel
theorem d_Ker_read_159 : decode b_Ker_read 159 = .ok (.aload_n 0, 1) := by decide +kernel
theorem d_Ker_read_160 : decode b_Ker_read 160 = .ok (.getfield 15, 3) := by decide +kernel
theorem d_Ker_read_163 : decode b_Ker_read 163 = .ok (.iconst 0, 1) := by decide +kernel
theorem d_Ker_read_164 : decode b_Ker_read 164 = .ok (.invokevirtual 121, 3) := by decide +kernel
theorem d_Ker_read_167 : decode b_Ker_read 167 = .ok (.iload_n 1, 1) := by decide +kernel
theorem d_Ker_read_168 : decode b_Ker_read 168 = .ok (.ireturn, 1) := by decide +kernel
