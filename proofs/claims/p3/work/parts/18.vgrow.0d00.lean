theorem d_Terms_grow_0 : decode b_Terms_grow 0 = .ok (.iconst 2, 1) := by decide +kernel
theorem d_Terms_grow_1 : decode b_Terms_grow 1 = .ok (.aload_n 0, 1) := by decide +kernel
theorem d_Terms_grow_2 : decode b_Terms_grow 2 = .ok (.getfield 31, 3) := by decide +kernel
theorem d_Terms_grow_5 : decode b_Terms_grow 5 = .ok (.arraylength, 1) := by decide +kernel
theorem d_Terms_grow_6 : decode b_Terms_grow 6 = .ok (.imul, 1) := by decide +kernel
theorem d_Terms_grow_7 : decode b_Terms_grow 7 = .ok (.istore_n 1, 1) := by decide +kernel
theorem d_Terms_grow_8 : decode b_Terms_grow 8 = .ok (.aload_n 0, 1) := by decide +kernel
theorem d_Terms_grow_9 : decode b_Terms_grow 9 = .ok (.aload_n 0, 1) := by decide +kernel
theorem d_Terms_grow_10 : decode b_Terms_grow 10 = .ok (.getfield 31, 3) := by decide +kernel
theorem d_Terms_grow_13 : decode b_Terms_grow 13 = .ok (.iload_n 1, 1) := by decide +kernel
theorem d_Terms_grow_14 : decode b_Terms_grow 14 = .ok (.invokestatic 100, 3) := by decide +kernel
theorem d_Terms_grow_17 : decode b_Terms_grow 17 = .ok (.putfield 31, 3) := by decide +kernel
theorem d_Terms_grow_20 : decode b_Terms_grow 20 = .ok (.aload_n 0, 1) := by decide +kernel
theorem d_Terms_grow_21 : decode b_Terms_grow 21 = .ok (.aload_n 0, 1) := by decide +kernel
theorem d_Terms_grow_22 : decode b_Terms_grow 22 = .ok (.getfield 35, 3) := by decide +kernel
theorem d_Terms_grow_25 : decode b_Terms_grow 25 = .ok (.iload_n 1, 1) := by decide +kernel
theorem d_Terms_grow_26 : decode b_Terms_grow 26 = .ok (.invokestatic 106, 3) := by decide +kernel
theorem d_Terms_grow_29 : decode b_Terms_grow 29 = .ok (.putfield 35, 3) := by decide +kernel
theorem d_Terms_grow_32 : decode b_Terms_grow 32 = .ok (.aload_n 0, 1) := by decide +kernel
theorem d_Terms_grow_33 : decode b_Terms_grow 33 = .ok (.aload_n 0, 1) := by decide +kernel
theorem d_Terms_grow_34 : decode b_Terms_grow 34 = .ok (.getfield 39, 3) := by decide +kernel
theorem d_Terms_grow_37 : decode b_Terms_grow 37 = .ok (.iload_n 1, 1) := by decide +kernel
theorem d_Terms_grow_38 : decode b_Terms_grow 38 = .ok (.invokestatic 106, 3) := by decide +kernel
theorem d_Terms_grow_41 : decode b_Terms_grow 41 = .ok (.putfield 39, 3) := by decide +kernel
theorem d_Terms_grow_44 : decode b_Terms_grow 44 = .ok (.aload_n 0, 1) := by decide +kernel
theorem d_Terms_grow_45 : decode b_Terms_grow 45 = .ok (.aload_n 0, 1) := by decide +kernel
theorem d_Terms_grow_46 : decode b_Terms_grow 46 = .ok (.getfield 42, 3) := by decide +kernel
theorem d_Terms_grow_49 : decode b_Terms_grow 49 = .ok (.iload_n 1, 1) := by decide +kernel
theorem d_Terms_grow_50 : decode b_Terms_grow 50 = .ok (.invokestatic 106, 3) := by decide +kernel
theorem d_Terms_grow_53 : decode b_Terms_grow 53 = .ok (.putfield 42, 3) := by decide +kernel
theorem d_Terms_grow_56 : decode b_Terms_grow 56 = .ok (.aload_n 0, 1) := by decide +kernel
theorem d_Terms_grow_57 : decode b_Terms_grow 57 = .ok (.iload_n 1, 1) := by decide +kernel
theorem d_Terms_grow_58 : decode b_Terms_grow 58 = .ok (.newarray .int, 2) := by decide +kernel
theorem d_Terms_grow_60 : decode b_Terms_grow 60 = .ok (.putfield 45, 3) := by decide +kernel
theorem d_Terms_grow_63 : decode b_Terms_grow 63 = .ok (.iconst 0, 1) := by decide +kernel
theorem d_Terms_grow_64 : decode b_Terms_grow 64 = .ok (.istore_n 2, 1) := by decide +kernel
theorem d_Terms_grow_65 : decode b_Terms_grow 65 = .ok (.iload_n 2, 1) := by decide +kernel
theorem d_Terms_grow_66 : decode b_Terms_grow 66 = .ok (.aload_n 0, 1) := by decide +kernel
theorem d_Terms_grow_67 : decode b_Terms_grow 67 = .ok (.getfield 48, 3) := by decide +kernel
theorem d_Terms_grow_70 : decode b_Terms_grow 70 = .ok (.if_icmp .ge 52, 3) := by decide +kernel
theorem d_Terms_grow_73 : decode b_Terms_grow 73 = .ok (.aload_n 0, 1) := by decide +kernel
theorem d_Terms_grow_74 : decode b_Terms_grow 74 = .ok (.aload_n 0, 1) := by decide +kernel
theorem d_Terms_grow_75 : decode b_Terms_grow 75 = .ok (.iload_n 2, 1) := by decide +kernel
theorem d_Terms_grow_76 : decode b_Terms_grow 76 = .ok (.invokevirtual 52, 3) := by decide +kernel
theorem d_Terms_grow_79 : decode b_Terms_grow 79 = .ok (.aload_n 0, 1) := by decide +kernel
theorem d_Terms_grow_80 : decode b_Terms_grow 80 = .ok (.getfield 35, 3) := by decide +kernel
theorem d_Terms_grow_83 : decode b_Terms_grow 83 = .ok (.iload_n 2, 1) := by decide +kernel
theorem d_Terms_grow_84 : decode b_Terms_grow 84 = .ok (.iaload, 1) := by decide +kernel
theorem d_Terms_grow_85 : decode b_Terms_grow 85 = .ok (.aload_n 0, 1) := by decide +kernel
theorem d_Terms_grow_86 : decode b_Terms_grow 86 = .ok (.getfield 39, 3) := by decide +kernel
theorem d_Terms_grow_89 : decode b_Terms_grow 89 = .ok (.iload_n 2, 1) := by decide +kernel
theorem d_Terms_grow_90 : decode b_Terms_grow 90 = .ok (.iaload, 1) := by decide +kernel
theorem d_Terms_grow_91 : decode b_Terms_grow 91 = .ok (.invokevirtual 62, 3) := by decide +kernel
theorem d_Terms_grow_94 : decode b_Terms_grow 94 = .ok (.istore_n 3, 1) := by decide +kernel
theorem d_Terms_grow_95 : decode b_Terms_grow 95 = .ok (.aload_n 0, 1) := by decide +kernel
theorem d_Terms_grow_96 : decode b_Terms_grow 96 = .ok (.getfield 42, 3) := by decide +kernel
theorem d_Terms_grow_99 : decode b_Terms_grow 99 = .ok (.iload_n 2, 1) := by decide +kernel
theorem d_Terms_grow_100 : decode b_Terms_grow 100 = .ok (.aload_n 0, 1) := by decide +kernel
theorem d_Terms_grow_101 : decode b_Terms_grow 101 = .ok (.getfield 45, 3) := by decide +kernel
theorem d_Terms_grow_104 : decode b_Terms_grow 104 = .ok (.iload_n 3, 1) := by decide +kernel
theorem d_Terms_grow_105 : decode b_Terms_grow 105 = .ok (.iaload, 1) := by decide +kernel
theorem d_Terms_grow_106 : decode b_Terms_grow 106 = .ok (.iastore, 1) := by decide +kernel
theorem d_Terms_grow_107 : decode b_Terms_grow 107 = .ok (.aload_n 0, 1) := by decide +kernel
theorem d_Terms_grow_108 : decode b_Terms_grow 108 = .ok (.getfield 45, 3) := by decide +kernel
theorem d_Terms_grow_111 : decode b_Terms_grow 111 = .ok (.iload_n 3, 1) := by decide +kernel
theorem d_Terms_grow_112 : decode b_Terms_grow 112 = .ok (.iload_n 2, 1) := by decide +kernel
theorem d_Terms_grow_113 : decode b_Terms_grow 113 = .ok (.iconst 1, 1) := by decide +kernel
theorem d_Terms_grow_114 : decode b_Terms_grow 114 = .ok (.iadd, 1) := by decide +kernel
theorem d_Terms_grow_115 : decode b_Terms_grow 115 = .ok (.iastore, 1) := by decide +kernel
theorem d_Terms_grow_116 : decode b_Terms_grow 116 = .ok (.iinc 2 1, 3) := by decide +kernel
theorem d_Terms_grow_119 : decode b_Terms_grow 119 = .ok (.goto (-54), 3) := by decide +kernel
theorem d_Terms_grow_122 : decode b_Terms_grow 122 = .ok (.return_, 1) := by decide +kernel
