theorem d_Mod_feed_83 : decode b_Mod_feed 83 = .ok (.iload 5, 2) := by decide +kernel
theorem d_Mod_feed_85 : decode b_Mod_feed 85 = .ok (.istore 7, 2) := by decide +kernel
theorem d_Mod_feed_87 : decode b_Mod_feed 87 = .ok (.aload_n 0, 1) := by decide +kernel
theorem d_Mod_feed_88 : decode b_Mod_feed 88 = .ok (.getfield 13, 3) := by decide +kernel
theorem d_Mod_feed_91 : decode b_Mod_feed 91 = .ok (.aload_n 0, 1) := by decide +kernel
theorem d_Mod_feed_92 : decode b_Mod_feed 92 = .ok (.dup, 1) := by decide +kernel
theorem d_Mod_feed_93 : decode b_Mod_feed 93 = .ok (.getfield 22, 3) := by decide +kernel
theorem d_Mod_feed_96 : decode b_Mod_feed 96 = .ok (.dup_x1, 1) := by decide +kernel
theorem d_Mod_feed_97 : decode b_Mod_feed 97 = .ok (.iconst 1, 1) := by decide +kernel
theorem d_Mod_feed_98 : decode b_Mod_feed 98 = .ok (.iadd, 1) := by decide +kernel
theorem d_Mod_feed_99 : decode b_Mod_feed 99 = .ok (.putfield 22, 3) := by decide +kernel
theorem d_Mod_feed_102 : decode b_Mod_feed 102 = .ok (.iload 7, 2) := by decide +kernel
theorem d_Mod_feed_104 : decode b_Mod_feed 104 = .ok (.bipush 24, 2) := by decide +kernel
theorem d_Mod_feed_106 : decode b_Mod_feed 106 = .ok (.bipush 8, 2) := by decide +kernel
theorem d_Mod_feed_108 : decode b_Mod_feed 108 = .ok (.iload 6, 2) := by decide +kernel
theorem d_Mod_feed_110 : decode b_Mod_feed 110 = .ok (.iconst 4, 1) := by decide +kernel
theorem d_Mod_feed_111 : decode b_Mod_feed 111 = .ok (.irem, 1) := by decide +kernel
theorem d_Mod_feed_112 : decode b_Mod_feed 112 = .ok (.imul, 1) := by decide +kernel
theorem d_Mod_feed_113 : decode b_Mod_feed 113 = .ok (.isub, 1) := by decide +kernel
theorem d_Mod_feed_114 : decode b_Mod_feed 114 = .ok (.iushr, 1) := by decide +kernel
theorem d_Mod_feed_115 : decode b_Mod_feed 115 = .ok (.i2b, 1) := by decide +kernel
theorem d_Mod_feed_116 : decode b_Mod_feed 116 = .ok (.bastore, 1) := by decide +kernel
theorem d_Mod_feed_117 : decode b_Mod_feed 117 = .ok (.iinc 6 1, 3) := by decide +kernel
theorem d_Mod_feed_120 : decode b_Mod_feed 120 = .ok (.goto (-88), 3) := by decide +kernel
theorem d_Mod_feed_123 : decode b_Mod_feed 123 = .ok (.aload_n 0, 1) := by decide +kernel
theorem d_Mod_feed_124 : decode b_Mod_feed 124 = .ok (.getfield 22, 3) := by decide +kernel
theorem d_Mod_feed_127 : decode b_Mod_feed 127 = .ok (.ireturn, 1) := by decide +kernel
theorem d_Mod_init_0 : decode b_Mod_init 0 = .ok (.aload_n 0, 1) := by decide +kernel
theorem d_Mod_init_1 : decode b_Mod_init 1 = .ok (.invokespecial 7, 3) := by decide +kernel
theorem d_Mod_init_4 : decode b_Mod_init 4 = .ok (.aload_n 0, 1) := by decide +kernel
theorem d_Mod_init_5 : decode b_Mod_init 5 = .ok (.ldc 12, 2) := by decide +kernel
theorem d_Mod_init_7 : decode b_Mod_init 7 = .ok (.newarray .byte, 2) := by decide +kernel
theorem d_Mod_init_9 : decode b_Mod_init 9 = .ok (.putfield 13, 3) := by decide +kernel
theorem d_Mod_init_12 : decode b_Mod_init 12 = .ok (.aload_n 0, 1) := by decide +kernel
theorem d_Mod_init_13 : decode b_Mod_init 13 = .ok (.ldc 12, 2) := by decide +kernel
theorem d_Mod_init_15 : decode b_Mod_init 15 = .ok (.newarray .byte, 2) := by decide +kernel
theorem d_Mod_init_17 : decode b_Mod_init 17 = .ok (.putfield 19, 3) := by decide +kernel
theorem d_Mod_init_20 : decode b_Mod_init 20 = .ok (.aload_n 0, 1) := by decide +kernel
theorem d_Mod_init_21 : decode b_Mod_init 21 = .ok (.iconst 0, 1) := by decide +kernel
theorem d_Mod_init_22 : decode b_Mod_init 22 = .ok (.putfield 22, 3) := by decide +kernel
theorem d_Mod_init_25 : decode b_Mod_init 25 = .ok (.aload_n 0, 1) := by decide +kernel
theorem d_Mod_init_26 : decode b_Mod_init 26 = .ok (.iconst 0, 1) := by decide +kernel
theorem d_Mod_init_27 : decode b_Mod_init 27 = .ok (.putfield 26, 3) := by decide +kernel
theorem d_Mod_init_30 : decode b_Mod_init 30 = .ok (.aload_n 0, 1) := by decide +kernel
theorem d_Mod_init_31 : decode b_Mod_init 31 = .ok (.iconst 0, 1) := by decide +kernel
theorem d_Mod_init_32 : decode b_Mod_init 32 = .ok (.putfield 29, 3) := by decide +kernel
theorem d_Mod_init_35 : decode b_Mod_init 35 = .ok (.aload_n 0, 1) := by decide +kernel
theorem d_Mod_init_36 : decode b_Mod_init 36 = .ok (.iconst 0, 1) := by decide +kernel
theorem d_Mod_init_37 : decode b_Mod_init 37 = .ok (.putfield 32, 3) := by decide +kernel
theorem d_Mod_init_40 : decode b_Mod_init 40 = .ok (.aload_n 0, 1) := by decide +kernel
theorem d_Mod_init_41 : decode b_Mod_init 41 = .ok (.iconst 0, 1) := by decide +kernel
theorem d_Mod_init_42 : decode b_Mod_init 42 = .ok (.putfield 35, 3) := by decide +kernel
theorem d_Mod_init_45 : decode b_Mod_init 45 = .ok (.aload_n 0, 1) := by decide +kernel
theorem d_Mod_init_46 : decode b_Mod_init 46 = .ok (.iconst 0, 1) := by decide +kernel
theorem d_Mod_init_47 : decode b_Mod_init 47 = .ok (.putfield 38, 3) := by decide +kernel
theorem d_Mod_init_50 : decode b_Mod_init 50 = .ok (.aload_n 0, 1) := by decide +kernel
theorem d_Mod_init_51 : decode b_Mod_init 51 = .ok (.iconst 0, 1) := by decide +kernel
theorem d_Mod_init_52 : decode b_Mod_init 52 = .ok (.putfield 41, 3) := by decide +kernel
theorem d_Mod_init_55 : decode b_Mod_init 55 = .ok (.aload_n 0, 1) := by decide +kernel
theorem d_Mod_init_56 : decode b_Mod_init 56 = .ok (.iconst 0, 1) := by decide +kernel
