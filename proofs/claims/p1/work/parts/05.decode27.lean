theorem d_Terms_init_6 : decode b_Terms_init 6 = .ok (.putfield 9, 3) := by decide +kernel
theorem d_Terms_init_9 : decode b_Terms_init 9 = .ok (.aload_n 0, 1) := by decide +kernel
theorem d_Terms_init_10 : decode b_Terms_init 10 = .ok (.new 15, 3) := by decide +kernel
theorem d_Terms_init_13 : decode b_Terms_init 13 = .ok (.dup, 1) := by decide +kernel
theorem d_Terms_init_14 : decode b_Terms_init 14 = .ok (.bipush 64, 2) := by decide +kernel
theorem d_Terms_init_16 : decode b_Terms_init 16 = .ok (.ldc 17, 2) := by decide +kernel
theorem d_Terms_init_18 : decode b_Terms_init 18 = .ok (.invokespecial 18, 3) := by decide +kernel
theorem d_Terms_init_21 : decode b_Terms_init 21 = .ok (.putfield 21, 3) := by decide +kernel
theorem d_Terms_init_24 : decode b_Terms_init 24 = .ok (.aload_n 0, 1) := by decide +kernel
theorem d_Terms_init_25 : decode b_Terms_init 25 = .ok (.new 15, 3) := by decide +kernel
theorem d_Terms_init_28 : decode b_Terms_init 28 = .ok (.dup, 1) := by decide +kernel
theorem d_Terms_init_29 : decode b_Terms_init 29 = .ok (.bipush 64, 2) := by decide +kernel
theorem d_Terms_init_31 : decode b_Terms_init 31 = .ok (.ldc 17, 2) := by decide +kernel
theorem d_Terms_init_33 : decode b_Terms_init 33 = .ok (.invokespecial 18, 3) := by decide +kernel
theorem d_Terms_init_36 : decode b_Terms_init 36 = .ok (.putfield 25, 3) := by decide +kernel
theorem d_Terms_init_39 : decode b_Terms_init 39 = .ok (.aload_n 0, 1) := by decide +kernel
theorem d_Terms_init_40 : decode b_Terms_init 40 = .ok (.new 15, 3) := by decide +kernel
theorem d_Terms_init_43 : decode b_Terms_init 43 = .ok (.dup, 1) := by decide +kernel
theorem d_Terms_init_44 : decode b_Terms_init 44 = .ok (.bipush 64, 2) := by decide +kernel
theorem d_Terms_init_46 : decode b_Terms_init 46 = .ok (.ldc 17, 2) := by decide +kernel
theorem d_Terms_init_48 : decode b_Terms_init 48 = .ok (.invokespecial 18, 3) := by decide +kernel
theorem d_Terms_init_51 : decode b_Terms_init 51 = .ok (.putfield 28, 3) := by decide +kernel
theorem d_Terms_init_54 : decode b_Terms_init 54 = .ok (.aload_n 0, 1) := by decide +kernel
theorem d_Terms_init_55 : decode b_Terms_init 55 = .ok (.sipush 256, 3) := by decide +kernel
theorem d_Terms_init_58 : decode b_Terms_init 58 = .ok (.newarray .long, 2) := by decide +kernel
theorem d_Terms_init_60 : decode b_Terms_init 60 = .ok (.putfield 31, 3) := by decide +kernel
theorem d_Terms_init_63 : decode b_Terms_init 63 = .ok (.aload_n 0, 1) := by decide +kernel
theorem d_Terms_init_64 : decode b_Terms_init 64 = .ok (.sipush 256, 3) := by decide +kernel
theorem d_Terms_init_67 : decode b_Terms_init 67 = .ok (.newarray .int, 2) := by decide +kernel
theorem d_Terms_init_69 : decode b_Terms_init 69 = .ok (.putfield 35, 3) := by decide +kernel
theorem d_Terms_init_72 : decode b_Terms_init 72 = .ok (.aload_n 0, 1) := by decide +kernel
theorem d_Terms_init_73 : decode b_Terms_init 73 = .ok (.sipush 256, 3) := by decide +kernel
theorem d_Terms_init_76 : decode b_Terms_init 76 = .ok (.newarray .int, 2) := by decide +kernel
theorem d_Terms_init_78 : decode b_Terms_init 78 = .ok (.putfield 39, 3) := by decide +kernel
theorem d_Terms_init_81 : decode b_Terms_init 81 = .ok (.aload_n 0, 1) := by decide +kernel
theorem d_Terms_init_82 : decode b_Terms_init 82 = .ok (.sipush 256, 3) := by decide +kernel
theorem d_Terms_init_85 : decode b_Terms_init 85 = .ok (.newarray .int, 2) := by decide +kernel
theorem d_Terms_init_87 : decode b_Terms_init 87 = .ok (.putfield 42, 3) := by decide +kernel
theorem d_Terms_init_90 : decode b_Terms_init 90 = .ok (.aload_n 0, 1) := by decide +kernel
theorem d_Terms_init_91 : decode b_Terms_init 91 = .ok (.sipush 256, 3) := by decide +kernel
theorem d_Terms_init_94 : decode b_Terms_init 94 = .ok (.newarray .int, 2) := by decide +kernel
theorem d_Terms_init_96 : decode b_Terms_init 96 = .ok (.putfield 45, 3) := by decide +kernel
theorem d_Terms_init_99 : decode b_Terms_init 99 = .ok (.return_, 1) := by decide +kernel
theorem d_Terms_release_0 : decode b_Terms_release 0 = .ok (.aload_n 0, 1) := by decide +kernel
theorem d_Terms_release_1 : decode b_Terms_release 1 = .ok (.getfield 48, 3) := by decide +kernel
theorem d_Terms_release_4 : decode b_Terms_release 4 = .ok (.iconst 1, 1) := by decide +kernel
theorem d_Terms_release_5 : decode b_Terms_release 5 = .ok (.isub, 1) := by decide +kernel
theorem d_Terms_release_6 : decode b_Terms_release 6 = .ok (.istore_n 2, 1) := by decide +kernel
theorem d_Terms_release_7 : decode b_Terms_release 7 = .ok (.iload_n 2, 1) := by decide +kernel
theorem d_Terms_release_8 : decode b_Terms_release 8 = .ok (.iload_n 1, 1) := by decide +kernel
theorem d_Terms_release_9 : decode b_Terms_release 9 = .ok (.if_icmp .lt 45, 3) := by decide +kernel
theorem d_Terms_release_54 : decode b_Terms_release 54 = .ok (.iload_n 1, 1) := by decide +kernel
theorem d_Terms_release_55 : decode b_Terms_release 55 = .ok (.ifCond .lt 16, 3) := by decide +kernel
theorem d_Terms_release_58 : decode b_Terms_release 58 = .ok (.iload_n 1, 1) := by decide +kernel
theorem d_Terms_release_59 : decode b_Terms_release 59 = .ok (.aload_n 0, 1) := by decide +kernel
theorem d_Terms_release_60 : decode b_Terms_release 60 = .ok (.getfield 48, 3) := by decide +kernel
theorem d_Terms_release_63 : decode b_Terms_release 63 = .ok (.if_icmp .ge 8, 3) := by decide +kernel
theorem d_Terms_release_71 : decode b_Terms_release 71 = .ok (.return_, 1) := by decide +kernel
theorem d_Typ_init_0 : decode b_Typ_init 0 = .ok (.aload_n 0, 1) := by decide +kernel
theorem d_Typ_init_1 : decode b_Typ_init 1 = .ok (.invokespecial 3, 3) := by decide +kernel
