theorem d_Terms_init_94 : decode b_Terms_init 94 = .ok (.newarray .int, 2) := by decide +kernel
theorem d_Terms_init_96 : decode b_Terms_init 96 = .ok (.putfield 45, 3) := by decide +kernel
theorem d_Terms_init_99 : decode b_Terms_init 99 = .ok (.return_, 1) := by decide +kernel
theorem d_Terms_release_0 : decode b_Terms_release 0 = .ok (.aload_n 0, 1) := by decide +kernel
theorem d_Terms_release_1 : decode b_Terms_release 1 = .ok (.getfield 48, 3) := by decide +kernel
theorem d_Terms_release_4 : decode b_Terms_release 4 = .ok (.iconst 1, 1) := by decide +kernel
theorem d_Terms_release_5 : decode b_Terms_release 5 = .ok (.isub, 1) := by decide +kernel
theorem d_Terms_release_6 : decode b_Terms_release 6 = .ok (.istore_n 2, 1) := by decide +kernel
theorem d_Terms_release_7 : decode b_Terms_release 7 = .ok (.iload_n 2, 1) := by decide +kernel
theorem d_Terms_release_8 : decode b_Terms_release 8 = .ok (.iload_n 1, 1) := by decide +kernel
theorem d_Terms_release_9 : decode b_Terms_release 9 = .ok (.if_icmp .lt 45, 3) := by decide +kernel
theorem d_Terms_release_54 : decode b_Terms_release 54 = .ok (.iload_n 1, 1) := by decide +kernel
theorem d_Terms_release_55 : decode b_Terms_release 55 = .ok (.ifCond .lt 16, 3) := by decide +kernel
theorem d_Terms_release_58 : decode b_Terms_release 58 = .ok (.iload_n 1, 1) := by decide +kernel
theorem d_Terms_release_59 : decode b_Terms_release 59 = .ok (.aload_n 0, 1) := by decide +kernel
theorem d_Terms_release_60 : decode b_Terms_release 60 = .ok (.getfield 48, 3) := by decide +kernel
theorem d_Terms_release_63 : decode b_Terms_release 63 = .ok (.if_icmp .ge 8, 3) := by decide +kernel
theorem d_Terms_release_71 : decode b_Terms_release 71 = .ok (.return_, 1) := by decide +kernel
theorem d_Typ_init_0 : decode b_Typ_init 0 = .ok (.aload_n 0, 1) := by decide +kernel
theorem d_Typ_init_1 : decode b_Typ_init 1 = .ok (.invokespecial 3, 3) := by decide +kernel
theorem d_Typ_init_4 : decode b_Typ_init 4 = .ok (.aload_n 0, 1) := by decide +kernel
theorem d_Typ_init_5 : decode b_Typ_init 5 = .ok (.aload_n 1, 1) := by decide +kernel
theorem d_Typ_init_6 : decode b_Typ_init 6 = .ok (.putfield 9, 3) := by decide +kernel
theorem d_Typ_init_9 : decode b_Typ_init 9 = .ok (.aload_n 0, 1) := by decide +kernel
theorem d_Typ_init_10 : decode b_Typ_init 10 = .ok (.aload_n 2, 1) := by decide +kernel
theorem d_Typ_init_11 : decode b_Typ_init 11 = .ok (.putfield 15, 3) := by decide +kernel
theorem d_Typ_init_14 : decode b_Typ_init 14 = .ok (.aload_n 0, 1) := by decide +kernel
theorem d_Typ_init_15 : decode b_Typ_init 15 = .ok (.aload_n 3, 1) := by decide +kernel
theorem d_Typ_init_16 : decode b_Typ_init 16 = .ok (.putfield 19, 3) := by decide +kernel
theorem d_Typ_init_19 : decode b_Typ_init 19 = .ok (.aload_n 0, 1) := by decide +kernel
theorem d_Typ_init_20 : decode b_Typ_init 20 = .ok (.aload 4, 2) := by decide +kernel
theorem d_Typ_init_22 : decode b_Typ_init 22 = .ok (.putfield 23, 3) := by decide +kernel
theorem d_Typ_init_25 : decode b_Typ_init 25 = .ok (.return_, 1) := by decide +kernel
