theorem d_Mod_saySort_0 : decode b_Mod_saySort 0 = .ok (.iload_n 1, 1) := by decide +kernel
theorem d_Mod_saySort_1 : decode b_Mod_saySort 1 = .ok (.ifCond .ne 13, 3) := by decide +kernel
theorem d_Mod_saySort_4 : decode b_Mod_saySort 4 = .ok (.aload_n 0, 1) := by decide +kernel
theorem d_Mod_saySort_5 : decode b_Mod_saySort 5 = .ok (.ldc_w 319, 3) := by decide +kernel
theorem d_Mod_saySort_8 : decode b_Mod_saySort 8 = .ok (.invokevirtual 585, 3) := by decide +kernel
theorem d_Mod_saySort_11 : decode b_Mod_saySort 11 = .ok (.goto 17, 3) := by decide +kernel
theorem d_Mod_saySort_14 : decode b_Mod_saySort 14 = .ok (.aload_n 0, 1) := by decide +kernel
theorem d_Mod_saySort_15 : decode b_Mod_saySort 15 = .ok (.ldc_w 587, 3) := by decide +kernel
theorem d_Mod_saySort_18 : decode b_Mod_saySort 18 = .ok (.invokevirtual 585, 3) := by decide +kernel
theorem d_Mod_saySort_21 : decode b_Mod_saySort 21 = .ok (.aload_n 0, 1) := by decide +kernel
theorem d_Mod_saySort_22 : decode b_Mod_saySort 22 = .ok (.iload_n 1, 1) := by decide +kernel
theorem d_Mod_saySort_23 : decode b_Mod_saySort 23 = .ok (.iconst 1, 1) := by decide +kernel
theorem d_Mod_saySort_24 : decode b_Mod_saySort 24 = .ok (.isub, 1) := by decide +kernel
theorem d_Mod_saySort_25 : decode b_Mod_saySort 25 = .ok (.invokevirtual 582, 3) := by decide +kernel
theorem d_Mod_saySort_28 : decode b_Mod_saySort 28 = .ok (.return_, 1) := by decide +kernel
theorem d_Mod_sayName_0 : decode b_Mod_sayName 0 = .ok (.iconst 0, 1) := by decide +kernel
theorem d_Mod_sayName_1 : decode b_Mod_sayName 1 = .ok (.istore_n 2, 1) := by decide +kernel
theorem d_Mod_sayName_2 : decode b_Mod_sayName 2 = .ok (.iload_n 2, 1) := by decide +kernel
theorem d_Mod_sayName_3 : decode b_Mod_sayName 3 = .ok (.aload_n 0, 1) := by decide +kernel
theorem d_Mod_sayName_4 : decode b_Mod_sayName 4 = .ok (.getfield 98, 3) := by decide +kernel
theorem d_Mod_sayName_7 : decode b_Mod_sayName 7 = .ok (.iload_n 1, 1) := by decide +kernel
theorem d_Mod_sayName_8 : decode b_Mod_sayName 8 = .ok (.iaload, 1) := by decide +kernel
theorem d_Mod_sayName_9 : decode b_Mod_sayName 9 = .ok (.if_icmp .ge 26, 3) := by decide +kernel
theorem d_Mod_sayName_12 : decode b_Mod_sayName 12 = .ok (.aload_n 0, 1) := by decide +kernel
theorem d_Mod_sayName_13 : decode b_Mod_sayName 13 = .ok (.aload_n 0, 1) := by decide +kernel
theorem d_Mod_sayName_14 : decode b_Mod_sayName 14 = .ok (.getfield 92, 3) := by decide +kernel
theorem d_Mod_sayName_17 : decode b_Mod_sayName 17 = .ok (.aload_n 0, 1) := by decide +kernel
theorem d_Mod_sayName_18 : decode b_Mod_sayName 18 = .ok (.getfield 95, 3) := by decide +kernel
theorem d_Mod_sayName_21 : decode b_Mod_sayName 21 = .ok (.iload_n 1, 1) := by decide +kernel
theorem d_Mod_sayName_22 : decode b_Mod_sayName 22 = .ok (.iaload, 1) := by decide +kernel
theorem d_Mod_sayName_23 : decode b_Mod_sayName 23 = .ok (.iload_n 2, 1) := by decide +kernel
theorem d_Mod_sayName_24 : decode b_Mod_sayName 24 = .ok (.iadd, 1) := by decide +kernel
theorem d_Mod_sayName_25 : decode b_Mod_sayName 25 = .ok (.baload, 1) := by decide +kernel
theorem d_Mod_sayName_26 : decode b_Mod_sayName 26 = .ok (.invokevirtual 580, 3) := by decide +kernel
theorem d_Mod_sayName_29 : decode b_Mod_sayName 29 = .ok (.iinc 2 1, 3) := by decide +kernel
theorem d_Mod_sayName_32 : decode b_Mod_sayName 32 = .ok (.goto (-30), 3) := by decide +kernel
theorem d_Mod_sayName_35 : decode b_Mod_sayName 35 = .ok (.return_, 1) := by decide +kernel
