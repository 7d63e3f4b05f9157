theorem d_Mod_sayNumber_0 : decode b_Mod_sayNumber 0 = .ok (.iload_n 1, 1) := by decide +kernel
theorem d_Mod_sayNumber_1 : decode b_Mod_sayNumber 1 = .ok (.bipush 9, 2) := by decide +kernel
theorem d_Mod_sayNumber_3 : decode b_Mod_sayNumber 3 = .ok (.if_icmp .le 11, 3) := by decide +kernel
theorem d_Mod_sayNumber_6 : decode b_Mod_sayNumber 6 = .ok (.aload_n 0, 1) := by decide +kernel
theorem d_Mod_sayNumber_7 : decode b_Mod_sayNumber 7 = .ok (.iload_n 1, 1) := by decide +kernel
theorem d_Mod_sayNumber_8 : decode b_Mod_sayNumber 8 = .ok (.bipush 10, 2) := by decide +kernel
theorem d_Mod_sayNumber_10 : decode b_Mod_sayNumber 10 = .ok (.idiv, 1) := by decide +kernel
theorem d_Mod_sayNumber_11 : decode b_Mod_sayNumber 11 = .ok (.invokevirtual 582, 3) := by decide +kernel
theorem d_Mod_sayNumber_14 : decode b_Mod_sayNumber 14 = .ok (.aload_n 0, 1) := by decide +kernel
theorem d_Mod_sayNumber_15 : decode b_Mod_sayNumber 15 = .ok (.bipush 48, 2) := by decide +kernel
theorem d_Mod_sayNumber_17 : decode b_Mod_sayNumber 17 = .ok (.iload_n 1, 1) := by decide +kernel
theorem d_Mod_sayNumber_18 : decode b_Mod_sayNumber 18 = .ok (.bipush 10, 2) := by decide +kernel
theorem d_Mod_sayNumber_20 : decode b_Mod_sayNumber 20 = .ok (.irem, 1) := by decide +kernel
theorem d_Mod_sayNumber_21 : decode b_Mod_sayNumber 21 = .ok (.iadd, 1) := by decide +kernel
theorem d_Mod_sayNumber_22 : decode b_Mod_sayNumber 22 = .ok (.invokevirtual 580, 3) := by decide +kernel
theorem d_Mod_sayNumber_25 : decode b_Mod_sayNumber 25 = .ok (.return_, 1) := by decide +kernel
