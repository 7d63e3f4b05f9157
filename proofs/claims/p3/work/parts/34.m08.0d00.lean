theorem d_Mod_fresh_0 : decode b_Mod_fresh 0 = .ok (.aload_n 0, 1) := by decide +kernel
theorem d_Mod_fresh_1 : decode b_Mod_fresh 1 = .ok (.getfield 190, 3) := by decide +kernel
theorem d_Mod_fresh_4 : decode b_Mod_fresh 4 = .ok (.aload_n 0, 1) := by decide +kernel
theorem d_Mod_fresh_5 : decode b_Mod_fresh 5 = .ok (.getfield 186, 3) := by decide +kernel
theorem d_Mod_fresh_8 : decode b_Mod_fresh 8 = .ok (.iload_n 1, 1) := by decide +kernel
theorem d_Mod_fresh_9 : decode b_Mod_fresh 9 = .ok (.iastore, 1) := by decide +kernel
theorem d_Mod_fresh_10 : decode b_Mod_fresh 10 = .ok (.aload_n 0, 1) := by decide +kernel
theorem d_Mod_fresh_11 : decode b_Mod_fresh 11 = .ok (.aload_n 0, 1) := by decide +kernel
theorem d_Mod_fresh_12 : decode b_Mod_fresh 12 = .ok (.dup, 1) := by decide +kernel
theorem d_Mod_fresh_13 : decode b_Mod_fresh 13 = .ok (.getfield 186, 3) := by decide +kernel
theorem d_Mod_fresh_16 : decode b_Mod_fresh 16 = .ok (.dup_x1, 1) := by decide +kernel
theorem d_Mod_fresh_17 : decode b_Mod_fresh 17 = .ok (.iconst 1, 1) := by decide +kernel
theorem d_Mod_fresh_18 : decode b_Mod_fresh 18 = .ok (.iadd, 1) := by decide +kernel
theorem d_Mod_fresh_19 : decode b_Mod_fresh 19 = .ok (.putfield 186, 3) := by decide +kernel
theorem d_Mod_fresh_22 : decode b_Mod_fresh 22 = .ok (.invokevirtual 353, 3) := by decide +kernel
theorem d_Mod_fresh_25 : decode b_Mod_fresh 25 = .ok (.ireturn, 1) := by decide +kernel
theorem d_Mod_open_0 : decode b_Mod_open 0 = .ok (.aload_n 0, 1) := by decide +kernel
theorem d_Mod_open_1 : decode b_Mod_open 1 = .ok (.aload_n 0, 1) := by decide +kernel
theorem d_Mod_open_2 : decode b_Mod_open 2 = .ok (.iload_n 1, 1) := by decide +kernel
theorem d_Mod_open_3 : decode b_Mod_open 3 = .ok (.iload_n 2, 1) := by decide +kernel
theorem d_Mod_open_4 : decode b_Mod_open 4 = .ok (.invokevirtual 431, 3) := by decide +kernel
theorem d_Mod_open_7 : decode b_Mod_open 7 = .ok (.invokevirtual 402, 3) := by decide +kernel
theorem d_Mod_open_10 : decode b_Mod_open 10 = .ok (.istore_n 3, 1) := by decide +kernel
theorem d_Mod_open_11 : decode b_Mod_open 11 = .ok (.aload_n 0, 1) := by decide +kernel
theorem d_Mod_open_12 : decode b_Mod_open 12 = .ok (.aload_n 0, 1) := by decide +kernel
theorem d_Mod_open_13 : decode b_Mod_open 13 = .ok (.getfield 68, 3) := by decide +kernel
theorem d_Mod_open_16 : decode b_Mod_open 16 = .ok (.iload_n 3, 1) := by decide +kernel
theorem d_Mod_open_17 : decode b_Mod_open 17 = .ok (.iaload, 1) := by decide +kernel
theorem d_Mod_open_18 : decode b_Mod_open 18 = .ok (.invokevirtual 434, 3) := by decide +kernel
theorem d_Mod_open_21 : decode b_Mod_open 21 = .ok (.iload_n 3, 1) := by decide +kernel
theorem d_Mod_open_22 : decode b_Mod_open 22 = .ok (.ireturn, 1) := by decide +kernel
