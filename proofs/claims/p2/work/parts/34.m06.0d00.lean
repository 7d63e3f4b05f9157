theorem d_Mod_fresh_0 : decode b_Mod_fresh 0 = .ok (.aload_n 0, 1) := by decide +kernel
theorem d_Mod_fresh_1 : decode b_Mod_fresh 1 = .ok (.getfield 190, 3) := by decide +kernel
theorem d_Mod_fresh_4 : decode b_Mod_fresh 4 = .ok (.aload_n 0, 1) := by decide +kernel
theorem d_Mod_fresh_5 : decode b_Mod_fresh 5 = .ok (.getfield 186, 3) := by decide +kernel
theorem d_Mod_fresh_8 : decode b_Mod_fresh 8 = .ok (.iload_n 1, 1) := by decide +kernel
theorem d_Mod_fresh_9 : decode b_Mod_fresh 9 = .ok (.iastore, 1) := by decide +kernel
theorem d_Mod_fresh_10 : decode b_Mod_fresh 10 = .ok (.aload_n 0, 1) := by decide +kernel
theorem d_Mod_fresh_11 : decode b_Mod_fresh 11 = .ok (.aload_n 0, 1) := by decide +kernel
theorem d_Mod_fresh_12 : decode b_Mod_fresh 12 = .ok (.dup, 1) := by decide +kernel
theorem d_Mod_fresh_13 : decode b_Mod_fresh 13 = .ok (.getfield 186, 3) := by decide +kernel
theorem d_Mod_fresh_16 : decode b_Mod_fresh 16 = .ok (.dup_x1, 1) := by decide +kernel
theorem d_Mod_fresh_17 : decode b_Mod_fresh 17 = .ok (.iconst 1, 1) := by decide +kernel
theorem d_Mod_fresh_18 : decode b_Mod_fresh 18 = .ok (.iadd, 1) := by decide +kernel
theorem d_Mod_fresh_19 : decode b_Mod_fresh 19 = .ok (.putfield 186, 3) := by decide +kernel
theorem d_Mod_fresh_22 : decode b_Mod_fresh 22 = .ok (.invokevirtual 353, 3) := by decide +kernel
theorem d_Mod_fresh_25 : decode b_Mod_fresh 25 = .ok (.ireturn, 1) := by decide +kernel
theorem d_Mod_open_0 : decode b_Mod_open 0 = .ok (.aload_n 0, 1) := by decide +kernel
theorem d_Mod_open_1 : decode b_Mod_open 1 = .ok (.aload_n 0, 1) := by decide +kernel
theorem d_Mod_open_2 : decode b_Mod_open 2 = .ok (.iload_n 1, 1) := by decide +kernel
theorem d_Mod_open_3 : decode b_Mod_open 3 = .ok (.iload_n 2, 1) := by decide +kernel
theorem d_Mod_open_4 : decode b_Mod_open 4 = .ok (.invokevirtual 431, 3) := by decide +kernel
theorem d_Mod_open_7 : decode b_Mod_open 7 = .ok (.invokevirtual 402, 3) := by decide +kernel
theorem d_Mod_open_10 : decode b_Mod_open 10 = .ok (.istore_n 3, 1) := by decide +kernel
theorem d_Mod_open_11 : decode b_Mod_open 11 = .ok (.aload_n 0, 1) := by decide +kernel
theorem d_Mod_open_12 : decode b_Mod_open 12 = .ok (.aload_n 0, 1) := by decide +kernel
theorem d_Mod_open_13 : decode b_Mod_open 13 = .ok (.getfield 68, 3) := by decide +kernel
theorem d_Mod_open_16 : decode b_Mod_open 16 = .ok (.iload_n 3, 1) := by decide +kernel
theorem d_Mod_open_17 : decode b_Mod_open 17 = .ok (.iaload, 1) := by decide +kernel
theorem d_Mod_open_18 : decode b_Mod_open 18 = .ok (.invokevirtual 434, 3) := by decide +kernel
theorem d_Mod_open_21 : decode b_Mod_open 21 = .ok (.iload_n 3, 1) := by decide +kernel
theorem d_Mod_open_22 : decode b_Mod_open 22 = .ok (.ireturn, 1) := by decide +kernel
theorem d_Mod_back_0 : decode b_Mod_back 0 = .ok (.aload_n 0, 1) := by decide +kernel
theorem d_Mod_back_1 : decode b_Mod_back 1 = .ok (.iconst 2, 1) := by decide +kernel
theorem d_Mod_back_2 : decode b_Mod_back 2 = .ok (.iload_n 1, 1) := by decide +kernel
theorem d_Mod_back_3 : decode b_Mod_back 3 = .ok (.iconst 0, 1) := by decide +kernel
theorem d_Mod_back_4 : decode b_Mod_back 4 = .ok (.iload_n 2, 1) := by decide +kernel
theorem d_Mod_back_5 : decode b_Mod_back 5 = .ok (.iconst 0, 1) := by decide +kernel
theorem d_Mod_back_6 : decode b_Mod_back 6 = .ok (.invokevirtual 359, 3) := by decide +kernel
theorem d_Mod_back_9 : decode b_Mod_back 9 = .ok (.ireturn, 1) := by decide +kernel
theorem d_Mod_close_0 : decode b_Mod_close 0 = .ok (.aload_n 0, 1) := by decide +kernel
theorem d_Mod_close_1 : decode b_Mod_close 1 = .ok (.aload_n 0, 1) := by decide +kernel
theorem d_Mod_close_2 : decode b_Mod_close 2 = .ok (.iload_n 1, 1) := by decide +kernel
theorem d_Mod_close_3 : decode b_Mod_close 3 = .ok (.iload_n 2, 1) := by decide +kernel
theorem d_Mod_close_4 : decode b_Mod_close 4 = .ok (.invokevirtual 437, 3) := by decide +kernel
theorem d_Mod_close_7 : decode b_Mod_close 7 = .ok (.invokevirtual 402, 3) := by decide +kernel
theorem d_Mod_close_10 : decode b_Mod_close 10 = .ok (.istore_n 3, 1) := by decide +kernel
theorem d_Mod_close_11 : decode b_Mod_close 11 = .ok (.aload_n 0, 1) := by decide +kernel
theorem d_Mod_close_12 : decode b_Mod_close 12 = .ok (.aload_n 0, 1) := by decide +kernel
theorem d_Mod_close_13 : decode b_Mod_close 13 = .ok (.getfield 68, 3) := by decide +kernel
theorem d_Mod_close_16 : decode b_Mod_close 16 = .ok (.iload_n 3, 1) := by decide +kernel
theorem d_Mod_close_17 : decode b_Mod_close 17 = .ok (.iaload, 1) := by decide +kernel
theorem d_Mod_close_18 : decode b_Mod_close 18 = .ok (.invokevirtual 434, 3) := by decide +kernel
theorem d_Mod_close_21 : decode b_Mod_close 21 = .ok (.iload_n 3, 1) := by decide +kernel
theorem d_Mod_close_22 : decode b_Mod_close 22 = .ok (.ireturn, 1) := by decide +kernel
