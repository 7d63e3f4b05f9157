theorem d_Mod_say_0_0 : decode b_Mod_say_0 0 = .ok (.aload_n 0, 1) := by decide +kernel
theorem d_Mod_say_0_1 : decode b_Mod_say_0 1 = .ok (.getfield 26, 3) := by decide +kernel
theorem d_Mod_say_0_4 : decode b_Mod_say_0 4 = .ok (.ldc 12, 2) := by decide +kernel
theorem d_Mod_say_0_6 : decode b_Mod_say_0 6 = .ok (.if_icmp .ge 21, 3) := by decide +kernel
theorem d_Mod_say_0_9 : decode b_Mod_say_0 9 = .ok (.aload_n 0, 1) := by decide +kernel
theorem d_Mod_say_0_10 : decode b_Mod_say_0 10 = .ok (.getfield 19, 3) := by decide +kernel
theorem d_Mod_say_0_13 : decode b_Mod_say_0 13 = .ok (.aload_n 0, 1) := by decide +kernel
theorem d_Mod_say_0_14 : decode b_Mod_say_0 14 = .ok (.dup, 1) := by decide +kernel
theorem d_Mod_say_0_15 : decode b_Mod_say_0 15 = .ok (.getfield 26, 3) := by decide +kernel
theorem d_Mod_say_0_18 : decode b_Mod_say_0 18 = .ok (.dup_x1, 1) := by decide +kernel
theorem d_Mod_say_0_19 : decode b_Mod_say_0 19 = .ok (.iconst 1, 1) := by decide +kernel
theorem d_Mod_say_0_20 : decode b_Mod_say_0 20 = .ok (.iadd, 1) := by decide +kernel
theorem d_Mod_say_0_21 : decode b_Mod_say_0 21 = .ok (.putfield 26, 3) := by decide +kernel
theorem d_Mod_say_0_24 : decode b_Mod_say_0 24 = .ok (.iload_n 1, 1) := by decide +kernel
theorem d_Mod_say_0_25 : decode b_Mod_say_0 25 = .ok (.i2b, 1) := by decide +kernel
theorem d_Mod_say_0_26 : decode b_Mod_say_0 26 = .ok (.bastore, 1) := by decide +kernel
theorem d_Mod_say_0_27 : decode b_Mod_say_0 27 = .ok (.return_, 1) := by decide +kernel
theorem d_Mod_say_2_0 : decode b_Mod_say_2 0 = .ok (.iconst 0, 1) := by decide +kernel
theorem d_Mod_say_2_1 : decode b_Mod_say_2 1 = .ok (.istore_n 2, 1) := by decide +kernel
theorem d_Mod_say_2_2 : decode b_Mod_say_2 2 = .ok (.iload_n 2, 1) := by decide +kernel
theorem d_Mod_say_2_3 : decode b_Mod_say_2 3 = .ok (.aload_n 1, 1) := by decide +kernel
theorem d_Mod_say_2_4 : decode b_Mod_say_2 4 = .ok (.invokevirtual 284, 3) := by decide +kernel
theorem d_Mod_say_2_7 : decode b_Mod_say_2 7 = .ok (.if_icmp .ge 18, 3) := by decide +kernel
theorem d_Mod_say_2_10 : decode b_Mod_say_2 10 = .ok (.aload_n 0, 1) := by decide +kernel
theorem d_Mod_say_2_11 : decode b_Mod_say_2 11 = .ok (.aload_n 1, 1) := by decide +kernel
theorem d_Mod_say_2_12 : decode b_Mod_say_2 12 = .ok (.iload_n 2, 1) := by decide +kernel
theorem d_Mod_say_2_13 : decode b_Mod_say_2 13 = .ok (.invokevirtual 289, 3) := by decide +kernel
theorem d_Mod_say_2_16 : decode b_Mod_say_2 16 = .ok (.invokevirtual 580, 3) := by decide +kernel
theorem d_Mod_say_2_19 : decode b_Mod_say_2 19 = .ok (.iinc 2 1, 3) := by decide +kernel
theorem d_Mod_say_2_22 : decode b_Mod_say_2 22 = .ok (.goto (-20), 3) := by decide +kernel
theorem d_Mod_say_2_25 : decode b_Mod_say_2 25 = .ok (.return_, 1) := by decide +kernel
