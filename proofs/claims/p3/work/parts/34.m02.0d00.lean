theorem d_Mod_nth_0 : decode b_Mod_nth 0 = .ok (.iload_n 1, 1) := by decide +kernel
theorem d_Mod_nth_1 : decode b_Mod_nth 1 = .ok (.istore 4, 2) := by decide +kernel
theorem d_Mod_nth_3 : decode b_Mod_nth 3 = .ok (.iload_n 2, 1) := by decide +kernel
theorem d_Mod_nth_4 : decode b_Mod_nth 4 = .ok (.iconst 1, 1) := by decide +kernel
theorem d_Mod_nth_5 : decode b_Mod_nth 5 = .ok (.isub, 1) := by decide +kernel
theorem d_Mod_nth_6 : decode b_Mod_nth 6 = .ok (.istore 5, 2) := by decide +kernel
theorem d_Mod_nth_8 : decode b_Mod_nth 8 = .ok (.iload 5, 2) := by decide +kernel
theorem d_Mod_nth_10 : decode b_Mod_nth 10 = .ok (.iload_n 3, 1) := by decide +kernel
theorem d_Mod_nth_11 : decode b_Mod_nth 11 = .ok (.if_icmp .le 18, 3) := by decide +kernel
theorem d_Mod_nth_14 : decode b_Mod_nth 14 = .ok (.aload_n 0, 1) := by decide +kernel
theorem d_Mod_nth_15 : decode b_Mod_nth 15 = .ok (.getfield 58, 3) := by decide +kernel
theorem d_Mod_nth_18 : decode b_Mod_nth 18 = .ok (.iload 4, 2) := by decide +kernel
theorem d_Mod_nth_20 : decode b_Mod_nth 20 = .ok (.iaload, 1) := by decide +kernel
theorem d_Mod_nth_21 : decode b_Mod_nth 21 = .ok (.istore 4, 2) := by decide +kernel
theorem d_Mod_nth_23 : decode b_Mod_nth 23 = .ok (.iinc 5 (-1), 3) := by decide +kernel
theorem d_Mod_nth_26 : decode b_Mod_nth 26 = .ok (.goto (-18), 3) := by decide +kernel
theorem d_Mod_nth_29 : decode b_Mod_nth 29 = .ok (.aload_n 0, 1) := by decide +kernel
theorem d_Mod_nth_30 : decode b_Mod_nth 30 = .ok (.getfield 62, 3) := by decide +kernel
theorem d_Mod_nth_33 : decode b_Mod_nth 33 = .ok (.iload 4, 2) := by decide +kernel
theorem d_Mod_nth_35 : decode b_Mod_nth 35 = .ok (.iaload, 1) := by decide +kernel
theorem d_Mod_nth_36 : decode b_Mod_nth 36 = .ok (.ireturn, 1) := by decide +kernel
theorem d_Mod_costs_0 : decode b_Mod_costs 0 = .ok (.aload_n 0, 1) := by decide +kernel
theorem d_Mod_costs_1 : decode b_Mod_costs 1 = .ok (.dup, 1) := by decide +kernel
theorem d_Mod_costs_2 : decode b_Mod_costs 2 = .ok (.getfield 183, 3) := by decide +kernel
theorem d_Mod_costs_5 : decode b_Mod_costs 5 = .ok (.iload_n 1, 1) := by decide +kernel
theorem d_Mod_costs_6 : decode b_Mod_costs 6 = .ok (.iadd, 1) := by decide +kernel
theorem d_Mod_costs_7 : decode b_Mod_costs 7 = .ok (.putfield 183, 3) := by decide +kernel
theorem d_Mod_costs_10 : decode b_Mod_costs 10 = .ok (.aload_n 0, 1) := by decide +kernel
theorem d_Mod_costs_11 : decode b_Mod_costs 11 = .ok (.getfield 183, 3) := by decide +kernel
theorem d_Mod_costs_14 : decode b_Mod_costs 14 = .ok (.ldc_w 427, 3) := by decide +kernel
theorem d_Mod_costs_17 : decode b_Mod_costs 17 = .ok (.if_icmp .le 9, 3) := by decide +kernel
theorem d_Mod_costs_20 : decode b_Mod_costs 20 = .ok (.bipush 10, 2) := by decide +kernel
theorem d_Mod_costs_22 : decode b_Mod_costs 22 = .ok (.invokestatic 323, 3) := by decide +kernel
theorem d_Mod_costs_25 : decode b_Mod_costs 25 = .ok (.athrow, 1) := by decide +kernel
theorem d_Mod_costs_26 : decode b_Mod_costs 26 = .ok (.return_, 1) := by decide +kernel
