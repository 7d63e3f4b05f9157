theorem d_Mod_head_0 : decode b_Mod_head 0 = .ok (.iload_n 1, 1) := by decide +kernel
theorem d_Mod_head_1 : decode b_Mod_head 1 = .ok (.istore_n 2, 1) := by decide +kernel
theorem d_Mod_head_2 : decode b_Mod_head 2 = .ok (.aload_n 0, 1) := by decide +kernel
theorem d_Mod_head_3 : decode b_Mod_head 3 = .ok (.getfield 55, 3) := by decide +kernel
theorem d_Mod_head_6 : decode b_Mod_head 6 = .ok (.iload_n 2, 1) := by decide +kernel
theorem d_Mod_head_7 : decode b_Mod_head 7 = .ok (.baload, 1) := by decide +kernel
theorem d_Mod_head_8 : decode b_Mod_head 8 = .ok (.bipush 8, 2) := by decide +kernel
theorem d_Mod_head_10 : decode b_Mod_head 10 = .ok (.if_icmp .ne 13, 3) := by decide +kernel
theorem d_Mod_head_13 : decode b_Mod_head 13 = .ok (.aload_n 0, 1) := by decide +kernel
theorem d_Mod_head_14 : decode b_Mod_head 14 = .ok (.getfield 58, 3) := by decide +kernel
theorem d_Mod_head_17 : decode b_Mod_head 17 = .ok (.iload_n 2, 1) := by decide +kernel
theorem d_Mod_head_18 : decode b_Mod_head 18 = .ok (.iaload, 1) := by decide +kernel
theorem d_Mod_head_19 : decode b_Mod_head 19 = .ok (.istore_n 2, 1) := by decide +kernel
theorem d_Mod_head_20 : decode b_Mod_head 20 = .ok (.goto (-18), 3) := by decide +kernel
theorem d_Mod_head_23 : decode b_Mod_head 23 = .ok (.iload_n 2, 1) := by decide +kernel
theorem d_Mod_head_24 : decode b_Mod_head 24 = .ok (.ireturn, 1) := by decide +kernel
theorem d_Mod_behind_0 : decode b_Mod_behind 0 = .ok (.iconst 0, 1) := by decide +kernel
theorem d_Mod_behind_1 : decode b_Mod_behind 1 = .ok (.istore_n 2, 1) := by decide +kernel
theorem d_Mod_behind_2 : decode b_Mod_behind 2 = .ok (.iload_n 1, 1) := by decide +kernel
theorem d_Mod_behind_3 : decode b_Mod_behind 3 = .ok (.istore_n 3, 1) := by decide +kernel
theorem d_Mod_behind_4 : decode b_Mod_behind 4 = .ok (.aload_n 0, 1) := by decide +kernel
theorem d_Mod_behind_5 : decode b_Mod_behind 5 = .ok (.getfield 55, 3) := by decide +kernel
theorem d_Mod_behind_8 : decode b_Mod_behind 8 = .ok (.iload_n 3, 1) := by decide +kernel
theorem d_Mod_behind_9 : decode b_Mod_behind 9 = .ok (.baload, 1) := by decide +kernel
theorem d_Mod_behind_10 : decode b_Mod_behind 10 = .ok (.bipush 8, 2) := by decide +kernel
theorem d_Mod_behind_12 : decode b_Mod_behind 12 = .ok (.if_icmp .ne 16, 3) := by decide +kernel
theorem d_Mod_behind_15 : decode b_Mod_behind 15 = .ok (.iinc 2 1, 3) := by decide +kernel
theorem d_Mod_behind_18 : decode b_Mod_behind 18 = .ok (.aload_n 0, 1) := by decide +kernel
theorem d_Mod_behind_19 : decode b_Mod_behind 19 = .ok (.getfield 58, 3) := by decide +kernel
theorem d_Mod_behind_22 : decode b_Mod_behind 22 = .ok (.iload_n 3, 1) := by decide +kernel
theorem d_Mod_behind_23 : decode b_Mod_behind 23 = .ok (.iaload, 1) := by decide +kernel
theorem d_Mod_behind_24 : decode b_Mod_behind 24 = .ok (.istore_n 3, 1) := by decide +kernel
theorem d_Mod_behind_25 : decode b_Mod_behind 25 = .ok (.goto (-21), 3) := by decide +kernel
theorem d_Mod_behind_28 : decode b_Mod_behind 28 = .ok (.iload_n 2, 1) := by decide +kernel
theorem d_Mod_behind_29 : decode b_Mod_behind 29 = .ok (.ireturn, 1) := by decide +kernel
