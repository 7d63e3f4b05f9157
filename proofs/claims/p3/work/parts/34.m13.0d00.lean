theorem d_Mod_applied2_0 : decode b_Mod_applied2 0 = .ok (.aload_n 0, 1) := by decide +kernel
theorem d_Mod_applied2_1 : decode b_Mod_applied2 1 = .ok (.iload_n 1, 1) := by decide +kernel
theorem d_Mod_applied2_2 : decode b_Mod_applied2 2 = .ok (.invokevirtual 353, 3) := by decide +kernel
theorem d_Mod_applied2_5 : decode b_Mod_applied2 5 = .ok (.istore_n 2, 1) := by decide +kernel
theorem d_Mod_applied2_6 : decode b_Mod_applied2 6 = .ok (.aload_n 0, 1) := by decide +kernel
theorem d_Mod_applied2_7 : decode b_Mod_applied2 7 = .ok (.getfield 238, 3) := by decide +kernel
theorem d_Mod_applied2_10 : decode b_Mod_applied2 10 = .ok (.aload_n 0, 1) := by decide +kernel
theorem d_Mod_applied2_11 : decode b_Mod_applied2 11 = .ok (.getfield 247, 3) := by decide +kernel
theorem d_Mod_applied2_14 : decode b_Mod_applied2 14 = .ok (.isub, 1) := by decide +kernel
theorem d_Mod_applied2_15 : decode b_Mod_applied2 15 = .ok (.istore_n 3, 1) := by decide +kernel
theorem d_Mod_applied2_16 : decode b_Mod_applied2 16 = .ok (.iload_n 3, 1) := by decide +kernel
theorem d_Mod_applied2_17 : decode b_Mod_applied2 17 = .ok (.aload_n 0, 1) := by decide +kernel
theorem d_Mod_applied2_18 : decode b_Mod_applied2 18 = .ok (.getfield 238, 3) := by decide +kernel
theorem d_Mod_applied2_21 : decode b_Mod_applied2 21 = .ok (.if_icmp .ge 25, 3) := by decide +kernel
theorem d_Mod_applied2_24 : decode b_Mod_applied2 24 = .ok (.aload_n 0, 1) := by decide +kernel
theorem d_Mod_applied2_25 : decode b_Mod_applied2 25 = .ok (.iload_n 2, 1) := by decide +kernel
theorem d_Mod_applied2_26 : decode b_Mod_applied2 26 = .ok (.aload_n 0, 1) := by decide +kernel
theorem d_Mod_applied2_27 : decode b_Mod_applied2 27 = .ok (.aload_n 0, 1) := by decide +kernel
theorem d_Mod_applied2_28 : decode b_Mod_applied2 28 = .ok (.getfield 235, 3) := by decide +kernel
theorem d_Mod_applied2_31 : decode b_Mod_applied2 31 = .ok (.iload_n 3, 1) := by decide +kernel
theorem d_Mod_applied2_32 : decode b_Mod_applied2 32 = .ok (.iaload, 1) := by decide +kernel
theorem d_Mod_applied2_33 : decode b_Mod_applied2 33 = .ok (.invokevirtual 353, 3) := by decide +kernel
theorem d_Mod_applied2_36 : decode b_Mod_applied2 36 = .ok (.invokevirtual 350, 3) := by decide +kernel
theorem d_Mod_applied2_39 : decode b_Mod_applied2 39 = .ok (.istore_n 2, 1) := by decide +kernel
theorem d_Mod_applied2_40 : decode b_Mod_applied2 40 = .ok (.iinc 3 1, 3) := by decide +kernel
theorem d_Mod_applied2_43 : decode b_Mod_applied2 43 = .ok (.goto (-27), 3) := by decide +kernel
theorem d_Mod_applied2_46 : decode b_Mod_applied2 46 = .ok (.iload_n 2, 1) := by decide +kernel
theorem d_Mod_applied2_47 : decode b_Mod_applied2 47 = .ok (.ireturn, 1) := by decide +kernel
theorem d_Mod_back_0 : decode b_Mod_back 0 = .ok (.aload_n 0, 1) := by decide +kernel
theorem d_Mod_back_1 : decode b_Mod_back 1 = .ok (.iconst 2, 1) := by decide +kernel
theorem d_Mod_back_2 : decode b_Mod_back 2 = .ok (.iload_n 1, 1) := by decide +kernel
theorem d_Mod_back_3 : decode b_Mod_back 3 = .ok (.iconst 0, 1) := by decide +kernel
theorem d_Mod_back_4 : decode b_Mod_back 4 = .ok (.iload_n 2, 1) := by decide +kernel
theorem d_Mod_back_5 : decode b_Mod_back 5 = .ok (.iconst 0, 1) := by decide +kernel
theorem d_Mod_back_6 : decode b_Mod_back 6 = .ok (.invokevirtual 359, 3) := by decide +kernel
theorem d_Mod_back_9 : decode b_Mod_back 9 = .ok (.ireturn, 1) := by decide +kernel
theorem d_Mod_binds_0 : decode b_Mod_binds 0 = .ok (.aload_n 0, 1) := by decide +kernel
theorem d_Mod_binds_1 : decode b_Mod_binds 1 = .ok (.getfield 55, 3) := by decide +kernel
theorem d_Mod_binds_4 : decode b_Mod_binds 4 = .ok (.iload_n 1, 1) := by decide +kernel
theorem d_Mod_binds_5 : decode b_Mod_binds 5 = .ok (.baload, 1) := by decide +kernel
theorem d_Mod_binds_6 : decode b_Mod_binds 6 = .ok (.bipush 6, 2) := by decide +kernel
theorem d_Mod_binds_8 : decode b_Mod_binds 8 = .ok (.if_icmp .eq 25, 3) := by decide +kernel
theorem d_Mod_binds_11 : decode b_Mod_binds 11 = .ok (.aload_n 0, 1) := by decide +kernel
theorem d_Mod_binds_12 : decode b_Mod_binds 12 = .ok (.getfield 55, 3) := by decide +kernel
theorem d_Mod_binds_15 : decode b_Mod_binds 15 = .ok (.iload_n 1, 1) := by decide +kernel
theorem d_Mod_binds_16 : decode b_Mod_binds 16 = .ok (.baload, 1) := by decide +kernel
theorem d_Mod_binds_17 : decode b_Mod_binds 17 = .ok (.bipush 7, 2) := by decide +kernel
theorem d_Mod_binds_19 : decode b_Mod_binds 19 = .ok (.if_icmp .eq 14, 3) := by decide +kernel
theorem d_Mod_binds_22 : decode b_Mod_binds 22 = .ok (.aload_n 0, 1) := by decide +kernel
theorem d_Mod_binds_23 : decode b_Mod_binds 23 = .ok (.getfield 55, 3) := by decide +kernel
theorem d_Mod_binds_26 : decode b_Mod_binds 26 = .ok (.iload_n 1, 1) := by decide +kernel
theorem d_Mod_binds_27 : decode b_Mod_binds 27 = .ok (.baload, 1) := by decide +kernel
theorem d_Mod_binds_28 : decode b_Mod_binds 28 = .ok (.bipush 9, 2) := by decide +kernel
theorem d_Mod_binds_30 : decode b_Mod_binds 30 = .ok (.if_icmp .ne 7, 3) := by decide +kernel
theorem d_Mod_binds_33 : decode b_Mod_binds 33 = .ok (.iconst 1, 1) := by decide +kernel
theorem d_Mod_binds_34 : decode b_Mod_binds 34 = .ok (.goto 4, 3) := by decide +kernel
theorem d_Mod_binds_37 : decode b_Mod_binds 37 = .ok (.iconst 0, 1) := by decide +kernel
theorem d_Mod_binds_38 : decode b_Mod_binds 38 = .ok (.ireturn, 1) := by decide +kernel
