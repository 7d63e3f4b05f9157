theorem d_Mod_under_0 : decode b_Mod_under 0 = .ok (.aload_n 0, 1) := by decide +kernel
theorem d_Mod_under_1 : decode b_Mod_under 1 = .ok (.iconst 3, 1) := by decide +kernel
theorem d_Mod_under_2 : decode b_Mod_under 2 = .ok (.iload_n 1, 1) := by decide +kernel
theorem d_Mod_under_3 : decode b_Mod_under 3 = .ok (.iconst 0, 1) := by decide +kernel
theorem d_Mod_under_4 : decode b_Mod_under 4 = .ok (.iload_n 2, 1) := by decide +kernel
theorem d_Mod_under_5 : decode b_Mod_under 5 = .ok (.iload_n 3, 1) := by decide +kernel
theorem d_Mod_under_6 : decode b_Mod_under 6 = .ok (.invokevirtual 359, 3) := by decide +kernel
theorem d_Mod_under_9 : decode b_Mod_under 9 = .ok (.ireturn, 1) := by decide +kernel
theorem d_Mod_chain_0 : decode b_Mod_chain 0 = .ok (.aload_n 0, 1) := by decide +kernel
theorem d_Mod_chain_1 : decode b_Mod_chain 1 = .ok (.iload_n 3, 1) := by decide +kernel
theorem d_Mod_chain_2 : decode b_Mod_chain 2 = .ok (.iload_n 2, 1) := by decide +kernel
theorem d_Mod_chain_3 : decode b_Mod_chain 3 = .ok (.aload_n 0, 1) := by decide +kernel
theorem d_Mod_chain_4 : decode b_Mod_chain 4 = .ok (.getfield 238, 3) := by decide +kernel
theorem d_Mod_chain_7 : decode b_Mod_chain 7 = .ok (.invokevirtual 551, 3) := by decide +kernel
theorem d_Mod_chain_10 : decode b_Mod_chain 10 = .ok (.istore 4, 2) := by decide +kernel
theorem d_Mod_chain_12 : decode b_Mod_chain 12 = .ok (.aload_n 0, 1) := by decide +kernel
theorem d_Mod_chain_13 : decode b_Mod_chain 13 = .ok (.getfield 238, 3) := by decide +kernel
theorem d_Mod_chain_16 : decode b_Mod_chain 16 = .ok (.iconst 1, 1) := by decide +kernel
theorem d_Mod_chain_17 : decode b_Mod_chain 17 = .ok (.isub, 1) := by decide +kernel
theorem d_Mod_chain_18 : decode b_Mod_chain 18 = .ok (.istore 5, 2) := by decide +kernel
theorem d_Mod_chain_20 : decode b_Mod_chain 20 = .ok (.iload 5, 2) := by decide +kernel
theorem d_Mod_chain_22 : decode b_Mod_chain 22 = .ok (.iload_n 2, 1) := by decide +kernel
theorem d_Mod_chain_23 : decode b_Mod_chain 23 = .ok (.if_icmp .lt 57, 3) := by decide +kernel
theorem d_Mod_chain_26 : decode b_Mod_chain 26 = .ok (.aload_n 0, 1) := by decide +kernel
theorem d_Mod_chain_27 : decode b_Mod_chain 27 = .ok (.iload_n 1, 1) := by decide +kernel
theorem d_Mod_chain_28 : decode b_Mod_chain 28 = .ok (.aload_n 0, 1) := by decide +kernel
theorem d_Mod_chain_29 : decode b_Mod_chain 29 = .ok (.aload_n 0, 1) := by decide +kernel
theorem d_Mod_chain_30 : decode b_Mod_chain 30 = .ok (.getfield 190, 3) := by decide +kernel
theorem d_Mod_chain_33 : decode b_Mod_chain 33 = .ok (.aload_n 0, 1) := by decide +kernel
theorem d_Mod_chain_34 : decode b_Mod_chain 34 = .ok (.getfield 235, 3) := by decide +kernel
theorem d_Mod_chain_37 : decode b_Mod_chain 37 = .ok (.iload 5, 2) := by decide +kernel
theorem d_Mod_chain_39 : decode b_Mod_chain 39 = .ok (.iaload, 1) := by decide +kernel
theorem d_Mod_chain_40 : decode b_Mod_chain 40 = .ok (.iaload, 1) := by decide +kernel
theorem d_Mod_chain_41 : decode b_Mod_chain 41 = .ok (.iload_n 2, 1) := by decide +kernel
theorem d_Mod_chain_42 : decode b_Mod_chain 42 = .ok (.iload 5, 2) := by decide +kernel
theorem d_Mod_chain_44 : decode b_Mod_chain 44 = .ok (.invokevirtual 551, 3) := by decide +kernel
theorem d_Mod_chain_47 : decode b_Mod_chain 47 = .ok (.iload 4, 2) := by decide +kernel
theorem d_Mod_chain_49 : decode b_Mod_chain 49 = .ok (.iconst 0, 1) := by decide +kernel
theorem d_Mod_chain_50 : decode b_Mod_chain 50 = .ok (.invokevirtual 336, 3) := by decide +kernel
theorem d_Mod_chain_53 : decode b_Mod_chain 53 = .ok (.istore 4, 2) := by decide +kernel
theorem d_Mod_chain_55 : decode b_Mod_chain 55 = .ok (.aload_n 0, 1) := by decide +kernel
theorem d_Mod_chain_56 : decode b_Mod_chain 56 = .ok (.getfield 68, 3) := by decide +kernel
theorem d_Mod_chain_59 : decode b_Mod_chain 59 = .ok (.iload 4, 2) := by decide +kernel
theorem d_Mod_chain_61 : decode b_Mod_chain 61 = .ok (.iaload, 1) := by decide +kernel
theorem d_Mod_chain_62 : decode b_Mod_chain 62 = .ok (.ldc_w 554, 3) := by decide +kernel
theorem d_Mod_chain_65 : decode b_Mod_chain 65 = .ok (.if_icmp .le 9, 3) := by decide +kernel
theorem d_Mod_chain_68 : decode b_Mod_chain 68 = .ok (.bipush 10, 2) := by decide +kernel
theorem d_Mod_chain_70 : decode b_Mod_chain 70 = .ok (.invokestatic 323, 3) := by decide +kernel
theorem d_Mod_chain_73 : decode b_Mod_chain 73 = .ok (.athrow, 1) := by decide +kernel
theorem d_Mod_chain_74 : decode b_Mod_chain 74 = .ok (.iinc 5 (-1), 3) := by decide +kernel
theorem d_Mod_chain_77 : decode b_Mod_chain 77 = .ok (.goto (-57), 3) := by decide +kernel
theorem d_Mod_chain_80 : decode b_Mod_chain 80 = .ok (.aload_n 0, 1) := by decide +kernel
theorem d_Mod_chain_81 : decode b_Mod_chain 81 = .ok (.iload_n 2, 1) := by decide +kernel
theorem d_Mod_chain_82 : decode b_Mod_chain 82 = .ok (.putfield 238, 3) := by decide +kernel
theorem d_Mod_chain_85 : decode b_Mod_chain 85 = .ok (.iload 4, 2) := by decide +kernel
theorem d_Mod_chain_87 : decode b_Mod_chain 87 = .ok (.ireturn, 1) := by decide +kernel
theorem d_Mod_close_0 : decode b_Mod_close 0 = .ok (.aload_n 0, 1) := by decide +kernel
theorem d_Mod_close_1 : decode b_Mod_close 1 = .ok (.aload_n 0, 1) := by decide +kernel
theorem d_Mod_close_2 : decode b_Mod_close 2 = .ok (.iload_n 1, 1) := by decide +kernel
theorem d_Mod_close_3 : decode b_Mod_close 3 = .ok (.iload_n 2, 1) := by decide +kernel
theorem d_Mod_close_4 : decode b_Mod_close 4 = .ok (.invokevirtual 437, 3) := by decide +kernel
theorem d_Mod_close_7 : decode b_Mod_close 7 = .ok (.invokevirtual 402, 3) := by decide +kernel
theorem d_Mod_close_10 : decode b_Mod_close 10 = .ok (.istore_n 3, 1) := by decide +kernel
theorem d_Mod_close_11 : decode b_Mod_close 11 = .ok (.aload_n 0, 1) := by decide +kernel
theorem d_Mod_close_12 : decode b_Mod_close 12 = .ok (.aload_n 0, 1) := by decide +kernel
theorem d_Mod_close_13 : decode b_Mod_close 13 = .ok (.getfield 68, 3) := by decide +kernel
theorem d_Mod_close_16 : decode b_Mod_close 16 = .ok (.iload_n 3, 1) := by decide +kernel
theorem d_Mod_close_17 : decode b_Mod_close 17 = .ok (.iaload, 1) := by decide +kernel
theorem d_Mod_close_18 : decode b_Mod_close 18 = .ok (.invokevirtual 434, 3) := by decide +kernel
theorem d_Mod_close_21 : decode b_Mod_close 21 = .ok (.iload_n 3, 1) := by decide +kernel
theorem d_Mod_close_22 : decode b_Mod_close 22 = .ok (.ireturn, 1) := by decide +kernel
