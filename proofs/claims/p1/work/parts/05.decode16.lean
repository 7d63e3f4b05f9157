theorem d_Mod_end_30 : decode b_Mod_end 30 = .ok (.iconst 0, 1) := by decide +kernel
theorem d_Mod_end_31 : decode b_Mod_end 31 = .ok (.ireturn, 1) := by decide +kernel
theorem d_Mod_end_32 : decode b_Mod_end 32 = .ok (.aload_n 0, 1) := by decide +kernel
theorem d_Mod_end_33 : decode b_Mod_end 33 = .ok (.iload_n 1, 1) := by decide +kernel
theorem d_Mod_end_34 : decode b_Mod_end 34 = .ok (.putfield 22, 3) := by decide +kernel
theorem d_Mod_end_37 : decode b_Mod_end 37 = .ok (.iload_n 1, 1) := by decide +kernel
theorem d_Mod_end_38 : decode b_Mod_end 38 = .ok (.ireturn, 1) := by decide +kernel
theorem d_Mod_fault_0 : decode b_Mod_fault 0 = .ok (.aload_n 0, 1) := by decide +kernel
theorem d_Mod_fault_1 : decode b_Mod_fault 1 = .ok (.iconst 0, 1) := by decide +kernel
theorem d_Mod_fault_2 : decode b_Mod_fault 2 = .ok (.putfield 29, 3) := by decide +kernel
theorem d_Mod_fault_5 : decode b_Mod_fault 5 = .ok (.iload_n 1, 1) := by decide +kernel
theorem d_Mod_fault_6 : decode b_Mod_fault 6 = .ok (.ifCond .ne 10, 3) := by decide +kernel
theorem d_Mod_fault_9 : decode b_Mod_fault 9 = .ok (.aload_n 0, 1) := by decide +kernel
theorem d_Mod_fault_10 : decode b_Mod_fault 10 = .ok (.getfield 32, 3) := by decide +kernel
theorem d_Mod_fault_13 : decode b_Mod_fault 13 = .ok (.goto 16, 3) := by decide +kernel
theorem d_Mod_fault_16 : decode b_Mod_fault 16 = .ok (.iload_n 1, 1) := by decide +kernel
theorem d_Mod_fault_17 : decode b_Mod_fault 17 = .ok (.iconst 1, 1) := by decide +kernel
theorem d_Mod_fault_18 : decode b_Mod_fault 18 = .ok (.if_icmp .ne 10, 3) := by decide +kernel
theorem d_Mod_fault_21 : decode b_Mod_fault 21 = .ok (.aload_n 0, 1) := by decide +kernel
theorem d_Mod_fault_22 : decode b_Mod_fault 22 = .ok (.getfield 35, 3) := by decide +kernel
theorem d_Mod_fault_25 : decode b_Mod_fault 25 = .ok (.goto 4, 3) := by decide +kernel
theorem d_Mod_fault_28 : decode b_Mod_fault 28 = .ok (.iconst (-1), 1) := by decide +kernel
theorem d_Mod_fault_29 : decode b_Mod_fault 29 = .ok (.ireturn, 1) := by decide +kernel
theorem d_Mod_feed_0 : decode b_Mod_feed 0 = .ok (.aload_n 0, 1) := by decide +kernel
theorem d_Mod_feed_1 : decode b_Mod_feed 1 = .ok (.iconst 0, 1) := by decide +kernel
theorem d_Mod_feed_2 : decode b_Mod_feed 2 = .ok (.putfield 29, 3) := by decide +kernel
theorem d_Mod_feed_5 : decode b_Mod_feed 5 = .ok (.aload_n 0, 1) := by decide +kernel
theorem d_Mod_feed_6 : decode b_Mod_feed 6 = .ok (.iconst 1, 1) := by decide +kernel
theorem d_Mod_feed_7 : decode b_Mod_feed 7 = .ok (.aload_n 0, 1) := by decide +kernel
theorem d_Mod_feed_8 : decode b_Mod_feed 8 = .ok (.getfield 22, 3) := by decide +kernel
theorem d_Mod_feed_11 : decode b_Mod_feed 11 = .ok (.ldc 250, 2) := by decide +kernel
theorem d_Mod_feed_13 : decode b_Mod_feed 13 = .ok (.if_icmp .le 7, 3) := by decide +kernel
theorem d_Mod_feed_20 : decode b_Mod_feed 20 = .ok (.iconst 0, 1) := by decide +kernel
theorem d_Mod_feed_21 : decode b_Mod_feed 21 = .ok (.invokevirtual 251, 3) := by decide +kernel
theorem d_Mod_feed_24 : decode b_Mod_feed 24 = .ok (.ifCond .eq 5, 3) := by decide +kernel
theorem d_Mod_feed_29 : decode b_Mod_feed 29 = .ok (.iconst 0, 1) := by decide +kernel
theorem d_Mod_feed_30 : decode b_Mod_feed 30 = .ok (.istore 6, 2) := by decide +kernel
theorem d_Mod_feed_32 : decode b_Mod_feed 32 = .ok (.iload 6, 2) := by decide +kernel
theorem d_Mod_feed_34 : decode b_Mod_feed 34 = .ok (.bipush 20, 2) := by decide +kernel
theorem d_Mod_feed_36 : decode b_Mod_feed 36 = .ok (.if_icmp .ge 87, 3) := by decide +kernel
theorem d_Mod_feed_39 : decode b_Mod_feed 39 = .ok (.iload 6, 2) := by decide +kernel
theorem d_Mod_feed_41 : decode b_Mod_feed 41 = .ok (.iconst 4, 1) := by decide +kernel
theorem d_Mod_feed_42 : decode b_Mod_feed 42 = .ok (.if_icmp .ge 7, 3) := by decide +kernel
theorem d_Mod_feed_45 : decode b_Mod_feed 45 = .ok (.iload_n 1, 1) := by decide +kernel
theorem d_Mod_feed_46 : decode b_Mod_feed 46 = .ok (.goto 39, 3) := by decide +kernel
theorem d_Mod_feed_49 : decode b_Mod_feed 49 = .ok (.iload 6, 2) := by decide +kernel
theorem d_Mod_feed_51 : decode b_Mod_feed 51 = .ok (.bipush 8, 2) := by decide +kernel
theorem d_Mod_feed_53 : decode b_Mod_feed 53 = .ok (.if_icmp .ge 7, 3) := by decide +kernel
theorem d_Mod_feed_56 : decode b_Mod_feed 56 = .ok (.iload_n 2, 1) := by decide +kernel
theorem d_Mod_feed_57 : decode b_Mod_feed 57 = .ok (.goto 28, 3) := by decide +kernel
theorem d_Mod_feed_60 : decode b_Mod_feed 60 = .ok (.iload 6, 2) := by decide +kernel
theorem d_Mod_feed_62 : decode b_Mod_feed 62 = .ok (.bipush 12, 2) := by decide +kernel
theorem d_Mod_feed_64 : decode b_Mod_feed 64 = .ok (.if_icmp .ge 7, 3) := by decide +kernel
theorem d_Mod_feed_67 : decode b_Mod_feed 67 = .ok (.iload_n 3, 1) := by decide +kernel
theorem d_Mod_feed_68 : decode b_Mod_feed 68 = .ok (.goto 17, 3) := by decide +kernel
theorem d_Mod_feed_71 : decode b_Mod_feed 71 = .ok (.iload 6, 2) := by decide +kernel
theorem d_Mod_feed_73 : decode b_Mod_feed 73 = .ok (.bipush 16, 2) := by decide +kernel
theorem d_Mod_feed_75 : decode b_Mod_feed 75 = .ok (.if_icmp .ge 8, 3) := by decide +kernel
theorem d_Mod_feed_78 : decode b_Mod_feed 78 = .ok (.iload 4, 2) := by decide +kernel
theorem d_Mod_feed_80 : decode b_Mod_feed 80 = .ok (.goto 5, 3) := by decide +kernel
