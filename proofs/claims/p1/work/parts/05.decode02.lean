theorem d_Ker_count_0 : decode b_Ker_count 0 = .ok (.iload_n 1, 1) := by decide +kernel
theorem d_Ker_count_1 : decode b_Ker_count 1 = .ok (.tableswitch 81 0 5 #[39, 47, 52, 57, 65, 73], 39) := by decide +kernel
theorem d_Ker_count_40 : decode b_Ker_count 40 = .ok (.aload_n 0, 1) := by decide +kernel
theorem d_Ker_count_41 : decode b_Ker_count 41 = .ok (.getfield 41, 3) := by decide +kernel
theorem d_Ker_count_44 : decode b_Ker_count 44 = .ok (.invokevirtual 133, 3) := by decide +kernel
theorem d_Ker_count_47 : decode b_Ker_count 47 = .ok (.ireturn, 1) := by decide +kernel
theorem d_Ker_count_48 : decode b_Ker_count 48 = .ok (.aload_n 0, 1) := by decide +kernel
theorem d_Ker_count_49 : decode b_Ker_count 49 = .ok (.getfield 161, 3) := by decide +kernel
theorem d_Ker_count_52 : decode b_Ker_count 52 = .ok (.ireturn, 1) := by decide +kernel
theorem d_Ker_count_53 : decode b_Ker_count 53 = .ok (.aload_n 0, 1) := by decide +kernel
theorem d_Ker_count_54 : decode b_Ker_count 54 = .ok (.getfield 167, 3) := by decide +kernel
theorem d_Ker_count_57 : decode b_Ker_count 57 = .ok (.ireturn, 1) := by decide +kernel
theorem d_Ker_count_58 : decode b_Ker_count 58 = .ok (.aload_n 0, 1) := by decide +kernel
theorem d_Ker_count_59 : decode b_Ker_count 59 = .ok (.getfield 41, 3) := by decide +kernel
theorem d_Ker_count_62 : decode b_Ker_count 62 = .ok (.invokevirtual 315, 3) := by decide +kernel
theorem d_Ker_count_65 : decode b_Ker_count 65 = .ok (.ireturn, 1) := by decide +kernel
theorem d_Ker_count_66 : decode b_Ker_count 66 = .ok (.aload_n 0, 1) := by decide +kernel
theorem d_Ker_count_67 : decode b_Ker_count 67 = .ok (.getfield 15, 3) := by decide +kernel
theorem d_Ker_count_70 : decode b_Ker_count 70 = .ok (.invokevirtual 104, 3) := by decide +kernel
theorem d_Ker_count_73 : decode b_Ker_count 73 = .ok (.ireturn, 1) := by decide +kernel
theorem d_Ker_count_74 : decode b_Ker_count 74 = .ok (.aload_n 0, 1) := by decide +kernel
theorem d_Ker_count_75 : decode b_Ker_count 75 = .ok (.getfield 19, 3) := by decide +kernel
theorem d_Ker_count_78 : decode b_Ker_count 78 = .ok (.invokevirtual 104, 3) := by decide +kernel
theorem d_Ker_count_81 : decode b_Ker_count 81 = .ok (.ireturn, 1) := by decide +kernel
theorem d_Ker_count_82 : decode b_Ker_count 82 = .ok (.iconst (-1), 1) := by decide +kernel
theorem d_Ker_count_83 : decode b_Ker_count 83 = .ok (.ireturn, 1) := by decide +kernel
theorem d_Ker_end_0 : decode b_Ker_end 0 = .ok (.iload_n 1, 1) := by decide +kernel
theorem d_Ker_end_1 : decode b_Ker_end 1 = .ok (.ifCond .lt 14, 3) := by decide +kernel
theorem d_Ker_end_4 : decode b_Ker_end 4 = .ok (.iload_n 1, 1) := by decide +kernel
theorem d_Ker_end_5 : decode b_Ker_end 5 = .ok (.aload_n 0, 1) := by decide +kernel
theorem d_Ker_end_6 : decode b_Ker_end 6 = .ok (.getfield 15, 3) := by decide +kernel
theorem d_Ker_end_9 : decode b_Ker_end 9 = .ok (.invokevirtual 104, 3) := by decide +kernel
theorem d_Ker_end_12 : decode b_Ker_end 12 = .ok (.if_icmp .le 11, 3) := by decide +kernel
theorem d_Ker_end_15 : decode b_Ker_end 15 = .ok (.new 118, 3) := by decide +kernel
theorem d_Ker_end_18 : decode b_Ker_end 18 = .ok (.dup, 1) := by decide +kernel
theorem d_Ker_end_19 : decode b_Ker_end 19 = .ok (.invokespecial 120, 3) := by decide +kernel
theorem d_Ker_end_22 : decode b_Ker_end 22 = .ok (.athrow, 1) := by decide +kernel
theorem d_Ker_end_23 : decode b_Ker_end 23 = .ok (.aload_n 0, 1) := by decide +kernel
theorem d_Ker_end_24 : decode b_Ker_end 24 = .ok (.getfield 15, 3) := by decide +kernel
theorem d_Ker_end_27 : decode b_Ker_end 27 = .ok (.iload_n 1, 1) := by decide +kernel
theorem d_Ker_end_28 : decode b_Ker_end 28 = .ok (.invokevirtual 121, 3) := by decide +kernel
theorem d_Ker_end_31 : decode b_Ker_end 31 = .ok (.iload_n 1, 1) := by decide +kernel
theorem d_Ker_end_32 : decode b_Ker_end 32 = .ok (.ireturn, 1) := by decide +kernel
theorem d_Ker_fault_0 : decode b_Ker_fault 0 = .ok (.iload_n 1, 1) := by decide +kernel
theorem d_Ker_fault_1 : decode b_Ker_fault 1 = .ok (.ifCond .ne 11, 3) := by decide +kernel
theorem d_Ker_fault_4 : decode b_Ker_fault 4 = .ok (.aload_n 0, 1) := by decide +kernel
theorem d_Ker_fault_5 : decode b_Ker_fault 5 = .ok (.getfield 25, 3) := by decide +kernel
theorem d_Ker_fault_8 : decode b_Ker_fault 8 = .ok (.invokevirtual 327, 3) := by decide +kernel
theorem d_Ker_fault_11 : decode b_Ker_fault 11 = .ok (.ireturn, 1) := by decide +kernel
theorem d_Ker_fault_12 : decode b_Ker_fault 12 = .ok (.iload_n 1, 1) := by decide +kernel
theorem d_Ker_fault_13 : decode b_Ker_fault 13 = .ok (.iconst 1, 1) := by decide +kernel
theorem d_Ker_fault_14 : decode b_Ker_fault 14 = .ok (.if_icmp .ne 13, 3) := by decide +kernel
theorem d_Ker_fault_17 : decode b_Ker_fault 17 = .ok (.aload_n 0, 1) := by decide +kernel
theorem d_Ker_fault_18 : decode b_Ker_fault 18 = .ok (.getfield 25, 3) := by decide +kernel
theorem d_Ker_fault_21 : decode b_Ker_fault 21 = .ok (.invokevirtual 330, 3) := by decide +kernel
theorem d_Ker_fault_24 : decode b_Ker_fault 24 = .ok (.goto 4, 3) := by decide +kernel
theorem d_Ker_fault_27 : decode b_Ker_fault 27 = .ok (.iconst (-1), 1) := by decide +kernel
theorem d_Ker_fault_28 : decode b_Ker_fault 28 = .ok (.ireturn, 1) := by decide +kernel
theorem d_Ker_feed_0 : decode b_Ker_feed 0 = .ok (.aload_n 0, 1) := by decide +kernel
theorem d_Ker_feed_1 : decode b_Ker_feed 1 = .ok (.getfield 15, 3) := by decide +kernel
