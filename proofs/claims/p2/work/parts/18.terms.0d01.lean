theorem d_Terms_loose_16 : decode b_Terms_loose 16 = .ok (.iload_n 1, 1) := by decide +kernel
theorem d_Terms_loose_17 : decode b_Terms_loose 17 = .ok (.laload, 1) := by decide +kernel
theorem d_Terms_loose_18 : decode b_Terms_loose 18 = .ok (.bipush 26, 2) := by decide +kernel
theorem d_Terms_loose_20 : decode b_Terms_loose 20 = .ok (.lushr, 1) := by decide +kernel
theorem d_Terms_loose_21 : decode b_Terms_loose 21 = .ok (.l2i, 1) := by decide +kernel
theorem d_Terms_loose_22 : decode b_Terms_loose 22 = .ok (.sipush 8191, 3) := by decide +kernel
theorem d_Terms_loose_25 : decode b_Terms_loose 25 = .ok (.iand, 1) := by decide +kernel
theorem d_Terms_loose_26 : decode b_Terms_loose 26 = .ok (.goto 4, 3) := by decide +kernel
theorem d_Terms_loose_29 : decode b_Terms_loose 29 = .ok (.iconst 0, 1) := by decide +kernel
theorem d_Terms_loose_30 : decode b_Terms_loose 30 = .ok (.ireturn, 1) := by decide +kernel
theorem d_Terms_free_0 : decode b_Terms_free 0 = .ok (.iload_n 1, 1) := by decide +kernel
theorem d_Terms_free_1 : decode b_Terms_free 1 = .ok (.ifCond .lt 28, 3) := by decide +kernel
theorem d_Terms_free_4 : decode b_Terms_free 4 = .ok (.iload_n 1, 1) := by decide +kernel
theorem d_Terms_free_5 : decode b_Terms_free 5 = .ok (.aload_n 0, 1) := by decide +kernel
theorem d_Terms_free_6 : decode b_Terms_free 6 = .ok (.getfield 48, 3) := by decide +kernel
theorem d_Terms_free_9 : decode b_Terms_free 9 = .ok (.if_icmp .ge 20, 3) := by decide +kernel
theorem d_Terms_free_12 : decode b_Terms_free 12 = .ok (.aload_n 0, 1) := by decide +kernel
theorem d_Terms_free_13 : decode b_Terms_free 13 = .ok (.getfield 31, 3) := by decide +kernel
theorem d_Terms_free_16 : decode b_Terms_free 16 = .ok (.iload_n 1, 1) := by decide +kernel
theorem d_Terms_free_17 : decode b_Terms_free 17 = .ok (.laload, 1) := by decide +kernel
theorem d_Terms_free_18 : decode b_Terms_free 18 = .ok (.bipush 39, 2) := by decide +kernel
theorem d_Terms_free_20 : decode b_Terms_free 20 = .ok (.lushr, 1) := by decide +kernel
theorem d_Terms_free_21 : decode b_Terms_free 21 = .ok (.l2i, 1) := by decide +kernel
theorem d_Terms_free_22 : decode b_Terms_free 22 = .ok (.sipush 2047, 3) := by decide +kernel
theorem d_Terms_free_25 : decode b_Terms_free 25 = .ok (.iand, 1) := by decide +kernel
theorem d_Terms_free_26 : decode b_Terms_free 26 = .ok (.goto 4, 3) := by decide +kernel
theorem d_Terms_free_29 : decode b_Terms_free 29 = .ok (.iconst 0, 1) := by decide +kernel
theorem d_Terms_free_30 : decode b_Terms_free 30 = .ok (.ireturn, 1) := by decide +kernel
theorem d_Terms_left_0 : decode b_Terms_left 0 = .ok (.iload_n 1, 1) := by decide +kernel
theorem d_Terms_left_1 : decode b_Terms_left 1 = .ok (.ifCond .lt 20, 3) := by decide +kernel
theorem d_Terms_left_4 : decode b_Terms_left 4 = .ok (.iload_n 1, 1) := by decide +kernel
theorem d_Terms_left_5 : decode b_Terms_left 5 = .ok (.aload_n 0, 1) := by decide +kernel
theorem d_Terms_left_6 : decode b_Terms_left 6 = .ok (.getfield 48, 3) := by decide +kernel
theorem d_Terms_left_9 : decode b_Terms_left 9 = .ok (.if_icmp .ge 12, 3) := by decide +kernel
theorem d_Terms_left_12 : decode b_Terms_left 12 = .ok (.aload_n 0, 1) := by decide +kernel
theorem d_Terms_left_13 : decode b_Terms_left 13 = .ok (.getfield 35, 3) := by decide +kernel
theorem d_Terms_left_16 : decode b_Terms_left 16 = .ok (.iload_n 1, 1) := by decide +kernel
theorem d_Terms_left_17 : decode b_Terms_left 17 = .ok (.iaload, 1) := by decide +kernel
theorem d_Terms_left_18 : decode b_Terms_left 18 = .ok (.goto 4, 3) := by decide +kernel
theorem d_Terms_left_21 : decode b_Terms_left 21 = .ok (.iconst 0, 1) := by decide +kernel
theorem d_Terms_left_22 : decode b_Terms_left 22 = .ok (.ireturn, 1) := by decide +kernel
theorem d_Terms_right_0 : decode b_Terms_right 0 = .ok (.iload_n 1, 1) := by decide +kernel
theorem d_Terms_right_1 : decode b_Terms_right 1 = .ok (.ifCond .lt 20, 3) := by decide +kernel
theorem d_Terms_right_4 : decode b_Terms_right 4 = .ok (.iload_n 1, 1) := by decide +kernel
theorem d_Terms_right_5 : decode b_Terms_right 5 = .ok (.aload_n 0, 1) := by decide +kernel
theorem d_Terms_right_6 : decode b_Terms_right 6 = .ok (.getfield 48, 3) := by decide +kernel
theorem d_Terms_right_9 : decode b_Terms_right 9 = .ok (.if_icmp .ge 12, 3) := by decide +kernel
theorem d_Terms_right_12 : decode b_Terms_right 12 = .ok (.aload_n 0, 1) := by decide +kernel
theorem d_Terms_right_13 : decode b_Terms_right 13 = .ok (.getfield 39, 3) := by decide +kernel
theorem d_Terms_right_16 : decode b_Terms_right 16 = .ok (.iload_n 1, 1) := by decide +kernel
theorem d_Terms_right_17 : decode b_Terms_right 17 = .ok (.iaload, 1) := by decide +kernel
theorem d_Terms_right_18 : decode b_Terms_right 18 = .ok (.goto 4, 3) := by decide +kernel
theorem d_Terms_right_21 : decode b_Terms_right 21 = .ok (.iconst 0, 1) := by decide +kernel
theorem d_Terms_right_22 : decode b_Terms_right 22 = .ok (.ireturn, 1) := by decide +kernel
theorem d_Terms_length_0 : decode b_Terms_length 0 = .ok (.aload_n 0, 1) := by decide +kernel
theorem d_Terms_length_1 : decode b_Terms_length 1 = .ok (.getfield 48, 3) := by decide +kernel
theorem d_Terms_length_4 : decode b_Terms_length 4 = .ok (.ireturn, 1) := by decide +kernel
theorem d_Terms_binds_0 : decode b_Terms_binds 0 = .ok (.iload_n 0, 1) := by decide +kernel
theorem d_Terms_binds_1 : decode b_Terms_binds 1 = .ok (.bipush 6, 2) := by decide +kernel
theorem d_Terms_binds_3 : decode b_Terms_binds 3 = .ok (.if_icmp .eq 15, 3) := by decide +kernel
