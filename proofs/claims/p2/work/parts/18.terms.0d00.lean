theorem d_Terms_kind_0 : decode b_Terms_kind 0 = .ok (.iload_n 1, 1) := by decide +kernel
theorem d_Terms_kind_1 : decode b_Terms_kind 1 = .ok (.ifCond .lt 24, 3) := by decide +kernel
theorem d_Terms_kind_4 : decode b_Terms_kind 4 = .ok (.iload_n 1, 1) := by decide +kernel
theorem d_Terms_kind_5 : decode b_Terms_kind 5 = .ok (.aload_n 0, 1) := by decide +kernel
theorem d_Terms_kind_6 : decode b_Terms_kind 6 = .ok (.getfield 48, 3) := by decide +kernel
theorem d_Terms_kind_9 : decode b_Terms_kind 9 = .ok (.if_icmp .ge 16, 3) := by decide +kernel
theorem d_Terms_kind_12 : decode b_Terms_kind 12 = .ok (.aload_n 0, 1) := by decide +kernel
theorem d_Terms_kind_13 : decode b_Terms_kind 13 = .ok (.getfield 31, 3) := by decide +kernel
theorem d_Terms_kind_16 : decode b_Terms_kind 16 = .ok (.iload_n 1, 1) := by decide +kernel
theorem d_Terms_kind_17 : decode b_Terms_kind 17 = .ok (.laload, 1) := by decide +kernel
theorem d_Terms_kind_18 : decode b_Terms_kind 18 = .ok (.l2i, 1) := by decide +kernel
theorem d_Terms_kind_19 : decode b_Terms_kind 19 = .ok (.bipush 15, 2) := by decide +kernel
theorem d_Terms_kind_21 : decode b_Terms_kind 21 = .ok (.iand, 1) := by decide +kernel
theorem d_Terms_kind_22 : decode b_Terms_kind 22 = .ok (.goto 4, 3) := by decide +kernel
theorem d_Terms_kind_25 : decode b_Terms_kind 25 = .ok (.iconst 0, 1) := by decide +kernel
theorem d_Terms_kind_26 : decode b_Terms_kind 26 = .ok (.ireturn, 1) := by decide +kernel
theorem d_Terms_size_0 : decode b_Terms_size 0 = .ok (.iload_n 1, 1) := by decide +kernel
theorem d_Terms_size_1 : decode b_Terms_size 1 = .ok (.ifCond .lt 27, 3) := by decide +kernel
theorem d_Terms_size_4 : decode b_Terms_size 4 = .ok (.iload_n 1, 1) := by decide +kernel
theorem d_Terms_size_5 : decode b_Terms_size 5 = .ok (.aload_n 0, 1) := by decide +kernel
theorem d_Terms_size_6 : decode b_Terms_size 6 = .ok (.getfield 48, 3) := by decide +kernel
theorem d_Terms_size_9 : decode b_Terms_size 9 = .ok (.if_icmp .ge 19, 3) := by decide +kernel
theorem d_Terms_size_12 : decode b_Terms_size 12 = .ok (.aload_n 0, 1) := by decide +kernel
theorem d_Terms_size_13 : decode b_Terms_size 13 = .ok (.getfield 31, 3) := by decide +kernel
theorem d_Terms_size_16 : decode b_Terms_size 16 = .ok (.iload_n 1, 1) := by decide +kernel
theorem d_Terms_size_17 : decode b_Terms_size 17 = .ok (.laload, 1) := by decide +kernel
theorem d_Terms_size_18 : decode b_Terms_size 18 = .ok (.iconst 4, 1) := by decide +kernel
theorem d_Terms_size_19 : decode b_Terms_size 19 = .ok (.lushr, 1) := by decide +kernel
theorem d_Terms_size_20 : decode b_Terms_size 20 = .ok (.l2i, 1) := by decide +kernel
theorem d_Terms_size_21 : decode b_Terms_size 21 = .ok (.sipush 8191, 3) := by decide +kernel
theorem d_Terms_size_24 : decode b_Terms_size 24 = .ok (.iand, 1) := by decide +kernel
theorem d_Terms_size_25 : decode b_Terms_size 25 = .ok (.goto 4, 3) := by decide +kernel
theorem d_Terms_size_28 : decode b_Terms_size 28 = .ok (.iconst 0, 1) := by decide +kernel
theorem d_Terms_size_29 : decode b_Terms_size 29 = .ok (.ireturn, 1) := by decide +kernel
theorem d_Terms_depth_0 : decode b_Terms_depth 0 = .ok (.iload_n 1, 1) := by decide +kernel
theorem d_Terms_depth_1 : decode b_Terms_depth 1 = .ok (.ifCond .lt 28, 3) := by decide +kernel
theorem d_Terms_depth_4 : decode b_Terms_depth 4 = .ok (.iload_n 1, 1) := by decide +kernel
theorem d_Terms_depth_5 : decode b_Terms_depth 5 = .ok (.aload_n 0, 1) := by decide +kernel
theorem d_Terms_depth_6 : decode b_Terms_depth 6 = .ok (.getfield 48, 3) := by decide +kernel
theorem d_Terms_depth_9 : decode b_Terms_depth 9 = .ok (.if_icmp .ge 20, 3) := by decide +kernel
theorem d_Terms_depth_12 : decode b_Terms_depth 12 = .ok (.aload_n 0, 1) := by decide +kernel
theorem d_Terms_depth_13 : decode b_Terms_depth 13 = .ok (.getfield 31, 3) := by decide +kernel
theorem d_Terms_depth_16 : decode b_Terms_depth 16 = .ok (.iload_n 1, 1) := by decide +kernel
theorem d_Terms_depth_17 : decode b_Terms_depth 17 = .ok (.laload, 1) := by decide +kernel
theorem d_Terms_depth_18 : decode b_Terms_depth 18 = .ok (.bipush 17, 2) := by decide +kernel
theorem d_Terms_depth_20 : decode b_Terms_depth 20 = .ok (.lushr, 1) := by decide +kernel
theorem d_Terms_depth_21 : decode b_Terms_depth 21 = .ok (.l2i, 1) := by decide +kernel
theorem d_Terms_depth_22 : decode b_Terms_depth 22 = .ok (.sipush 511, 3) := by decide +kernel
theorem d_Terms_depth_25 : decode b_Terms_depth 25 = .ok (.iand, 1) := by decide +kernel
theorem d_Terms_depth_26 : decode b_Terms_depth 26 = .ok (.goto 4, 3) := by decide +kernel
theorem d_Terms_depth_29 : decode b_Terms_depth 29 = .ok (.iconst 0, 1) := by decide +kernel
theorem d_Terms_depth_30 : decode b_Terms_depth 30 = .ok (.ireturn, 1) := by decide +kernel
theorem d_Terms_loose_0 : decode b_Terms_loose 0 = .ok (.iload_n 1, 1) := by decide +kernel
theorem d_Terms_loose_1 : decode b_Terms_loose 1 = .ok (.ifCond .lt 28, 3) := by decide +kernel
theorem d_Terms_loose_4 : decode b_Terms_loose 4 = .ok (.iload_n 1, 1) := by decide +kernel
theorem d_Terms_loose_5 : decode b_Terms_loose 5 = .ok (.aload_n 0, 1) := by decide +kernel
theorem d_Terms_loose_6 : decode b_Terms_loose 6 = .ok (.getfield 48, 3) := by decide +kernel
theorem d_Terms_loose_9 : decode b_Terms_loose 9 = .ok (.if_icmp .ge 20, 3) := by decide +kernel
theorem d_Terms_loose_12 : decode b_Terms_loose 12 = .ok (.aload_n 0, 1) := by decide +kernel
theorem d_Terms_loose_13 : decode b_Terms_loose 13 = .ok (.getfield 31, 3) := by decide +kernel
