theorem d_Terms_kind_0 : decode b_Terms_kind 0 = .ok (.iload_n 1, 1) := by decide +kernel
theorem d_Terms_kind_1 : decode b_Terms_kind 1 = .ok (.ifCond .lt 24, 3) := by decide +kernel
theorem d_Terms_kind_4 : decode b_Terms_kind 4 = .ok (.iload_n 1, 1) := by decide +kernel
theorem d_Terms_kind_5 : decode b_Terms_kind 5 = .ok (.aload_n 0, 1) := by decide +kernel
theorem d_Terms_kind_6 : decode b_Terms_kind 6 = .ok (.getfield 48, 3) := by decide +kernel
theorem d_Terms_kind_9 : decode b_Terms_kind 9 = .ok (.if_icmp .ge 16, 3) := by decide +kernel
theorem d_Terms_kind_12 : decode b_Terms_kind 12 = .ok (.aload_n 0, 1) := by decide +kernel
theorem d_Terms_kind_13 : decode b_Terms_kind 13 = .ok (.getfield 31, 3) := by decide +kernel
theorem d_Terms_kind_16 : decode b_Terms_kind 16 = .ok (.iload_n 1, 1) := by decide +kernel
theorem d_Terms_kind_17 : decode b_Terms_kind 17 = .ok (.laload, 1) := by decide +kernel
theorem d_Terms_kind_18 : decode b_Terms_kind 18 = .ok (.l2i, 1) := by decide +kernel
theorem d_Terms_kind_19 : decode b_Terms_kind 19 = .ok (.bipush 15, 2) := by decide +kernel
theorem d_Terms_kind_21 : decode b_Terms_kind 21 = .ok (.iand, 1) := by decide +kernel
theorem d_Terms_kind_22 : decode b_Terms_kind 22 = .ok (.goto 4, 3) := by decide +kernel
theorem d_Terms_kind_25 : decode b_Terms_kind 25 = .ok (.iconst 0, 1) := by decide +kernel
theorem d_Terms_kind_26 : decode b_Terms_kind 26 = .ok (.ireturn, 1) := by decide +kernel
theorem d_Terms_size_0 : decode b_Terms_size 0 = .ok (.iload_n 1, 1) := by decide +kernel
theorem d_Terms_size_1 : decode b_Terms_size 1 = .ok (.ifCond .lt 27, 3) := by decide +kernel
theorem d_Terms_size_4 : decode b_Terms_size 4 = .ok (.iload_n 1, 1) := by decide +kernel
theorem d_Terms_size_5 : decode b_Terms_size 5 = .ok (.aload_n 0, 1) := by decide +kernel
theorem d_Terms_size_6 : decode b_Terms_size 6 = .ok (.getfield 48, 3) := by decide +kernel
theorem d_Terms_size_9 : decode b_Terms_size 9 = .ok (.if_icmp .ge 19, 3) := by decide +kernel
theorem d_Terms_size_12 : decode b_Terms_size 12 = .ok (.aload_n 0, 1) := by decide +kernel
theorem d_Terms_size_13 : decode b_Terms_size 13 = .ok (.getfield 31, 3) := by decide +kernel
theorem d_Terms_size_16 : decode b_Terms_size 16 = .ok (.iload_n 1, 1) := by decide +kernel
theorem d_Terms_size_17 : decode b_Terms_size 17 = .ok (.laload, 1) := by decide +kernel
theorem d_Terms_size_18 : decode b_Terms_size 18 = .ok (.iconst 4, 1) := by decide +kernel
theorem d_Terms_size_19 : decode b_Terms_size 19 = .ok (.lushr, 1) := by decide +kernel
theorem d_Terms_size_20 : decode b_Terms_size 20 = .ok (.l2i, 1) := by decide +kernel
theorem d_Terms_size_21 : decode b_Terms_size 21 = .ok (.sipush 8191, 3) := by decide +kernel
theorem d_Terms_size_24 : decode b_Terms_size 24 = .ok (.iand, 1) := by decide +kernel
theorem d_Terms_size_25 : decode b_Terms_size 25 = .ok (.goto 4, 3) := by decide +kernel
theorem d_Terms_size_28 : decode b_Terms_size 28 = .ok (.iconst 0, 1) := by decide +kernel
theorem d_Terms_size_29 : decode b_Terms_size 29 = .ok (.ireturn, 1) := by decide +kernel
theorem d_Terms_depth_0 : decode b_Terms_depth 0 = .ok (.iload_n 1, 1) := by decide +kernel
theorem d_Terms_depth_1 : decode b_Terms_depth 1 = .ok (.ifCond .lt 28, 3) := by decide +kernel
theorem d_Terms_depth_4 : decode b_Terms_depth 4 = .ok (.iload_n 1, 1) := by decide +kernel
theorem d_Terms_depth_5 : decode b_Terms_depth 5 = .ok (.aload_n 0, 1) := by decide +kernel
theorem d_Terms_depth_6 : decode b_Terms_depth 6 = .ok (.getfield 48, 3) := by decide +kernel
theorem d_Terms_depth_9 : decode b_Terms_depth 9 = .ok (.if_icmp .ge 20, 3) := by decide +kernel
theorem d_Terms_depth_12 : decode b_Terms_depth 12 = .ok (.aload_n 0, 1) := by decide +kernel
theorem d_Terms_depth_13 : decode b_Terms_depth 13 = .ok (.getfield 31, 3) := by decide +kernel
theorem d_Terms_depth_16 : decode b_Terms_depth 16 = .ok (.iload_n 1, 1) := by decide +kernel
theorem d_Terms_depth_17 : decode b_Terms_depth 17 = .ok (.laload, 1) := by decide +kernel
theorem d_Terms_depth_18 : decode b_Terms_depth 18 = .ok (.bipush 17, 2) := by decide +kernel
theorem d_Terms_depth_20 : decode b_Terms_depth 20 = .ok (.lushr, 1) := by decide +kernel
theorem d_Terms_depth_21 : decode b_Terms_depth 21 = .ok (.l2i, 1) := by decide +kernel
theorem d_Terms_depth_22 : decode b_Terms_depth 22 = .ok (.sipush 511, 3) := by decide +kernel
theorem d_Terms_depth_25 : decode b_Terms_depth 25 = .ok (.iand, 1) := by decide +kernel
theorem d_Terms_depth_26 : decode b_Terms_depth 26 = .ok (.goto 4, 3) := by decide +kernel
theorem d_Terms_depth_29 : decode b_Terms_depth 29 = .ok (.iconst 0, 1) := by decide +kernel
theorem d_Terms_depth_30 : decode b_Terms_depth 30 = .ok (.ireturn, 1) := by decide +kernel
theorem d_Terms_loose_0 : decode b_Terms_loose 0 = .ok (.iload_n 1, 1) := by decide +kernel
theorem d_Terms_loose_1 : decode b_Terms_loose 1 = .ok (.ifCond .lt 28, 3) := by decide +kernel
theorem d_Terms_loose_4 : decode b_Terms_loose 4 = .ok (.iload_n 1, 1) := by decide +kernel
theorem d_Terms_loose_5 : decode b_Terms_loose 5 = .ok (.aload_n 0, 1) := by decide +kernel
theorem d_Terms_loose_6 : decode b_Terms_loose 6 = .ok (.getfield 48, 3) := by decide +kernel
theorem d_Terms_loose_9 : decode b_Terms_loose 9 = .ok (.if_icmp .ge 20, 3) := by decide +kernel
theorem d_Terms_loose_12 : decode b_Terms_loose 12 = .ok (.aload_n 0, 1) := by decide +kernel
theorem d_Terms_loose_13 : decode b_Terms_loose 13 = .ok (.getfield 31, 3) := by decide +kernel
theorem d_Terms_loose_16 : decode b_Terms_loose 16 = .ok (.iload_n 1, 1) := by decide +kernel
theorem d_Terms_loose_17 : decode b_Terms_loose 17 = .ok (.laload, 1) := by decide +kernel
theorem d_Terms_loose_18 : decode b_Terms_loose 18 = .ok (.bipush 26, 2) := by decide +kernel
theorem d_Terms_loose_20 : decode b_Terms_loose 20 = .ok (.lushr, 1) := by decide +kernel
theorem d_Terms_loose_21 : decode b_Terms_loose 21 = .ok (.l2i, 1) := by decide +kernel
theorem d_Terms_loose_22 : decode b_Terms_loose 22 = .ok (.sipush 8191, 3) := by decide +kernel
theorem d_Terms_loose_25 : decode b_Terms_loose 25 = .ok (.iand, 1) := by decide +kernel
theorem d_Terms_loose_26 : decode b_Terms_loose 26 = .ok (.goto 4, 3) := by decide +kernel
theorem d_Terms_loose_29 : decode b_Terms_loose 29 = .ok (.iconst 0, 1) := by decide +kernel
theorem d_Terms_loose_30 : decode b_Terms_loose 30 = .ok (.ireturn, 1) := by decide +kernel
theorem d_Terms_free_0 : decode b_Terms_free 0 = .ok (.iload_n 1, 1) := by decide +kernel
theorem d_Terms_free_1 : decode b_Terms_free 1 = .ok (.ifCond .lt 28, 3) := by decide +kernel
theorem d_Terms_free_4 : decode b_Terms_free 4 = .ok (.iload_n 1, 1) := by decide +kernel
theorem d_Terms_free_5 : decode b_Terms_free 5 = .ok (.aload_n 0, 1) := by decide +kernel
theorem d_Terms_free_6 : decode b_Terms_free 6 = .ok (.getfield 48, 3) := by decide +kernel
theorem d_Terms_free_9 : decode b_Terms_free 9 = .ok (.if_icmp .ge 20, 3) := by decide +kernel
theorem d_Terms_free_12 : decode b_Terms_free 12 = .ok (.aload_n 0, 1) := by decide +kernel
theorem d_Terms_free_13 : decode b_Terms_free 13 = .ok (.getfield 31, 3) := by decide +kernel
theorem d_Terms_free_16 : decode b_Terms_free 16 = .ok (.iload_n 1, 1) := by decide +kernel
theorem d_Terms_free_17 : decode b_Terms_free 17 = .ok (.laload, 1) := by decide +kernel
theorem d_Terms_free_18 : decode b_Terms_free 18 = .ok (.bipush 39, 2) := by decide +kernel
theorem d_Terms_free_20 : decode b_Terms_free 20 = .ok (.lushr, 1) := by decide +kernel
theorem d_Terms_free_21 : decode b_Terms_free 21 = .ok (.l2i, 1) := by decide +kernel
theorem d_Terms_free_22 : decode b_Terms_free 22 = .ok (.sipush 2047, 3) := by decide +kernel
theorem d_Terms_free_25 : decode b_Terms_free 25 = .ok (.iand, 1) := by decide +kernel
theorem d_Terms_free_26 : decode b_Terms_free 26 = .ok (.goto 4, 3) := by decide +kernel
theorem d_Terms_free_29 : decode b_Terms_free 29 = .ok (.iconst 0, 1) := by decide +kernel
theorem d_Terms_free_30 : decode b_Terms_free 30 = .ok (.ireturn, 1) := by decide +kernel
theorem d_Terms_left_0 : decode b_Terms_left 0 = .ok (.iload_n 1, 1) := by decide +kernel
theorem d_Terms_left_1 : decode b_Terms_left 1 = .ok (.ifCond .lt 20, 3) := by decide +kernel
theorem d_Terms_left_4 : decode b_Terms_left 4 = .ok (.iload_n 1, 1) := by decide +kernel
theorem d_Terms_left_5 : decode b_Terms_left 5 = .ok (.aload_n 0, 1) := by decide +kernel
theorem d_Terms_left_6 : decode b_Terms_left 6 = .ok (.getfield 48, 3) := by decide +kernel
theorem d_Terms_left_9 : decode b_Terms_left 9 = .ok (.if_icmp .ge 12, 3) := by decide +kernel
theorem d_Terms_left_12 : decode b_Terms_left 12 = .ok (.aload_n 0, 1) := by decide +kernel
theorem d_Terms_left_13 : decode b_Terms_left 13 = .ok (.getfield 35, 3) := by decide +kernel
theorem d_Terms_left_16 : decode b_Terms_left 16 = .ok (.iload_n 1, 1) := by decide +kernel
theorem d_Terms_left_17 : decode b_Terms_left 17 = .ok (.iaload, 1) := by decide +kernel
theorem d_Terms_left_18 : decode b_Terms_left 18 = .ok (.goto 4, 3) := by decide +kernel
theorem d_Terms_left_21 : decode b_Terms_left 21 = .ok (.iconst 0, 1) := by decide +kernel
theorem d_Terms_left_22 : decode b_Terms_left 22 = .ok (.ireturn, 1) := by decide +kernel
theorem d_Terms_right_0 : decode b_Terms_right 0 = .ok (.iload_n 1, 1) := by decide +kernel
theorem d_Terms_right_1 : decode b_Terms_right 1 = .ok (.ifCond .lt 20, 3) := by decide +kernel
theorem d_Terms_right_4 : decode b_Terms_right 4 = .ok (.iload_n 1, 1) := by decide +kernel
theorem d_Terms_right_5 : decode b_Terms_right 5 = .ok (.aload_n 0, 1) := by decide +kernel
theorem d_Terms_right_6 : decode b_Terms_right 6 = .ok (.getfield 48, 3) := by decide +kernel
theorem d_Terms_right_9 : decode b_Terms_right 9 = .ok (.if_icmp .ge 12, 3) := by decide +kernel
theorem d_Terms_right_12 : decode b_Terms_right 12 = .ok (.aload_n 0, 1) := by decide +kernel
theorem d_Terms_right_13 : decode b_Terms_right 13 = .ok (.getfield 39, 3) := by decide +kernel
theorem d_Terms_right_16 : decode b_Terms_right 16 = .ok (.iload_n 1, 1) := by decide +kernel
theorem d_Terms_right_17 : decode b_Terms_right 17 = .ok (.iaload, 1) := by decide +kernel
theorem d_Terms_right_18 : decode b_Terms_right 18 = .ok (.goto 4, 3) := by decide +kernel
theorem d_Terms_right_21 : decode b_Terms_right 21 = .ok (.iconst 0, 1) := by decide +kernel
theorem d_Terms_right_22 : decode b_Terms_right 22 = .ok (.ireturn, 1) := by decide +kernel
theorem d_Terms_length_0 : decode b_Terms_length 0 = .ok (.aload_n 0, 1) := by decide +kernel
theorem d_Terms_length_1 : decode b_Terms_length 1 = .ok (.getfield 48, 3) := by decide +kernel
theorem d_Terms_length_4 : decode b_Terms_length 4 = .ok (.ireturn, 1) := by decide +kernel
theorem d_Terms_binds_0 : decode b_Terms_binds 0 = .ok (.iload_n 0, 1) := by decide +kernel
theorem d_Terms_binds_1 : decode b_Terms_binds 1 = .ok (.bipush 6, 2) := by decide +kernel
theorem d_Terms_binds_3 : decode b_Terms_binds 3 = .ok (.if_icmp .eq 15, 3) := by decide +kernel
theorem d_Terms_binds_6 : decode b_Terms_binds 6 = .ok (.iload_n 0, 1) := by decide +kernel
theorem d_Terms_binds_7 : decode b_Terms_binds 7 = .ok (.bipush 7, 2) := by decide +kernel
theorem d_Terms_binds_9 : decode b_Terms_binds 9 = .ok (.if_icmp .eq 9, 3) := by decide +kernel
theorem d_Terms_binds_12 : decode b_Terms_binds 12 = .ok (.iload_n 0, 1) := by decide +kernel
theorem d_Terms_binds_13 : decode b_Terms_binds 13 = .ok (.bipush 9, 2) := by decide +kernel
theorem d_Terms_binds_15 : decode b_Terms_binds 15 = .ok (.if_icmp .ne 7, 3) := by decide +kernel
theorem d_Terms_binds_18 : decode b_Terms_binds 18 = .ok (.iconst 1, 1) := by decide +kernel
theorem d_Terms_binds_19 : decode b_Terms_binds 19 = .ok (.goto 4, 3) := by decide +kernel
theorem d_Terms_binds_22 : decode b_Terms_binds 22 = .ok (.iconst 0, 1) := by decide +kernel
theorem d_Terms_binds_23 : decode b_Terms_binds 23 = .ok (.ireturn, 1) := by decide +kernel
theorem d_Terms_slot_0 : decode b_Terms_slot 0 = .ok (.iload_n 1, 1) := by decide +kernel
theorem d_Terms_slot_1 : decode b_Terms_slot 1 = .ok (.ldc 97, 2) := by decide +kernel
theorem d_Terms_slot_3 : decode b_Terms_slot 3 = .ok (.imul, 1) := by decide +kernel
theorem d_Terms_slot_4 : decode b_Terms_slot 4 = .ok (.iload_n 2, 1) := by decide +kernel
theorem d_Terms_slot_5 : decode b_Terms_slot 5 = .ok (.ldc 98, 2) := by decide +kernel
theorem d_Terms_slot_7 : decode b_Terms_slot 7 = .ok (.imul, 1) := by decide +kernel
theorem d_Terms_slot_8 : decode b_Terms_slot 8 = .ok (.iadd, 1) := by decide +kernel
theorem d_Terms_slot_9 : decode b_Terms_slot 9 = .ok (.iload_n 3, 1) := by decide +kernel
theorem d_Terms_slot_10 : decode b_Terms_slot 10 = .ok (.ldc 99, 2) := by decide +kernel
theorem d_Terms_slot_12 : decode b_Terms_slot 12 = .ok (.imul, 1) := by decide +kernel
theorem d_Terms_slot_13 : decode b_Terms_slot 13 = .ok (.iadd, 1) := by decide +kernel
theorem d_Terms_slot_14 : decode b_Terms_slot 14 = .ok (.istore 4, 2) := by decide +kernel
theorem d_Terms_slot_16 : decode b_Terms_slot 16 = .ok (.iload 4, 2) := by decide +kernel
theorem d_Terms_slot_18 : decode b_Terms_slot 18 = .ok (.iload 4, 2) := by decide +kernel
theorem d_Terms_slot_20 : decode b_Terms_slot 20 = .ok (.bipush 15, 2) := by decide +kernel
theorem d_Terms_slot_22 : decode b_Terms_slot 22 = .ok (.iushr, 1) := by decide +kernel
theorem d_Terms_slot_23 : decode b_Terms_slot 23 = .ok (.ixor, 1) := by decide +kernel
theorem d_Terms_slot_24 : decode b_Terms_slot 24 = .ok (.istore 4, 2) := by decide +kernel
theorem d_Terms_slot_26 : decode b_Terms_slot 26 = .ok (.iload 4, 2) := by decide +kernel
theorem d_Terms_slot_28 : decode b_Terms_slot 28 = .ok (.aload_n 0, 1) := by decide +kernel
theorem d_Terms_slot_29 : decode b_Terms_slot 29 = .ok (.getfield 45, 3) := by decide +kernel
theorem d_Terms_slot_32 : decode b_Terms_slot 32 = .ok (.arraylength, 1) := by decide +kernel
theorem d_Terms_slot_33 : decode b_Terms_slot 33 = .ok (.iconst 1, 1) := by decide +kernel
theorem d_Terms_slot_34 : decode b_Terms_slot 34 = .ok (.isub, 1) := by decide +kernel
theorem d_Terms_slot_35 : decode b_Terms_slot 35 = .ok (.iand, 1) := by decide +kernel
theorem d_Terms_slot_36 : decode b_Terms_slot 36 = .ok (.ireturn, 1) := by decide +kernel
theorem d_Terms_head_0 : decode b_Terms_head 0 = .ok (.iload_n 1, 1) := by decide +kernel
theorem d_Terms_head_1 : decode b_Terms_head 1 = .ok (.istore_n 2, 1) := by decide +kernel
theorem d_Terms_head_2 : decode b_Terms_head 2 = .ok (.iconst 0, 1) := by decide +kernel
theorem d_Terms_head_3 : decode b_Terms_head 3 = .ok (.istore_n 3, 1) := by decide +kernel
theorem d_Terms_head_4 : decode b_Terms_head 4 = .ok (.iload_n 3, 1) := by decide +kernel
theorem d_Terms_head_5 : decode b_Terms_head 5 = .ok (.sipush 3000, 3) := by decide +kernel
theorem d_Terms_head_8 : decode b_Terms_head 8 = .ok (.if_icmp .ge 24, 3) := by decide +kernel
theorem d_Terms_head_11 : decode b_Terms_head 11 = .ok (.aload_n 0, 1) := by decide +kernel
theorem d_Terms_head_12 : decode b_Terms_head 12 = .ok (.iload_n 2, 1) := by decide +kernel
theorem d_Terms_head_13 : decode b_Terms_head 13 = .ok (.invokevirtual 52, 3) := by decide +kernel
theorem d_Terms_head_16 : decode b_Terms_head 16 = .ok (.iconst 5, 1) := by decide +kernel
theorem d_Terms_head_17 : decode b_Terms_head 17 = .ok (.if_icmp .ne 15, 3) := by decide +kernel
theorem d_Terms_head_20 : decode b_Terms_head 20 = .ok (.aload_n 0, 1) := by decide +kernel
theorem d_Terms_head_21 : decode b_Terms_head 21 = .ok (.iload_n 2, 1) := by decide +kernel
theorem d_Terms_head_22 : decode b_Terms_head 22 = .ok (.invokevirtual 56, 3) := by decide +kernel
theorem d_Terms_head_25 : decode b_Terms_head 25 = .ok (.istore_n 2, 1) := by decide +kernel
theorem d_Terms_head_26 : decode b_Terms_head 26 = .ok (.iinc 3 1, 3) := by decide +kernel
theorem d_Terms_head_29 : decode b_Terms_head 29 = .ok (.goto (-25), 3) := by decide +kernel
theorem d_Terms_head_32 : decode b_Terms_head 32 = .ok (.iload_n 2, 1) := by decide +kernel
theorem d_Terms_head_33 : decode b_Terms_head 33 = .ok (.ireturn, 1) := by decide +kernel
theorem d_Terms_behind_0 : decode b_Terms_behind 0 = .ok (.iconst 0, 1) := by decide +kernel
theorem d_Terms_behind_1 : decode b_Terms_behind 1 = .ok (.istore_n 2, 1) := by decide +kernel
theorem d_Terms_behind_2 : decode b_Terms_behind 2 = .ok (.iload_n 1, 1) := by decide +kernel
theorem d_Terms_behind_3 : decode b_Terms_behind 3 = .ok (.istore_n 3, 1) := by decide +kernel
theorem d_Terms_behind_4 : decode b_Terms_behind 4 = .ok (.iload_n 2, 1) := by decide +kernel
theorem d_Terms_behind_5 : decode b_Terms_behind 5 = .ok (.sipush 3000, 3) := by decide +kernel
theorem d_Terms_behind_8 : decode b_Terms_behind 8 = .ok (.if_icmp .ge 24, 3) := by decide +kernel
theorem d_Terms_behind_11 : decode b_Terms_behind 11 = .ok (.aload_n 0, 1) := by decide +kernel
theorem d_Terms_behind_12 : decode b_Terms_behind 12 = .ok (.iload_n 3, 1) := by decide +kernel
theorem d_Terms_behind_13 : decode b_Terms_behind 13 = .ok (.invokevirtual 52, 3) := by decide +kernel
theorem d_Terms_behind_16 : decode b_Terms_behind 16 = .ok (.iconst 5, 1) := by decide +kernel
theorem d_Terms_behind_17 : decode b_Terms_behind 17 = .ok (.if_icmp .ne 15, 3) := by decide +kernel
theorem d_Terms_behind_20 : decode b_Terms_behind 20 = .ok (.iinc 2 1, 3) := by decide +kernel
theorem d_Terms_behind_23 : decode b_Terms_behind 23 = .ok (.aload_n 0, 1) := by decide +kernel
theorem d_Terms_behind_24 : decode b_Terms_behind 24 = .ok (.iload_n 3, 1) := by decide +kernel
theorem d_Terms_behind_25 : decode b_Terms_behind 25 = .ok (.invokevirtual 56, 3) := by decide +kernel
theorem d_Terms_behind_28 : decode b_Terms_behind 28 = .ok (.istore_n 3, 1) := by decide +kernel
theorem d_Terms_behind_29 : decode b_Terms_behind 29 = .ok (.goto (-25), 3) := by decide +kernel
theorem d_Terms_behind_32 : decode b_Terms_behind 32 = .ok (.iload_n 2, 1) := by decide +kernel
theorem d_Terms_behind_33 : decode b_Terms_behind 33 = .ok (.ireturn, 1) := by decide +kernel
theorem d_Terms_fromLast_0 : decode b_Terms_fromLast 0 = .ok (.iload_n 1, 1) := by decide +kernel
theorem d_Terms_fromLast_1 : decode b_Terms_fromLast 1 = .ok (.istore_n 3, 1) := by decide +kernel
theorem d_Terms_fromLast_2 : decode b_Terms_fromLast 2 = .ok (.iconst 0, 1) := by decide +kernel
theorem d_Terms_fromLast_3 : decode b_Terms_fromLast 3 = .ok (.istore 4, 2) := by decide +kernel
theorem d_Terms_fromLast_5 : decode b_Terms_fromLast 5 = .ok (.iload 4, 2) := by decide +kernel
theorem d_Terms_fromLast_7 : decode b_Terms_fromLast 7 = .ok (.iload_n 2, 1) := by decide +kernel
theorem d_Terms_fromLast_8 : decode b_Terms_fromLast 8 = .ok (.if_icmp .ge 15, 3) := by decide +kernel
theorem d_Terms_fromLast_11 : decode b_Terms_fromLast 11 = .ok (.aload_n 0, 1) := by decide +kernel
theorem d_Terms_fromLast_12 : decode b_Terms_fromLast 12 = .ok (.iload_n 3, 1) := by decide +kernel
theorem d_Terms_fromLast_13 : decode b_Terms_fromLast 13 = .ok (.invokevirtual 56, 3) := by decide +kernel
theorem d_Terms_fromLast_16 : decode b_Terms_fromLast 16 = .ok (.istore_n 3, 1) := by decide +kernel
theorem d_Terms_fromLast_17 : decode b_Terms_fromLast 17 = .ok (.iinc 4 1, 3) := by decide +kernel
theorem d_Terms_fromLast_20 : decode b_Terms_fromLast 20 = .ok (.goto (-15), 3) := by decide +kernel
theorem d_Terms_fromLast_23 : decode b_Terms_fromLast 23 = .ok (.aload_n 0, 1) := by decide +kernel
theorem d_Terms_fromLast_24 : decode b_Terms_fromLast 24 = .ok (.iload_n 3, 1) := by decide +kernel
theorem d_Terms_fromLast_25 : decode b_Terms_fromLast 25 = .ok (.invokevirtual 59, 3) := by decide +kernel
theorem d_Terms_fromLast_28 : decode b_Terms_fromLast 28 = .ok (.ireturn, 1) := by decide +kernel
