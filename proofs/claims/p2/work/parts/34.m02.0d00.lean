theorem d_Mod_mapped_0 : decode b_Mod_mapped 0 = .ok (.aload_n 0, 1) := by decide +kernel
theorem d_Mod_mapped_1 : decode b_Mod_mapped 1 = .ok (.iload_n 1, 1) := by decide +kernel
theorem d_Mod_mapped_2 : decode b_Mod_mapped 2 = .ok (.putfield 83, 3) := by decide +kernel
theorem d_Mod_mapped_5 : decode b_Mod_mapped 5 = .ok (.aload_n 0, 1) := by decide +kernel
theorem d_Mod_mapped_6 : decode b_Mod_mapped 6 = .ok (.iload 4, 2) := by decide +kernel
theorem d_Mod_mapped_8 : decode b_Mod_mapped 8 = .ok (.putfield 86, 3) := by decide +kernel
theorem d_Mod_mapped_11 : decode b_Mod_mapped 11 = .ok (.aload_n 0, 1) := by decide +kernel
theorem d_Mod_mapped_12 : decode b_Mod_mapped 12 = .ok (.iload 5, 2) := by decide +kernel
theorem d_Mod_mapped_14 : decode b_Mod_mapped 14 = .ok (.putfield 89, 3) := by decide +kernel
theorem d_Mod_mapped_17 : decode b_Mod_mapped 17 = .ok (.aload_n 0, 1) := by decide +kernel
theorem d_Mod_mapped_18 : decode b_Mod_mapped 18 = .ok (.iconst 0, 1) := by decide +kernel
theorem d_Mod_mapped_19 : decode b_Mod_mapped 19 = .ok (.putfield 80, 3) := by decide +kernel
theorem d_Mod_mapped_22 : decode b_Mod_mapped 22 = .ok (.aload_n 0, 1) := by decide +kernel
theorem d_Mod_mapped_23 : decode b_Mod_mapped 23 = .ok (.iload_n 2, 1) := by decide +kernel
theorem d_Mod_mapped_24 : decode b_Mod_mapped 24 = .ok (.iload_n 3, 1) := by decide +kernel
theorem d_Mod_mapped_25 : decode b_Mod_mapped 25 = .ok (.invokevirtual 344, 3) := by decide +kernel
theorem d_Mod_mapped_28 : decode b_Mod_mapped 28 = .ok (.ireturn, 1) := by decide +kernel
theorem d_Mod_under_0 : decode b_Mod_under 0 = .ok (.aload_n 0, 1) := by decide +kernel
theorem d_Mod_under_1 : decode b_Mod_under 1 = .ok (.iconst 3, 1) := by decide +kernel
theorem d_Mod_under_2 : decode b_Mod_under 2 = .ok (.iload_n 1, 1) := by decide +kernel
theorem d_Mod_under_3 : decode b_Mod_under 3 = .ok (.iconst 0, 1) := by decide +kernel
theorem d_Mod_under_4 : decode b_Mod_under 4 = .ok (.iload_n 2, 1) := by decide +kernel
theorem d_Mod_under_5 : decode b_Mod_under 5 = .ok (.iload_n 3, 1) := by decide +kernel
theorem d_Mod_under_6 : decode b_Mod_under 6 = .ok (.invokevirtual 359, 3) := by decide +kernel
theorem d_Mod_under_9 : decode b_Mod_under 9 = .ok (.ireturn, 1) := by decide +kernel
theorem d_Mod_say_0_0 : decode b_Mod_say_0 0 = .ok (.aload_n 0, 1) := by decide +kernel
theorem d_Mod_say_0_1 : decode b_Mod_say_0 1 = .ok (.getfield 26, 3) := by decide +kernel
theorem d_Mod_say_0_4 : decode b_Mod_say_0 4 = .ok (.ldc 12, 2) := by decide +kernel
theorem d_Mod_say_0_6 : decode b_Mod_say_0 6 = .ok (.if_icmp .ge 21, 3) := by decide +kernel
theorem d_Mod_say_0_9 : decode b_Mod_say_0 9 = .ok (.aload_n 0, 1) := by decide +kernel
theorem d_Mod_say_0_10 : decode b_Mod_say_0 10 = .ok (.getfield 19, 3) := by decide +kernel
theorem d_Mod_say_0_13 : decode b_Mod_say_0 13 = .ok (.aload_n 0, 1) := by decide +kernel
theorem d_Mod_say_0_14 : decode b_Mod_say_0 14 = .ok (.dup, 1) := by decide +kernel
theorem d_Mod_say_0_15 : decode b_Mod_say_0 15 = .ok (.getfield 26, 3) := by decide +kernel
theorem d_Mod_say_0_18 : decode b_Mod_say_0 18 = .ok (.dup_x1, 1) := by decide +kernel
theorem d_Mod_say_0_19 : decode b_Mod_say_0 19 = .ok (.iconst 1, 1) := by decide +kernel
theorem d_Mod_say_0_20 : decode b_Mod_say_0 20 = .ok (.iadd, 1) := by decide +kernel
theorem d_Mod_say_0_21 : decode b_Mod_say_0 21 = .ok (.putfield 26, 3) := by decide +kernel
theorem d_Mod_say_0_24 : decode b_Mod_say_0 24 = .ok (.iload_n 1, 1) := by decide +kernel
theorem d_Mod_say_0_25 : decode b_Mod_say_0 25 = .ok (.i2b, 1) := by decide +kernel
theorem d_Mod_say_0_26 : decode b_Mod_say_0 26 = .ok (.bastore, 1) := by decide +kernel
theorem d_Mod_say_0_27 : decode b_Mod_say_0 27 = .ok (.return_, 1) := by decide +kernel
theorem d_Mod_fits_0 : decode b_Mod_fits 0 = .ok (.aload_n 0, 1) := by decide +kernel
theorem d_Mod_fits_1 : decode b_Mod_fits 1 = .ok (.getfield 68, 3) := by decide +kernel
theorem d_Mod_fits_4 : decode b_Mod_fits 4 = .ok (.iload_n 1, 1) := by decide +kernel
theorem d_Mod_fits_5 : decode b_Mod_fits 5 = .ok (.iaload, 1) := by decide +kernel
theorem d_Mod_fits_6 : decode b_Mod_fits 6 = .ok (.sipush 3000, 3) := by decide +kernel
theorem d_Mod_fits_9 : decode b_Mod_fits 9 = .ok (.if_icmp .gt 15, 3) := by decide +kernel
theorem d_Mod_fits_12 : decode b_Mod_fits 12 = .ok (.aload_n 0, 1) := by decide +kernel
theorem d_Mod_fits_13 : decode b_Mod_fits 13 = .ok (.getfield 71, 3) := by decide +kernel
theorem d_Mod_fits_16 : decode b_Mod_fits 16 = .ok (.iload_n 1, 1) := by decide +kernel
theorem d_Mod_fits_17 : decode b_Mod_fits 17 = .ok (.iaload, 1) := by decide +kernel
theorem d_Mod_fits_18 : decode b_Mod_fits 18 = .ok (.sipush 200, 3) := by decide +kernel
theorem d_Mod_fits_21 : decode b_Mod_fits 21 = .ok (.if_icmp .le 9, 3) := by decide +kernel
theorem d_Mod_fits_24 : decode b_Mod_fits 24 = .ok (.bipush 10, 2) := by decide +kernel
theorem d_Mod_fits_26 : decode b_Mod_fits 26 = .ok (.invokestatic 323, 3) := by decide +kernel
theorem d_Mod_fits_29 : decode b_Mod_fits 29 = .ok (.athrow, 1) := by decide +kernel
theorem d_Mod_fits_30 : decode b_Mod_fits 30 = .ok (.iload_n 1, 1) := by decide +kernel
theorem d_Mod_fits_31 : decode b_Mod_fits 31 = .ok (.ireturn, 1) := by decide +kernel
theorem d_Mod_whole_0 : decode b_Mod_whole 0 = .ok (.aload_n 0, 1) := by decide +kernel
theorem d_Mod_whole_1 : decode b_Mod_whole 1 = .ok (.iconst 0, 1) := by decide +kernel
theorem d_Mod_whole_2 : decode b_Mod_whole 2 = .ok (.iload_n 1, 1) := by decide +kernel
theorem d_Mod_whole_3 : decode b_Mod_whole 3 = .ok (.iload_n 2, 1) := by decide +kernel
theorem d_Mod_whole_4 : decode b_Mod_whole 4 = .ok (.iconst 0, 1) := by decide +kernel
theorem d_Mod_whole_5 : decode b_Mod_whole 5 = .ok (.iload_n 3, 1) := by decide +kernel
theorem d_Mod_whole_6 : decode b_Mod_whole 6 = .ok (.invokevirtual 359, 3) := by decide +kernel
theorem d_Mod_whole_9 : decode b_Mod_whole 9 = .ok (.ireturn, 1) := by decide +kernel
theorem d_Mod_alone_0 : decode b_Mod_alone 0 = .ok (.aload_n 0, 1) := by decide +kernel
theorem d_Mod_alone_1 : decode b_Mod_alone 1 = .ok (.aload_n 0, 1) := by decide +kernel
theorem d_Mod_alone_2 : decode b_Mod_alone 2 = .ok (.iload_n 1, 1) := by decide +kernel
theorem d_Mod_alone_3 : decode b_Mod_alone 3 = .ok (.invokevirtual 402, 3) := by decide +kernel
theorem d_Mod_alone_6 : decode b_Mod_alone 6 = .ok (.iconst 0, 1) := by decide +kernel
theorem d_Mod_alone_7 : decode b_Mod_alone 7 = .ok (.iconst 0, 1) := by decide +kernel
theorem d_Mod_alone_8 : decode b_Mod_alone 8 = .ok (.invokevirtual 513, 3) := by decide +kernel
theorem d_Mod_alone_11 : decode b_Mod_alone 11 = .ok (.ireturn, 1) := by decide +kernel
theorem d_Mod_behind_0 : decode b_Mod_behind 0 = .ok (.iconst 0, 1) := by decide +kernel
theorem d_Mod_behind_1 : decode b_Mod_behind 1 = .ok (.istore_n 2, 1) := by decide +kernel
theorem d_Mod_behind_2 : decode b_Mod_behind 2 = .ok (.iload_n 1, 1) := by decide +kernel
theorem d_Mod_behind_3 : decode b_Mod_behind 3 = .ok (.istore_n 3, 1) := by decide +kernel
theorem d_Mod_behind_4 : decode b_Mod_behind 4 = .ok (.aload_n 0, 1) := by decide +kernel
theorem d_Mod_behind_5 : decode b_Mod_behind 5 = .ok (.getfield 55, 3) := by decide +kernel
theorem d_Mod_behind_8 : decode b_Mod_behind 8 = .ok (.iload_n 3, 1) := by decide +kernel
theorem d_Mod_behind_9 : decode b_Mod_behind 9 = .ok (.baload, 1) := by decide +kernel
theorem d_Mod_behind_10 : decode b_Mod_behind 10 = .ok (.bipush 8, 2) := by decide +kernel
theorem d_Mod_behind_12 : decode b_Mod_behind 12 = .ok (.if_icmp .ne 16, 3) := by decide +kernel
theorem d_Mod_behind_15 : decode b_Mod_behind 15 = .ok (.iinc 2 1, 3) := by decide +kernel
theorem d_Mod_behind_18 : decode b_Mod_behind 18 = .ok (.aload_n 0, 1) := by decide +kernel
theorem d_Mod_behind_19 : decode b_Mod_behind 19 = .ok (.getfield 58, 3) := by decide +kernel
theorem d_Mod_behind_22 : decode b_Mod_behind 22 = .ok (.iload_n 3, 1) := by decide +kernel
theorem d_Mod_behind_23 : decode b_Mod_behind 23 = .ok (.iaload, 1) := by decide +kernel
theorem d_Mod_behind_24 : decode b_Mod_behind 24 = .ok (.istore_n 3, 1) := by decide +kernel
theorem d_Mod_behind_25 : decode b_Mod_behind 25 = .ok (.goto (-21), 3) := by decide +kernel
theorem d_Mod_behind_28 : decode b_Mod_behind 28 = .ok (.iload_n 2, 1) := by decide +kernel
theorem d_Mod_behind_29 : decode b_Mod_behind 29 = .ok (.ireturn, 1) := by decide +kernel
theorem d_Mod_head_0 : decode b_Mod_head 0 = .ok (.iload_n 1, 1) := by decide +kernel
theorem d_Mod_head_1 : decode b_Mod_head 1 = .ok (.istore_n 2, 1) := by decide +kernel
theorem d_Mod_head_2 : decode b_Mod_head 2 = .ok (.aload_n 0, 1) := by decide +kernel
theorem d_Mod_head_3 : decode b_Mod_head 3 = .ok (.getfield 55, 3) := by decide +kernel
theorem d_Mod_head_6 : decode b_Mod_head 6 = .ok (.iload_n 2, 1) := by decide +kernel
theorem d_Mod_head_7 : decode b_Mod_head 7 = .ok (.baload, 1) := by decide +kernel
theorem d_Mod_head_8 : decode b_Mod_head 8 = .ok (.bipush 8, 2) := by decide +kernel
theorem d_Mod_head_10 : decode b_Mod_head 10 = .ok (.if_icmp .ne 13, 3) := by decide +kernel
theorem d_Mod_head_13 : decode b_Mod_head 13 = .ok (.aload_n 0, 1) := by decide +kernel
theorem d_Mod_head_14 : decode b_Mod_head 14 = .ok (.getfield 58, 3) := by decide +kernel
theorem d_Mod_head_17 : decode b_Mod_head 17 = .ok (.iload_n 2, 1) := by decide +kernel
theorem d_Mod_head_18 : decode b_Mod_head 18 = .ok (.iaload, 1) := by decide +kernel
theorem d_Mod_head_19 : decode b_Mod_head 19 = .ok (.istore_n 2, 1) := by decide +kernel
theorem d_Mod_head_20 : decode b_Mod_head 20 = .ok (.goto (-18), 3) := by decide +kernel
theorem d_Mod_head_23 : decode b_Mod_head 23 = .ok (.iload_n 2, 1) := by decide +kernel
theorem d_Mod_head_24 : decode b_Mod_head 24 = .ok (.ireturn, 1) := by decide +kernel
theorem d_Mod_leveled_0 : decode b_Mod_leveled 0 = .ok (.aload_n 0, 1) := by decide +kernel
theorem d_Mod_leveled_1 : decode b_Mod_leveled 1 = .ok (.iconst 4, 1) := by decide +kernel
theorem d_Mod_leveled_2 : decode b_Mod_leveled 2 = .ok (.iload_n 1, 1) := by decide +kernel
theorem d_Mod_leveled_3 : decode b_Mod_leveled 3 = .ok (.iconst 0, 1) := by decide +kernel
theorem d_Mod_leveled_4 : decode b_Mod_leveled 4 = .ok (.iconst 0, 1) := by decide +kernel
theorem d_Mod_leveled_5 : decode b_Mod_leveled 5 = .ok (.iload_n 2, 1) := by decide +kernel
theorem d_Mod_leveled_6 : decode b_Mod_leveled 6 = .ok (.invokevirtual 359, 3) := by decide +kernel
theorem d_Mod_leveled_9 : decode b_Mod_leveled 9 = .ok (.ireturn, 1) := by decide +kernel
theorem d_Mod_costs_0 : decode b_Mod_costs 0 = .ok (.aload_n 0, 1) := by decide +kernel
theorem d_Mod_costs_1 : decode b_Mod_costs 1 = .ok (.dup, 1) := by decide +kernel
theorem d_Mod_costs_2 : decode b_Mod_costs 2 = .ok (.getfield 183, 3) := by decide +kernel
theorem d_Mod_costs_5 : decode b_Mod_costs 5 = .ok (.iload_n 1, 1) := by decide +kernel
theorem d_Mod_costs_6 : decode b_Mod_costs 6 = .ok (.iadd, 1) := by decide +kernel
theorem d_Mod_costs_7 : decode b_Mod_costs 7 = .ok (.putfield 183, 3) := by decide +kernel
theorem d_Mod_costs_10 : decode b_Mod_costs 10 = .ok (.aload_n 0, 1) := by decide +kernel
theorem d_Mod_costs_11 : decode b_Mod_costs 11 = .ok (.getfield 183, 3) := by decide +kernel
theorem d_Mod_costs_14 : decode b_Mod_costs 14 = .ok (.ldc_w 427, 3) := by decide +kernel
theorem d_Mod_costs_17 : decode b_Mod_costs 17 = .ok (.if_icmp .le 9, 3) := by decide +kernel
theorem d_Mod_costs_20 : decode b_Mod_costs 20 = .ok (.bipush 10, 2) := by decide +kernel
theorem d_Mod_costs_22 : decode b_Mod_costs 22 = .ok (.invokestatic 323, 3) := by decide +kernel
theorem d_Mod_costs_25 : decode b_Mod_costs 25 = .ok (.athrow, 1) := by decide +kernel
theorem d_Mod_costs_26 : decode b_Mod_costs 26 = .ok (.return_, 1) := by decide +kernel
theorem d_Mod_nth_0 : decode b_Mod_nth 0 = .ok (.iload_n 1, 1) := by decide +kernel
theorem d_Mod_nth_1 : decode b_Mod_nth 1 = .ok (.istore 4, 2) := by decide +kernel
theorem d_Mod_nth_3 : decode b_Mod_nth 3 = .ok (.iload_n 2, 1) := by decide +kernel
theorem d_Mod_nth_4 : decode b_Mod_nth 4 = .ok (.iconst 1, 1) := by decide +kernel
theorem d_Mod_nth_5 : decode b_Mod_nth 5 = .ok (.isub, 1) := by decide +kernel
theorem d_Mod_nth_6 : decode b_Mod_nth 6 = .ok (.istore 5, 2) := by decide +kernel
theorem d_Mod_nth_8 : decode b_Mod_nth 8 = .ok (.iload 5, 2) := by decide +kernel
theorem d_Mod_nth_10 : decode b_Mod_nth 10 = .ok (.iload_n 3, 1) := by decide +kernel
theorem d_Mod_nth_11 : decode b_Mod_nth 11 = .ok (.if_icmp .le 18, 3) := by decide +kernel
theorem d_Mod_nth_14 : decode b_Mod_nth 14 = .ok (.aload_n 0, 1) := by decide +kernel
theorem d_Mod_nth_15 : decode b_Mod_nth 15 = .ok (.getfield 58, 3) := by decide +kernel
theorem d_Mod_nth_18 : decode b_Mod_nth 18 = .ok (.iload 4, 2) := by decide +kernel
theorem d_Mod_nth_20 : decode b_Mod_nth 20 = .ok (.iaload, 1) := by decide +kernel
theorem d_Mod_nth_21 : decode b_Mod_nth 21 = .ok (.istore 4, 2) := by decide +kernel
theorem d_Mod_nth_23 : decode b_Mod_nth 23 = .ok (.iinc 5 (-1), 3) := by decide +kernel
theorem d_Mod_nth_26 : decode b_Mod_nth 26 = .ok (.goto (-18), 3) := by decide +kernel
theorem d_Mod_nth_29 : decode b_Mod_nth 29 = .ok (.aload_n 0, 1) := by decide +kernel
theorem d_Mod_nth_30 : decode b_Mod_nth 30 = .ok (.getfield 62, 3) := by decide +kernel
theorem d_Mod_nth_33 : decode b_Mod_nth 33 = .ok (.iload 4, 2) := by decide +kernel
theorem d_Mod_nth_35 : decode b_Mod_nth 35 = .ok (.iaload, 1) := by decide +kernel
theorem d_Mod_nth_36 : decode b_Mod_nth 36 = .ok (.ireturn, 1) := by decide +kernel
