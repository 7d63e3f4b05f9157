theorem d_Row_size_0 : decode b_Row_size 0 = .ok (.aload_n 0, 1) := by decide +kernel
theorem d_Row_size_1 : decode b_Row_size 1 = .ok (.getfield 17, 3) := by decide +kernel
theorem d_Row_size_4 : decode b_Row_size 4 = .ok (.ireturn, 1) := by decide +kernel
theorem d_Row_at_0 : decode b_Row_at 0 = .ok (.iload_n 1, 1) := by decide +kernel
theorem d_Row_at_1 : decode b_Row_at 1 = .ok (.ifCond .lt 20, 3) := by decide +kernel
theorem d_Row_at_4 : decode b_Row_at 4 = .ok (.iload_n 1, 1) := by decide +kernel
theorem d_Row_at_5 : decode b_Row_at 5 = .ok (.aload_n 0, 1) := by decide +kernel
theorem d_Row_at_6 : decode b_Row_at 6 = .ok (.getfield 17, 3) := by decide +kernel
theorem d_Row_at_9 : decode b_Row_at 9 = .ok (.if_icmp .ge 12, 3) := by decide +kernel
theorem d_Row_at_12 : decode b_Row_at 12 = .ok (.aload_n 0, 1) := by decide +kernel
theorem d_Row_at_13 : decode b_Row_at 13 = .ok (.getfield 7, 3) := by decide +kernel
theorem d_Row_at_16 : decode b_Row_at 16 = .ok (.iload_n 1, 1) := by decide +kernel
theorem d_Row_at_17 : decode b_Row_at 17 = .ok (.iaload, 1) := by decide +kernel
theorem d_Row_at_18 : decode b_Row_at 18 = .ok (.goto 4, 3) := by decide +kernel
theorem d_Row_at_21 : decode b_Row_at 21 = .ok (.iconst 0, 1) := by decide +kernel
theorem d_Row_at_22 : decode b_Row_at 22 = .ok (.ireturn, 1) := by decide +kernel
theorem d_Row_put_0 : decode b_Row_put 0 = .ok (.iload_n 1, 1) := by decide +kernel
theorem d_Row_put_1 : decode b_Row_put 1 = .ok (.ifCond .lt 18, 3) := by decide +kernel
theorem d_Row_put_4 : decode b_Row_put 4 = .ok (.iload_n 1, 1) := by decide +kernel
theorem d_Row_put_5 : decode b_Row_put 5 = .ok (.aload_n 0, 1) := by decide +kernel
theorem d_Row_put_6 : decode b_Row_put 6 = .ok (.getfield 17, 3) := by decide +kernel
theorem d_Row_put_9 : decode b_Row_put 9 = .ok (.if_icmp .ge 10, 3) := by decide +kernel
theorem d_Row_put_12 : decode b_Row_put 12 = .ok (.aload_n 0, 1) := by decide +kernel
theorem d_Row_put_13 : decode b_Row_put 13 = .ok (.getfield 7, 3) := by decide +kernel
theorem d_Row_put_16 : decode b_Row_put 16 = .ok (.iload_n 1, 1) := by decide +kernel
theorem d_Row_put_17 : decode b_Row_put 17 = .ok (.iload_n 2, 1) := by decide +kernel
theorem d_Row_put_18 : decode b_Row_put 18 = .ok (.iastore, 1) := by decide +kernel
theorem d_Row_put_19 : decode b_Row_put 19 = .ok (.return_, 1) := by decide +kernel
theorem d_Row_cut_0 : decode b_Row_cut 0 = .ok (.iload_n 1, 1) := by decide +kernel
theorem d_Row_cut_1 : decode b_Row_cut 1 = .ok (.ifCond .lt 16, 3) := by decide +kernel
theorem d_Row_cut_4 : decode b_Row_cut 4 = .ok (.iload_n 1, 1) := by decide +kernel
theorem d_Row_cut_5 : decode b_Row_cut 5 = .ok (.aload_n 0, 1) := by decide +kernel
theorem d_Row_cut_6 : decode b_Row_cut 6 = .ok (.getfield 17, 3) := by decide +kernel
theorem d_Row_cut_9 : decode b_Row_cut 9 = .ok (.if_icmp .ge 8, 3) := by decide +kernel
theorem d_Row_cut_12 : decode b_Row_cut 12 = .ok (.aload_n 0, 1) := by decide +kernel
theorem d_Row_cut_13 : decode b_Row_cut 13 = .ok (.iload_n 1, 1) := by decide +kernel
theorem d_Row_cut_14 : decode b_Row_cut 14 = .ok (.putfield 17, 3) := by decide +kernel
theorem d_Row_cut_17 : decode b_Row_cut 17 = .ok (.return_, 1) := by decide +kernel
theorem d_Row_pop_0 : decode b_Row_pop 0 = .ok (.aload_n 0, 1) := by decide +kernel
theorem d_Row_pop_1 : decode b_Row_pop 1 = .ok (.getfield 17, 3) := by decide +kernel
theorem d_Row_pop_4 : decode b_Row_pop 4 = .ok (.ifCond .ne 5, 3) := by decide +kernel
theorem d_Row_pop_7 : decode b_Row_pop 7 = .ok (.iconst 0, 1) := by decide +kernel
theorem d_Row_pop_8 : decode b_Row_pop 8 = .ok (.ireturn, 1) := by decide +kernel
theorem d_Row_pop_9 : decode b_Row_pop 9 = .ok (.aload_n 0, 1) := by decide +kernel
theorem d_Row_pop_10 : decode b_Row_pop 10 = .ok (.dup, 1) := by decide +kernel
theorem d_Row_pop_11 : decode b_Row_pop 11 = .ok (.getfield 17, 3) := by decide +kernel
theorem d_Row_pop_14 : decode b_Row_pop 14 = .ok (.iconst 1, 1) := by decide +kernel
theorem d_Row_pop_15 : decode b_Row_pop 15 = .ok (.isub, 1) := by decide +kernel
theorem d_Row_pop_16 : decode b_Row_pop 16 = .ok (.putfield 17, 3) := by decide +kernel
theorem d_Row_pop_19 : decode b_Row_pop 19 = .ok (.aload_n 0, 1) := by decide +kernel
theorem d_Row_pop_20 : decode b_Row_pop 20 = .ok (.getfield 7, 3) := by decide +kernel
theorem d_Row_pop_23 : decode b_Row_pop 23 = .ok (.aload_n 0, 1) := by decide +kernel
theorem d_Row_pop_24 : decode b_Row_pop 24 = .ok (.getfield 17, 3) := by decide +kernel
theorem d_Row_pop_27 : decode b_Row_pop 27 = .ok (.iaload, 1) := by decide +kernel
theorem d_Row_pop_28 : decode b_Row_pop 28 = .ok (.ireturn, 1) := by decide +kernel
