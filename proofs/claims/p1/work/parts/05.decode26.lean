theorem d_Row_at_6 : decode b_Row_at 6 = .ok (.getfield 17, 3) := by decide +kernel
theorem d_Row_at_9 : decode b_Row_at 9 = .ok (.if_icmp .ge 12, 3) := by decide +kernel
theorem d_Row_at_12 : decode b_Row_at 12 = .ok (.aload_n 0, 1) := by decide +kernel
theorem d_Row_at_13 : decode b_Row_at 13 = .ok (.getfield 7, 3) := by decide +kernel
theorem d_Row_at_16 : decode b_Row_at 16 = .ok (.iload_n 1, 1) := by decide +kernel
theorem d_Row_at_17 : decode b_Row_at 17 = .ok (.iaload, 1) := by decide +kernel
theorem d_Row_at_18 : decode b_Row_at 18 = .ok (.goto 4, 3) := by decide +kernel
theorem d_Row_at_21 : decode b_Row_at 21 = .ok (.iconst 0, 1) := by decide +kernel
theorem d_Row_at_22 : decode b_Row_at 22 = .ok (.ireturn, 1) := by decide +kernel
theorem d_Row_cut_0 : decode b_Row_cut 0 = .ok (.iload_n 1, 1) := by decide +kernel
theorem d_Row_cut_1 : decode b_Row_cut 1 = .ok (.ifCond .lt 16, 3) := by decide +kernel
theorem d_Row_cut_4 : decode b_Row_cut 4 = .ok (.iload_n 1, 1) := by decide +kernel
theorem d_Row_cut_5 : decode b_Row_cut 5 = .ok (.aload_n 0, 1) := by decide +kernel
theorem d_Row_cut_6 : decode b_Row_cut 6 = .ok (.getfield 17, 3) := by decide +kernel
theorem d_Row_cut_9 : decode b_Row_cut 9 = .ok (.if_icmp .ge 8, 3) := by decide +kernel
theorem d_Row_cut_17 : decode b_Row_cut 17 = .ok (.return_, 1) := by decide +kernel
theorem d_Row_init_0 : decode b_Row_init 0 = .ok (.aload_n 0, 1) := by decide +kernel
theorem d_Row_init_1 : decode b_Row_init 1 = .ok (.invokespecial 1, 3) := by decide +kernel
theorem d_Row_init_4 : decode b_Row_init 4 = .ok (.aload_n 0, 1) := by decide +kernel
theorem d_Row_init_5 : decode b_Row_init 5 = .ok (.iload_n 1, 1) := by decide +kernel
theorem d_Row_init_6 : decode b_Row_init 6 = .ok (.ifCond .le 7, 3) := by decide +kernel
theorem d_Row_init_9 : decode b_Row_init 9 = .ok (.iload_n 1, 1) := by decide +kernel
theorem d_Row_init_10 : decode b_Row_init 10 = .ok (.goto 4, 3) := by decide +kernel
theorem d_Row_init_14 : decode b_Row_init 14 = .ok (.newarray .int, 2) := by decide +kernel
theorem d_Row_init_16 : decode b_Row_init 16 = .ok (.putfield 7, 3) := by decide +kernel
theorem d_Row_init_19 : decode b_Row_init 19 = .ok (.aload_n 0, 1) := by decide +kernel
theorem d_Row_init_20 : decode b_Row_init 20 = .ok (.iload_n 2, 1) := by decide +kernel
theorem d_Row_init_21 : decode b_Row_init 21 = .ok (.putfield 13, 3) := by decide +kernel
theorem d_Row_init_24 : decode b_Row_init 24 = .ok (.return_, 1) := by decide +kernel
theorem d_Row_push_0 : decode b_Row_push 0 = .ok (.aload_n 0, 1) := by decide +kernel
theorem d_Row_push_1 : decode b_Row_push 1 = .ok (.getfield 17, 3) := by decide +kernel
theorem d_Row_push_4 : decode b_Row_push 4 = .ok (.aload_n 0, 1) := by decide +kernel
theorem d_Row_push_5 : decode b_Row_push 5 = .ok (.getfield 13, 3) := by decide +kernel
theorem d_Row_push_8 : decode b_Row_push 8 = .ok (.if_icmp .lt 4, 3) := by decide +kernel
theorem d_Row_push_12 : decode b_Row_push 12 = .ok (.aload_n 0, 1) := by decide +kernel
theorem d_Row_push_13 : decode b_Row_push 13 = .ok (.getfield 17, 3) := by decide +kernel
theorem d_Row_push_16 : decode b_Row_push 16 = .ok (.aload_n 0, 1) := by decide +kernel
theorem d_Row_push_17 : decode b_Row_push 17 = .ok (.getfield 7, 3) := by decide +kernel
theorem d_Row_push_20 : decode b_Row_push 20 = .ok (.arraylength, 1) := by decide +kernel
theorem d_Row_push_21 : decode b_Row_push 21 = .ok (.if_icmp .ne 20, 3) := by decide +kernel
theorem d_Row_push_41 : decode b_Row_push 41 = .ok (.aload_n 0, 1) := by decide +kernel
theorem d_Row_push_42 : decode b_Row_push 42 = .ok (.getfield 7, 3) := by decide +kernel
theorem d_Row_push_45 : decode b_Row_push 45 = .ok (.aload_n 0, 1) := by decide +kernel
theorem d_Row_push_46 : decode b_Row_push 46 = .ok (.getfield 17, 3) := by decide +kernel
theorem d_Row_push_49 : decode b_Row_push 49 = .ok (.iload_n 1, 1) := by decide +kernel
theorem d_Row_push_50 : decode b_Row_push 50 = .ok (.iastore, 1) := by decide +kernel
theorem d_Row_push_51 : decode b_Row_push 51 = .ok (.aload_n 0, 1) := by decide +kernel
theorem d_Row_push_52 : decode b_Row_push 52 = .ok (.dup, 1) := by decide +kernel
theorem d_Row_push_53 : decode b_Row_push 53 = .ok (.getfield 17, 3) := by decide +kernel
theorem d_Row_push_56 : decode b_Row_push 56 = .ok (.iconst 1, 1) := by decide +kernel
theorem d_Row_push_57 : decode b_Row_push 57 = .ok (.iadd, 1) := by decide +kernel
theorem d_Row_push_58 : decode b_Row_push 58 = .ok (.putfield 17, 3) := by decide +kernel
theorem d_Row_push_61 : decode b_Row_push 61 = .ok (.return_, 1) := by decide +kernel
theorem d_Row_size_0 : decode b_Row_size 0 = .ok (.aload_n 0, 1) := by decide +kernel
theorem d_Row_size_1 : decode b_Row_size 1 = .ok (.getfield 17, 3) := by decide +kernel
theorem d_Row_size_4 : decode b_Row_size 4 = .ok (.ireturn, 1) := by decide +kernel
theorem d_Terms_init_0 : decode b_Terms_init 0 = .ok (.aload_n 0, 1) := by decide +kernel
theorem d_Terms_init_1 : decode b_Terms_init 1 = .ok (.invokespecial 3, 3) := by decide +kernel
theorem d_Terms_init_4 : decode b_Terms_init 4 = .ok (.aload_n 0, 1) := by decide +kernel
theorem d_Terms_init_5 : decode b_Terms_init 5 = .ok (.aload_n 1, 1) := by decide +kernel
