theorem d_Exc_init_1_0 : decode b_Exc_init_1 0 = .ok (.aload_n 0, 1) := by decide +kernel
theorem d_Exc_init_1_1 : decode b_Exc_init_1 1 = .ok (.aload_n 1, 1) := by decide +kernel
theorem d_Exc_init_1_2 : decode b_Exc_init_1 2 = .ok (.aload_n 2, 1) := by decide +kernel
theorem d_Exc_init_1_3 : decode b_Exc_init_1 3 = .ok (.iload_n 3, 1) := by decide +kernel
theorem d_Exc_init_1_4 : decode b_Exc_init_1 4 = .ok (.iload 4, 2) := by decide +kernel
theorem d_Exc_init_1_6 : decode b_Exc_init_1 6 = .ok (.invokespecial 16, 3) := by decide +kernel
theorem d_Exc_init_1_9 : decode b_Exc_init_1 9 = .ok (.return_, 1) := by decide +kernel
theorem d_Rte_init_1_0 : decode b_Rte_init_1 0 = .ok (.aload_n 0, 1) := by decide +kernel
theorem d_Rte_init_1_1 : decode b_Rte_init_1 1 = .ok (.aload_n 1, 1) := by decide +kernel
theorem d_Rte_init_1_2 : decode b_Rte_init_1 2 = .ok (.aload_n 2, 1) := by decide +kernel
theorem d_Rte_init_1_3 : decode b_Rte_init_1 3 = .ok (.iload_n 3, 1) := by decide +kernel
theorem d_Rte_init_1_4 : decode b_Rte_init_1 4 = .ok (.iload 4, 2) := by decide +kernel
theorem d_Rte_init_1_6 : decode b_Rte_init_1 6 = .ok (.invokespecial 16, 3) := by decide +kernel
theorem d_Rte_init_1_9 : decode b_Rte_init_1 9 = .ok (.return_, 1) := by decide +kernel
theorem d_Thr_init_1_0 : decode b_Thr_init_1 0 = .ok (.aload_n 0, 1) := by decide +kernel
theorem d_Thr_init_1_1 : decode b_Thr_init_1 1 = .ok (.invokespecial 1, 3) := by decide +kernel
theorem d_Thr_init_1_4 : decode b_Thr_init_1 4 = .ok (.aload_n 0, 1) := by decide +kernel
theorem d_Thr_init_1_5 : decode b_Thr_init_1 5 = .ok (.aload_n 0, 1) := by decide +kernel
theorem d_Thr_init_1_6 : decode b_Thr_init_1 6 = .ok (.putfield 7, 3) := by decide +kernel
theorem d_Thr_init_1_9 : decode b_Thr_init_1 9 = .ok (.aload_n 0, 1) := by decide +kernel
theorem d_Thr_init_1_10 : decode b_Thr_init_1 10 = .ok (.getstatic 13, 3) := by decide +kernel
theorem d_Thr_init_1_13 : decode b_Thr_init_1 13 = .ok (.putfield 17, 3) := by decide +kernel
theorem d_Thr_init_1_16 : decode b_Thr_init_1 16 = .ok (.aload_n 0, 1) := by decide +kernel
theorem d_Thr_init_1_17 : decode b_Thr_init_1 17 = .ok (.getstatic 20, 3) := by decide +kernel
theorem d_Thr_init_1_20 : decode b_Thr_init_1 20 = .ok (.putfield 24, 3) := by decide +kernel
theorem d_Thr_init_1_23 : decode b_Thr_init_1 23 = .ok (.iload 4, 2) := by decide +kernel
theorem d_Thr_init_1_25 : decode b_Thr_init_1 25 = .ok (.ifCond .eq 11, 3) := by decide +kernel
theorem d_Thr_init_1_36 : decode b_Thr_init_1 36 = .ok (.aload_n 0, 1) := by decide +kernel
theorem d_Thr_init_1_37 : decode b_Thr_init_1 37 = .ok (.aconst_null, 1) := by decide +kernel
theorem d_Thr_init_1_38 : decode b_Thr_init_1 38 = .ok (.putfield 17, 3) := by decide +kernel
theorem d_Thr_init_1_41 : decode b_Thr_init_1 41 = .ok (.aload_n 0, 1) := by decide +kernel
theorem d_Thr_init_1_42 : decode b_Thr_init_1 42 = .ok (.aload_n 1, 1) := by decide +kernel
theorem d_Thr_init_1_43 : decode b_Thr_init_1 43 = .ok (.putfield 31, 3) := by decide +kernel
theorem d_Thr_init_1_46 : decode b_Thr_init_1 46 = .ok (.aload_n 0, 1) := by decide +kernel
theorem d_Thr_init_1_47 : decode b_Thr_init_1 47 = .ok (.aload_n 2, 1) := by decide +kernel
theorem d_Thr_init_1_48 : decode b_Thr_init_1 48 = .ok (.putfield 7, 3) := by decide +kernel
theorem d_Thr_init_1_51 : decode b_Thr_init_1 51 = .ok (.iload_n 3, 1) := by decide +kernel
theorem d_Thr_init_1_52 : decode b_Thr_init_1 52 = .ok (.ifCond .ne 8, 3) := by decide +kernel
theorem d_Thr_init_1_55 : decode b_Thr_init_1 55 = .ok (.aload_n 0, 1) := by decide +kernel
theorem d_Thr_init_1_56 : decode b_Thr_init_1 56 = .ok (.aconst_null, 1) := by decide +kernel
theorem d_Thr_init_1_57 : decode b_Thr_init_1 57 = .ok (.putfield 24, 3) := by decide +kernel
theorem d_Thr_init_1_60 : decode b_Thr_init_1 60 = .ok (.return_, 1) := by decide +kernel
theorem d_Wro_init_0 : decode b_Wro_init 0 = .ok (.aload_n 0, 1) := by decide +kernel
theorem d_Wro_init_1 : decode b_Wro_init 1 = .ok (.aconst_null, 1) := by decide +kernel
theorem d_Wro_init_2 : decode b_Wro_init 2 = .ok (.aconst_null, 1) := by decide +kernel
theorem d_Wro_init_3 : decode b_Wro_init 3 = .ok (.iconst 0, 1) := by decide +kernel
theorem d_Wro_init_4 : decode b_Wro_init 4 = .ok (.iconst 0, 1) := by decide +kernel
theorem d_Wro_init_5 : decode b_Wro_init 5 = .ok (.invokespecial 1, 3) := by decide +kernel
theorem d_Wro_init_8 : decode b_Wro_init 8 = .ok (.aload_n 0, 1) := by decide +kernel
theorem d_Wro_init_9 : decode b_Wro_init 9 = .ok (.iload_n 1, 1) := by decide +kernel
theorem d_Wro_init_10 : decode b_Wro_init 10 = .ok (.putfield 7, 3) := by decide +kernel
theorem d_Wro_init_13 : decode b_Wro_init 13 = .ok (.aload_n 0, 1) := by decide +kernel
theorem d_Wro_init_14 : decode b_Wro_init 14 = .ok (.iload_n 2, 1) := by decide +kernel
theorem d_Wro_init_15 : decode b_Wro_init 15 = .ok (.putfield 13, 3) := by decide +kernel
theorem d_Wro_init_18 : decode b_Wro_init 18 = .ok (.return_, 1) := by decide +kernel
