-- rows that decode each instruction that is walked
theorem d_Env_clear_0 : decode b_Env_clear 0 = .ok (.aload_n 0, 1) := by decide +kernel
theorem d_Env_clear_1 : decode b_Env_clear 1 = .ok (.iconst 0, 1) := by decide +kernel
theorem d_Env_clear_2 : decode b_Env_clear 2 = .ok (.invokevirtual 32, 3) := by decide +kernel
theorem d_Env_clear_5 : decode b_Env_clear 5 = .ok (.aload_n 0, 1) := by decide +kernel
theorem d_Env_clear_6 : decode b_Env_clear 6 = .ok (.iconst 0, 1) := by decide +kernel
theorem d_Env_clear_7 : decode b_Env_clear 7 = .ok (.putfield 28, 3) := by decide +kernel
theorem d_Env_clear_10 : decode b_Env_clear 10 = .ok (.return_, 1) := by decide +kernel
theorem d_Env_cut_0 : decode b_Env_cut 0 = .ok (.iload_n 1, 1) := by decide +kernel
theorem d_Env_cut_1 : decode b_Env_cut 1 = .ok (.aload_n 0, 1) := by decide +kernel
theorem d_Env_cut_2 : decode b_Env_cut 2 = .ok (.invokevirtual 43, 3) := by decide +kernel
theorem d_Env_cut_5 : decode b_Env_cut 5 = .ok (.if_icmp .ge 31, 3) := by decide +kernel
theorem d_Env_cut_36 : decode b_Env_cut 36 = .ok (.return_, 1) := by decide +kernel
theorem d_Env_init_0 : decode b_Env_init 0 = .ok (.aload_n 0, 1) := by decide +kernel
theorem d_Env_init_1 : decode b_Env_init 1 = .ok (.invokespecial 3, 3) := by decide +kernel
theorem d_Env_init_4 : decode b_Env_init 4 = .ok (.aload_n 0, 1) := by decide +kernel
theorem d_Env_init_5 : decode b_Env_init 5 = .ok (.new 9, 3) := by decide +kernel
theorem d_Env_init_8 : decode b_Env_init 8 = .ok (.dup, 1) := by decide +kernel
theorem d_Env_init_9 : decode b_Env_init 9 = .ok (.bipush 96, 2) := by decide +kernel
theorem d_Env_init_11 : decode b_Env_init 11 = .ok (.ldc 11, 2) := by decide +kernel
theorem d_Env_init_13 : decode b_Env_init 13 = .ok (.invokespecial 12, 3) := by decide +kernel
theorem d_Env_init_16 : decode b_Env_init 16 = .ok (.putfield 15, 3) := by decide +kernel
theorem d_Env_init_19 : decode b_Env_init 19 = .ok (.aload_n 0, 1) := by decide +kernel
theorem d_Env_init_20 : decode b_Env_init 20 = .ok (.new 9, 3) := by decide +kernel
theorem d_Env_init_23 : decode b_Env_init 23 = .ok (.dup, 1) := by decide +kernel
theorem d_Env_init_24 : decode b_Env_init 24 = .ok (.bipush 64, 2) := by decide +kernel
theorem d_Env_init_26 : decode b_Env_init 26 = .ok (.ldc 11, 2) := by decide +kernel
theorem d_Env_init_28 : decode b_Env_init 28 = .ok (.invokespecial 12, 3) := by decide +kernel
theorem d_Env_init_31 : decode b_Env_init 31 = .ok (.putfield 21, 3) := by decide +kernel
theorem d_Env_init_34 : decode b_Env_init 34 = .ok (.return_, 1) := by decide +kernel
theorem d_Env_length_0 : decode b_Env_length 0 = .ok (.aload_n 0, 1) := by decide +kernel
theorem d_Env_length_1 : decode b_Env_length 1 = .ok (.getfield 15, 3) := by decide +kernel
theorem d_Env_length_4 : decode b_Env_length 4 = .ok (.invokevirtual 24, 3) := by decide +kernel
theorem d_Env_length_7 : decode b_Env_length 7 = .ok (.bipush 12, 2) := by decide +kernel
theorem d_Env_length_9 : decode b_Env_length 9 = .ok (.idiv, 1) := by decide +kernel
theorem d_Env_length_10 : decode b_Env_length 10 = .ok (.ireturn, 1) := by decide +kernel
theorem d_Env_sizes_0 : decode b_Env_sizes 0 = .ok (.aload_n 0, 1) := by decide +kernel
theorem d_Env_sizes_1 : decode b_Env_sizes 1 = .ok (.getfield 28, 3) := by decide +kernel
theorem d_Env_sizes_4 : decode b_Env_sizes 4 = .ok (.ireturn, 1) := by decide +kernel
theorem d_Fam_init_0 : decode b_Fam_init 0 = .ok (.aload_n 0, 1) := by decide +kernel
theorem d_Fam_init_1 : decode b_Fam_init 1 = .ok (.invokespecial 3, 3) := by decide +kernel
theorem d_Fam_init_4 : decode b_Fam_init 4 = .ok (.aload_n 0, 1) := by decide +kernel
theorem d_Fam_init_5 : decode b_Fam_init 5 = .ok (.aload_n 1, 1) := by decide +kernel
theorem d_Fam_init_6 : decode b_Fam_init 6 = .ok (.putfield 9, 3) := by decide +kernel
theorem d_Fam_init_9 : decode b_Fam_init 9 = .ok (.aload_n 0, 1) := by decide +kernel
theorem d_Fam_init_10 : decode b_Fam_init 10 = .ok (.aload_n 2, 1) := by decide +kernel
theorem d_Fam_init_11 : decode b_Fam_init 11 = .ok (.putfield 15, 3) := by decide +kernel
theorem d_Fam_init_14 : decode b_Fam_init 14 = .ok (.aload_n 0, 1) := by decide +kernel
theorem d_Fam_init_15 : decode b_Fam_init 15 = .ok (.aload_n 3, 1) := by decide +kernel
theorem d_Fam_init_16 : decode b_Fam_init 16 = .ok (.putfield 19, 3) := by decide +kernel
theorem d_Fam_init_19 : decode b_Fam_init 19 = .ok (.aload_n 0, 1) := by decide +kernel
theorem d_Fam_init_20 : decode b_Fam_init 20 = .ok (.aload 4, 2) := by decide +kernel
theorem d_Fam_init_22 : decode b_Fam_init 22 = .ok (.putfield 23, 3) := by decide +kernel
theorem d_Fam_init_25 : decode b_Fam_init 25 = .ok (.aload_n 0, 1) := by decide +kernel
theorem d_Fam_init_26 : decode b_Fam_init 26 = .ok (.aload 5, 2) := by decide +kernel
theorem d_Fam_init_28 : decode b_Fam_init 28 = .ok (.putfield 27, 3) := by decide +kernel
theorem d_Fam_init_31 : decode b_Fam_init 31 = .ok (.aload_n 0, 1) := by decide +kernel
theorem d_Fam_init_32 : decode b_Fam_init 32 = .ok (.new 31, 3) := by decide +kernel
theorem d_Fam_init_35 : decode b_Fam_init 35 = .ok (.dup, 1) := by decide +kernel
theorem d_Fam_init_36 : decode b_Fam_init 36 = .ok (.bipush 16, 2) := by decide +kernel
