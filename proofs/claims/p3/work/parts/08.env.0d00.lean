theorem d_Env_fact_0 : decode b_Env_fact 0 = .ok (.aload_n 0, 1) := by decide +kernel
theorem d_Env_fact_1 : decode b_Env_fact 1 = .ok (.getfield 15, 3) := by decide +kernel
theorem d_Env_fact_4 : decode b_Env_fact 4 = .ok (.iload_n 1, 1) := by decide +kernel
theorem d_Env_fact_5 : decode b_Env_fact 5 = .ok (.bipush 12, 2) := by decide +kernel
theorem d_Env_fact_7 : decode b_Env_fact 7 = .ok (.imul, 1) := by decide +kernel
theorem d_Env_fact_8 : decode b_Env_fact 8 = .ok (.iload_n 2, 1) := by decide +kernel
theorem d_Env_fact_9 : decode b_Env_fact 9 = .ok (.iadd, 1) := by decide +kernel
theorem d_Env_fact_10 : decode b_Env_fact 10 = .ok (.invokevirtual 36, 3) := by decide +kernel
theorem d_Env_fact_13 : decode b_Env_fact 13 = .ok (.ireturn, 1) := by decide +kernel
theorem d_Env_fix_0 : decode b_Env_fix 0 = .ok (.aload_n 0, 1) := by decide +kernel
theorem d_Env_fix_1 : decode b_Env_fix 1 = .ok (.getfield 15, 3) := by decide +kernel
theorem d_Env_fix_4 : decode b_Env_fix 4 = .ok (.iload_n 1, 1) := by decide +kernel
theorem d_Env_fix_5 : decode b_Env_fix 5 = .ok (.bipush 12, 2) := by decide +kernel
theorem d_Env_fix_7 : decode b_Env_fix 7 = .ok (.imul, 1) := by decide +kernel
theorem d_Env_fix_8 : decode b_Env_fix 8 = .ok (.iload_n 2, 1) := by decide +kernel
theorem d_Env_fix_9 : decode b_Env_fix 9 = .ok (.iadd, 1) := by decide +kernel
theorem d_Env_fix_10 : decode b_Env_fix 10 = .ok (.iload_n 3, 1) := by decide +kernel
theorem d_Env_fix_11 : decode b_Env_fix 11 = .ok (.invokevirtual 40, 3) := by decide +kernel
theorem d_Env_fix_14 : decode b_Env_fix 14 = .ok (.return_, 1) := by decide +kernel
theorem d_Env_length_0 : decode b_Env_length 0 = .ok (.aload_n 0, 1) := by decide +kernel
theorem d_Env_length_1 : decode b_Env_length 1 = .ok (.getfield 15, 3) := by decide +kernel
theorem d_Env_length_4 : decode b_Env_length 4 = .ok (.invokevirtual 24, 3) := by decide +kernel
theorem d_Env_length_7 : decode b_Env_length 7 = .ok (.bipush 12, 2) := by decide +kernel
theorem d_Env_length_9 : decode b_Env_length 9 = .ok (.idiv, 1) := by decide +kernel
theorem d_Env_length_10 : decode b_Env_length 10 = .ok (.ireturn, 1) := by decide +kernel
theorem d_Env_sizes_0 : decode b_Env_sizes 0 = .ok (.aload_n 0, 1) := by decide +kernel
theorem d_Env_sizes_1 : decode b_Env_sizes 1 = .ok (.getfield 28, 3) := by decide +kernel
theorem d_Env_sizes_4 : decode b_Env_sizes 4 = .ok (.ireturn, 1) := by decide +kernel
theorem d_Env_addSizes_0 : decode b_Env_addSizes 0 = .ok (.aload_n 0, 1) := by decide +kernel
theorem d_Env_addSizes_1 : decode b_Env_addSizes 1 = .ok (.dup, 1) := by decide +kernel
theorem d_Env_addSizes_2 : decode b_Env_addSizes 2 = .ok (.getfield 28, 3) := by decide +kernel
theorem d_Env_addSizes_5 : decode b_Env_addSizes 5 = .ok (.iload_n 1, 1) := by decide +kernel
theorem d_Env_addSizes_6 : decode b_Env_addSizes 6 = .ok (.iadd, 1) := by decide +kernel
theorem d_Env_addSizes_7 : decode b_Env_addSizes 7 = .ok (.putfield 28, 3) := by decide +kernel
theorem d_Env_addSizes_10 : decode b_Env_addSizes 10 = .ok (.return_, 1) := by decide +kernel
