theorem d_Env_cut_19 : decode b_Env_cut 19 = .ok (.invokestatic 66, 3) := by decide +kernel
theorem d_Env_cut_22 : decode b_Env_cut 22 = .ok (.invokevirtual 69, 3) := by decide +kernel
theorem d_Env_cut_25 : decode b_Env_cut 25 = .ok (.aload_n 0, 1) := by decide +kernel
theorem d_Env_cut_26 : decode b_Env_cut 26 = .ok (.getfield 15, 3) := by decide +kernel
theorem d_Env_cut_29 : decode b_Env_cut 29 = .ok (.iload_n 1, 1) := by decide +kernel
theorem d_Env_cut_30 : decode b_Env_cut 30 = .ok (.bipush 12, 2) := by decide +kernel
theorem d_Env_cut_32 : decode b_Env_cut 32 = .ok (.imul, 1) := by decide +kernel
theorem d_Env_cut_33 : decode b_Env_cut 33 = .ok (.invokevirtual 69, 3) := by decide +kernel
theorem d_Env_cut_36 : decode b_Env_cut 36 = .ok (.return_, 1) := by decide +kernel
theorem d_Env_clear_0 : decode b_Env_clear 0 = .ok (.aload_n 0, 1) := by decide +kernel
theorem d_Env_clear_1 : decode b_Env_clear 1 = .ok (.iconst 0, 1) := by decide +kernel
theorem d_Env_clear_2 : decode b_Env_clear 2 = .ok (.invokevirtual 32, 3) := by decide +kernel
theorem d_Env_clear_5 : decode b_Env_clear 5 = .ok (.aload_n 0, 1) := by decide +kernel
theorem d_Env_clear_6 : decode b_Env_clear 6 = .ok (.iconst 0, 1) := by decide +kernel
theorem d_Env_clear_7 : decode b_Env_clear 7 = .ok (.putfield 28, 3) := by decide +kernel
theorem d_Env_clear_10 : decode b_Env_clear 10 = .ok (.return_, 1) := by decide +kernel
