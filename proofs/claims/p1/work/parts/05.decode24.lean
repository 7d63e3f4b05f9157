theorem d_Mod_reset_15 : decode b_Mod_reset 15 = .ok (.aload_n 0, 1) := by decide +kernel
theorem d_Mod_reset_16 : decode b_Mod_reset 16 = .ok (.iconst 0, 1) := by decide +kernel
theorem d_Mod_reset_17 : decode b_Mod_reset 17 = .ok (.putfield 104, 3) := by decide +kernel
theorem d_Mod_reset_20 : decode b_Mod_reset 20 = .ok (.aload_n 0, 1) := by decide +kernel
theorem d_Mod_reset_21 : decode b_Mod_reset 21 = .ok (.iconst 0, 1) := by decide +kernel
theorem d_Mod_reset_22 : decode b_Mod_reset 22 = .ok (.putfield 147, 3) := by decide +kernel
theorem d_Mod_reset_25 : decode b_Mod_reset 25 = .ok (.aload_n 0, 1) := by decide +kernel
theorem d_Mod_reset_26 : decode b_Mod_reset 26 = .ok (.iconst 0, 1) := by decide +kernel
theorem d_Mod_reset_27 : decode b_Mod_reset 27 = .ok (.putfield 150, 3) := by decide +kernel
theorem d_Mod_reset_30 : decode b_Mod_reset 30 = .ok (.aload_n 0, 1) := by decide +kernel
theorem d_Mod_reset_31 : decode b_Mod_reset 31 = .ok (.iconst 0, 1) := by decide +kernel
theorem d_Mod_reset_32 : decode b_Mod_reset 32 = .ok (.putfield 101, 3) := by decide +kernel
theorem d_Mod_reset_35 : decode b_Mod_reset 35 = .ok (.iload_n 1, 1) := by decide +kernel
theorem d_Mod_reset_36 : decode b_Mod_reset 36 = .ok (.ireturn, 1) := by decide +kernel
theorem d_Mod_show_0 : decode b_Mod_show 0 = .ok (.aload_n 0, 1) := by decide +kernel
theorem d_Mod_show_1 : decode b_Mod_show 1 = .ok (.iload_n 1, 1) := by decide +kernel
theorem d_Mod_show_2 : decode b_Mod_show 2 = .ok (.invokevirtual 577, 3) := by decide +kernel
theorem d_Mod_show_5 : decode b_Mod_show 5 = .ok (.ifCond .ne 52, 3) := by decide +kernel
theorem d_Mod_show_57 : decode b_Mod_show 57 = .ok (.iconst 0, 1) := by decide +kernel
theorem d_Mod_show_58 : decode b_Mod_show 58 = .ok (.ireturn, 1) := by decide +kernel
theorem d_Mod_showRec_0 : decode b_Mod_showRec 0 = .ok (.aload_n 0, 1) := by decide +kernel
theorem d_Mod_showRec_1 : decode b_Mod_showRec 1 = .ok (.iload_n 1, 1) := by decide +kernel
theorem d_Mod_showRec_2 : decode b_Mod_showRec 2 = .ok (.invokevirtual 577, 3) := by decide +kernel
theorem d_Mod_showRec_5 : decode b_Mod_showRec 5 = .ok (.ifCond .ne 62, 3) := by decide +kernel
theorem d_Mod_showRec_67 : decode b_Mod_showRec 67 = .ok (.iconst 0, 1) := by decide +kernel
theorem d_Mod_showRec_68 : decode b_Mod_showRec 68 = .ok (.ireturn, 1) := by decide +kernel
theorem d_Mod_thrown_0 : decode b_Mod_thrown 0 = .ok (.aload_n 0, 1) := by decide +kernel
theorem d_Mod_thrown_1 : decode b_Mod_thrown 1 = .ok (.getfield 29, 3) := by decide +kernel
theorem d_Mod_thrown_4 : decode b_Mod_thrown 4 = .ok (.ireturn, 1) := by decide +kernel
theorem d_Par_init_0 : decode b_Par_init 0 = .ok (.aload_n 0, 1) := by decide +kernel
theorem d_Par_init_1 : decode b_Par_init 1 = .ok (.invokespecial 3, 3) := by decide +kernel
theorem d_Par_init_4 : decode b_Par_init 4 = .ok (.aload_n 0, 1) := by decide +kernel
theorem d_Par_init_5 : decode b_Par_init 5 = .ok (.aload_n 1, 1) := by decide +kernel
theorem d_Par_init_6 : decode b_Par_init 6 = .ok (.putfield 9, 3) := by decide +kernel
theorem d_Par_init_9 : decode b_Par_init 9 = .ok (.aload_n 0, 1) := by decide +kernel
theorem d_Par_init_10 : decode b_Par_init 10 = .ok (.aload_n 2, 1) := by decide +kernel
theorem d_Par_init_11 : decode b_Par_init 11 = .ok (.putfield 15, 3) := by decide +kernel
theorem d_Par_init_14 : decode b_Par_init 14 = .ok (.aload_n 0, 1) := by decide +kernel
theorem d_Par_init_15 : decode b_Par_init 15 = .ok (.aload_n 3, 1) := by decide +kernel
theorem d_Par_init_16 : decode b_Par_init 16 = .ok (.putfield 19, 3) := by decide +kernel
theorem d_Par_init_19 : decode b_Par_init 19 = .ok (.aload_n 0, 1) := by decide +kernel
theorem d_Par_init_20 : decode b_Par_init 20 = .ok (.aload 4, 2) := by decide +kernel
theorem d_Par_init_22 : decode b_Par_init 22 = .ok (.putfield 23, 3) := by decide +kernel
theorem d_Par_init_25 : decode b_Par_init 25 = .ok (.aload_n 0, 1) := by decide +kernel
theorem d_Par_init_26 : decode b_Par_init 26 = .ok (.aload 5, 2) := by decide +kernel
theorem d_Par_init_28 : decode b_Par_init 28 = .ok (.putfield 27, 3) := by decide +kernel
theorem d_Par_init_31 : decode b_Par_init 31 = .ok (.aload_n 0, 1) := by decide +kernel
theorem d_Par_init_32 : decode b_Par_init 32 = .ok (.new 31, 3) := by decide +kernel
theorem d_Par_init_35 : decode b_Par_init 35 = .ok (.dup, 1) := by decide +kernel
theorem d_Par_init_36 : decode b_Par_init 36 = .ok (.bipush 48, 2) := by decide +kernel
theorem d_Par_init_38 : decode b_Par_init 38 = .ok (.ldc 33, 2) := by decide +kernel
theorem d_Par_init_40 : decode b_Par_init 40 = .ok (.invokespecial 34, 3) := by decide +kernel
theorem d_Par_init_43 : decode b_Par_init 43 = .ok (.putfield 37, 3) := by decide +kernel
theorem d_Par_init_46 : decode b_Par_init 46 = .ok (.aload_n 0, 1) := by decide +kernel
theorem d_Par_init_47 : decode b_Par_init 47 = .ok (.new 31, 3) := by decide +kernel
theorem d_Par_init_50 : decode b_Par_init 50 = .ok (.dup, 1) := by decide +kernel
theorem d_Par_init_51 : decode b_Par_init 51 = .ok (.bipush 32, 2) := by decide +kernel
theorem d_Par_init_53 : decode b_Par_init 53 = .ok (.ldc 33, 2) := by decide +kernel
theorem d_Par_init_55 : decode b_Par_init 55 = .ok (.invokespecial 34, 3) := by decide +kernel
theorem d_Par_init_58 : decode b_Par_init 58 = .ok (.putfield 40, 3) := by decide +kernel
