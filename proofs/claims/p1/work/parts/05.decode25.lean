theorem d_Par_init_61 : decode b_Par_init 61 = .ok (.aload_n 0, 1) := by decide +kernel
theorem d_Par_init_62 : decode b_Par_init 62 = .ok (.new 31, 3) := by decide +kernel
theorem d_Par_init_65 : decode b_Par_init 65 = .ok (.dup, 1) := by decide +kernel
theorem d_Par_init_66 : decode b_Par_init 66 = .ok (.bipush 32, 2) := by decide +kernel
theorem d_Par_init_68 : decode b_Par_init 68 = .ok (.ldc 33, 2) := by decide +kernel
theorem d_Par_init_70 : decode b_Par_init 70 = .ok (.invokespecial 34, 3) := by decide +kernel
theorem d_Par_init_73 : decode b_Par_init 73 = .ok (.putfield 43, 3) := by decide +kernel
theorem d_Par_init_76 : decode b_Par_init 76 = .ok (.aload_n 0, 1) := by decide +kernel
theorem d_Par_init_77 : decode b_Par_init 77 = .ok (.new 31, 3) := by decide +kernel
theorem d_Par_init_80 : decode b_Par_init 80 = .ok (.dup, 1) := by decide +kernel
theorem d_Par_init_81 : decode b_Par_init 81 = .ok (.bipush 32, 2) := by decide +kernel
theorem d_Par_init_83 : decode b_Par_init 83 = .ok (.ldc 33, 2) := by decide +kernel
theorem d_Par_init_85 : decode b_Par_init 85 = .ok (.invokespecial 34, 3) := by decide +kernel
theorem d_Par_init_88 : decode b_Par_init 88 = .ok (.putfield 46, 3) := by decide +kernel
theorem d_Par_init_91 : decode b_Par_init 91 = .ok (.return_, 1) := by decide +kernel
theorem d_Pri_init_0 : decode b_Pri_init 0 = .ok (.aload_n 0, 1) := by decide +kernel
theorem d_Pri_init_1 : decode b_Pri_init 1 = .ok (.invokespecial 3, 3) := by decide +kernel
theorem d_Pri_init_4 : decode b_Pri_init 4 = .ok (.aload_n 0, 1) := by decide +kernel
theorem d_Pri_init_5 : decode b_Pri_init 5 = .ok (.aload_n 1, 1) := by decide +kernel
theorem d_Pri_init_6 : decode b_Pri_init 6 = .ok (.putfield 9, 3) := by decide +kernel
theorem d_Pri_init_9 : decode b_Pri_init 9 = .ok (.aload_n 0, 1) := by decide +kernel
theorem d_Pri_init_10 : decode b_Pri_init 10 = .ok (.aload_n 2, 1) := by decide +kernel
theorem d_Pri_init_11 : decode b_Pri_init 11 = .ok (.putfield 15, 3) := by decide +kernel
theorem d_Pri_init_14 : decode b_Pri_init 14 = .ok (.aload_n 0, 1) := by decide +kernel
theorem d_Pri_init_15 : decode b_Pri_init 15 = .ok (.aload_n 3, 1) := by decide +kernel
theorem d_Pri_init_16 : decode b_Pri_init 16 = .ok (.putfield 19, 3) := by decide +kernel
theorem d_Pri_init_19 : decode b_Pri_init 19 = .ok (.aload_n 0, 1) := by decide +kernel
theorem d_Pri_init_20 : decode b_Pri_init 20 = .ok (.new 23, 3) := by decide +kernel
theorem d_Pri_init_23 : decode b_Pri_init 23 = .ok (.dup, 1) := by decide +kernel
theorem d_Pri_init_24 : decode b_Pri_init 24 = .ok (.bipush 96, 2) := by decide +kernel
theorem d_Pri_init_26 : decode b_Pri_init 26 = .ok (.ldc 25, 2) := by decide +kernel
theorem d_Pri_init_28 : decode b_Pri_init 28 = .ok (.invokespecial 26, 3) := by decide +kernel
theorem d_Pri_init_31 : decode b_Pri_init 31 = .ok (.putfield 29, 3) := by decide +kernel
theorem d_Pri_init_34 : decode b_Pri_init 34 = .ok (.return_, 1) := by decide +kernel
theorem d_Red_init_0 : decode b_Red_init 0 = .ok (.aload_n 0, 1) := by decide +kernel
theorem d_Red_init_1 : decode b_Red_init 1 = .ok (.invokespecial 3, 3) := by decide +kernel
theorem d_Red_init_4 : decode b_Red_init 4 = .ok (.aload_n 0, 1) := by decide +kernel
theorem d_Red_init_5 : decode b_Red_init 5 = .ok (.aload_n 1, 1) := by decide +kernel
theorem d_Red_init_6 : decode b_Red_init 6 = .ok (.putfield 9, 3) := by decide +kernel
theorem d_Red_init_9 : decode b_Red_init 9 = .ok (.aload_n 0, 1) := by decide +kernel
theorem d_Red_init_10 : decode b_Red_init 10 = .ok (.aload_n 2, 1) := by decide +kernel
theorem d_Red_init_11 : decode b_Red_init 11 = .ok (.putfield 15, 3) := by decide +kernel
theorem d_Red_init_14 : decode b_Red_init 14 = .ok (.aload_n 0, 1) := by decide +kernel
theorem d_Red_init_15 : decode b_Red_init 15 = .ok (.aload_n 3, 1) := by decide +kernel
theorem d_Red_init_16 : decode b_Red_init 16 = .ok (.putfield 19, 3) := by decide +kernel
theorem d_Red_init_19 : decode b_Red_init 19 = .ok (.aload_n 0, 1) := by decide +kernel
theorem d_Red_init_20 : decode b_Red_init 20 = .ok (.aload 4, 2) := by decide +kernel
theorem d_Red_init_22 : decode b_Red_init 22 = .ok (.putfield 23, 3) := by decide +kernel
theorem d_Red_init_25 : decode b_Red_init 25 = .ok (.aload_n 0, 1) := by decide +kernel
theorem d_Red_init_26 : decode b_Red_init 26 = .ok (.new 27, 3) := by decide +kernel
theorem d_Red_init_29 : decode b_Red_init 29 = .ok (.dup, 1) := by decide +kernel
theorem d_Red_init_30 : decode b_Red_init 30 = .ok (.bipush 32, 2) := by decide +kernel
theorem d_Red_init_32 : decode b_Red_init 32 = .ok (.ldc 29, 2) := by decide +kernel
theorem d_Red_init_34 : decode b_Red_init 34 = .ok (.invokespecial 30, 3) := by decide +kernel
theorem d_Red_init_37 : decode b_Red_init 37 = .ok (.putfield 33, 3) := by decide +kernel
theorem d_Red_init_40 : decode b_Red_init 40 = .ok (.return_, 1) := by decide +kernel
theorem d_Row_at_0 : decode b_Row_at 0 = .ok (.iload_n 1, 1) := by decide +kernel
theorem d_Row_at_1 : decode b_Row_at 1 = .ok (.ifCond .lt 20, 3) := by decide +kernel
theorem d_Row_at_4 : decode b_Row_at 4 = .ok (.iload_n 1, 1) := by decide +kernel
theorem d_Row_at_5 : decode b_Row_at 5 = .ok (.aload_n 0, 1) := by decide +kernel
