theorem d_Fam_init_38 : decode b_Fam_init 38 = .ok (.ldc 33, 2) := by decide +kernel
theorem d_Fam_init_40 : decode b_Fam_init 40 = .ok (.invokespecial 34, 3) := by decide +kernel
theorem d_Fam_init_43 : decode b_Fam_init 43 = .ok (.putfield 37, 3) := by decide +kernel
theorem d_Fam_init_46 : decode b_Fam_init 46 = .ok (.aload_n 0, 1) := by decide +kernel
theorem d_Fam_init_47 : decode b_Fam_init 47 = .ok (.new 31, 3) := by decide +kernel
theorem d_Fam_init_50 : decode b_Fam_init 50 = .ok (.dup, 1) := by decide +kernel
theorem d_Fam_init_51 : decode b_Fam_init 51 = .ok (.bipush 16, 2) := by decide +kernel
theorem d_Fam_init_53 : decode b_Fam_init 53 = .ok (.ldc 33, 2) := by decide +kernel
theorem d_Fam_init_55 : decode b_Fam_init 55 = .ok (.invokespecial 34, 3) := by decide +kernel
theorem d_Fam_init_58 : decode b_Fam_init 58 = .ok (.putfield 41, 3) := by decide +kernel
theorem d_Fam_init_61 : decode b_Fam_init 61 = .ok (.aload_n 0, 1) := by decide +kernel
theorem d_Fam_init_62 : decode b_Fam_init 62 = .ok (.new 31, 3) := by decide +kernel
theorem d_Fam_init_65 : decode b_Fam_init 65 = .ok (.dup, 1) := by decide +kernel
theorem d_Fam_init_66 : decode b_Fam_init 66 = .ok (.bipush 16, 2) := by decide +kernel
theorem d_Fam_init_68 : decode b_Fam_init 68 = .ok (.ldc 33, 2) := by decide +kernel
theorem d_Fam_init_70 : decode b_Fam_init 70 = .ok (.invokespecial 34, 3) := by decide +kernel
theorem d_Fam_init_73 : decode b_Fam_init 73 = .ok (.putfield 44, 3) := by decide +kernel
theorem d_Fam_init_76 : decode b_Fam_init 76 = .ok (.aload_n 0, 1) := by decide +kernel
theorem d_Fam_init_77 : decode b_Fam_init 77 = .ok (.new 31, 3) := by decide +kernel
theorem d_Fam_init_80 : decode b_Fam_init 80 = .ok (.dup, 1) := by decide +kernel
theorem d_Fam_init_81 : decode b_Fam_init 81 = .ok (.bipush 16, 2) := by decide +kernel
theorem d_Fam_init_83 : decode b_Fam_init 83 = .ok (.ldc 33, 2) := by decide +kernel
theorem d_Fam_init_85 : decode b_Fam_init 85 = .ok (.invokespecial 34, 3) := by decide +kernel
theorem d_Fam_init_88 : decode b_Fam_init 88 = .ok (.putfield 47, 3) := by decide +kernel
theorem d_Fam_init_91 : decode b_Fam_init 91 = .ok (.aload_n 0, 1) := by decide +kernel
theorem d_Fam_init_92 : decode b_Fam_init 92 = .ok (.new 31, 3) := by decide +kernel
theorem d_Fam_init_95 : decode b_Fam_init 95 = .ok (.dup, 1) := by decide +kernel
theorem d_Fam_init_96 : decode b_Fam_init 96 = .ok (.bipush 16, 2) := by decide +kernel
theorem d_Fam_init_98 : decode b_Fam_init 98 = .ok (.ldc 33, 2) := by decide +kernel
theorem d_Fam_init_100 : decode b_Fam_init 100 = .ok (.invokespecial 34, 3) := by decide +kernel
theorem d_Fam_init_103 : decode b_Fam_init 103 = .ok (.putfield 50, 3) := by decide +kernel
theorem d_Fam_init_106 : decode b_Fam_init 106 = .ok (.return_, 1) := by decide +kernel
theorem d_Fra_init_0 : decode b_Fra_init 0 = .ok (.aload_n 0, 1) := by decide +kernel
theorem d_Fra_init_1 : decode b_Fra_init 1 = .ok (.invokespecial 3, 3) := by decide +kernel
theorem d_Fra_init_4 : decode b_Fra_init 4 = .ok (.aload_n 0, 1) := by decide +kernel
theorem d_Fra_init_5 : decode b_Fra_init 5 = .ok (.new 9, 3) := by decide +kernel
theorem d_Fra_init_8 : decode b_Fra_init 8 = .ok (.dup, 1) := by decide +kernel
theorem d_Fra_init_9 : decode b_Fra_init 9 = .ok (.sipush 160, 3) := by decide +kernel
theorem d_Fra_init_12 : decode b_Fra_init 12 = .ok (.ldc 13, 2) := by decide +kernel
theorem d_Fra_init_14 : decode b_Fra_init 14 = .ok (.invokespecial 14, 3) := by decide +kernel
theorem d_Fra_init_17 : decode b_Fra_init 17 = .ok (.putfield 17, 3) := by decide +kernel
theorem d_Fra_init_20 : decode b_Fra_init 20 = .ok (.aload_n 0, 1) := by decide +kernel
theorem d_Fra_init_21 : decode b_Fra_init 21 = .ok (.new 9, 3) := by decide +kernel
theorem d_Fra_init_24 : decode b_Fra_init 24 = .ok (.dup, 1) := by decide +kernel
theorem d_Fra_init_25 : decode b_Fra_init 25 = .ok (.bipush 32, 2) := by decide +kernel
theorem d_Fra_init_27 : decode b_Fra_init 27 = .ok (.ldc 13, 2) := by decide +kernel
theorem d_Fra_init_29 : decode b_Fra_init 29 = .ok (.invokespecial 14, 3) := by decide +kernel
theorem d_Fra_init_32 : decode b_Fra_init 32 = .ok (.putfield 21, 3) := by decide +kernel
theorem d_Fra_init_35 : decode b_Fra_init 35 = .ok (.return_, 1) := by decide +kernel
theorem d_Ker_constant_0 : decode b_Ker_constant 0 = .ok (.iload_n 1, 1) := by decide +kernel
theorem d_Ker_constant_1 : decode b_Ker_constant 1 = .ok (.ifCond .lt 14, 3) := by decide +kernel
theorem d_Ker_constant_4 : decode b_Ker_constant 4 = .ok (.iload_n 1, 1) := by decide +kernel
theorem d_Ker_constant_5 : decode b_Ker_constant 5 = .ok (.aload_n 0, 1) := by decide +kernel
theorem d_Ker_constant_6 : decode b_Ker_constant 6 = .ok (.getfield 41, 3) := by decide +kernel
theorem d_Ker_constant_9 : decode b_Ker_constant 9 = .ok (.invokevirtual 133, 3) := by decide +kernel
theorem d_Ker_constant_12 : decode b_Ker_constant 12 = .ok (.if_icmp .lt 11, 3) := by decide +kernel
theorem d_Ker_constant_15 : decode b_Ker_constant 15 = .ok (.new 336, 3) := by decide +kernel
theorem d_Ker_constant_18 : decode b_Ker_constant 18 = .ok (.dup, 1) := by decide +kernel
theorem d_Ker_constant_19 : decode b_Ker_constant 19 = .ok (.invokespecial 338, 3) := by decide +kernel
theorem d_Ker_constant_22 : decode b_Ker_constant 22 = .ok (.athrow, 1) := by decide +kernel
