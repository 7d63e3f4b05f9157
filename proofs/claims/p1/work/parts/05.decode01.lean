theorem d_Fam_init_83 : decode b_Fam_init 83 = .ok (.ldc 33, 2) := by decide +kernel
theorem d_Fam_init_85 : decode b_Fam_init 85 = .ok (.invokespecial 34, 3) := by decide +kernel
theorem d_Fam_init_88 : decode b_Fam_init 88 = .ok (.putfield 47, 3) := by decide +kernel
theorem d_Fam_init_91 : decode b_Fam_init 91 = .ok (.aload_n 0, 1) := by decide +kernel
theorem d_Fam_init_92 : decode b_Fam_init 92 = .ok (.new 31, 3) := by decide +kernel
theorem d_Fam_init_95 : decode b_Fam_init 95 = .ok (.dup, 1) := by decide +kernel
theorem d_Fam_init_96 : decode b_Fam_init 96 = .ok (.bipush 16, 2) := by decide +kernel
theorem d_Fam_init_98 : decode b_Fam_init 98 = .ok (.ldc 33, 2) := by decide +kernel
theorem d_Fam_init_100 : decode b_Fam_init 100 = .ok (.invokespecial 34, 3) := by decide +kernel
theorem d_Fam_init_103 : decode b_Fam_init 103 = .ok (.putfield 50, 3) := by decide +kernel
theorem d_Fam_init_106 : decode b_Fam_init 106 = .ok (.return_, 1) := by decide +kernel
theorem d_Fra_init_0 : decode b_Fra_init 0 = .ok (.aload_n 0, 1) := by decide +kernel
theorem d_Fra_init_1 : decode b_Fra_init 1 = .ok (.invokespecial 3, 3) := by decide +kernel
theorem d_Fra_init_4 : decode b_Fra_init 4 = .ok (.aload_n 0, 1) := by decide +kernel
theorem d_Fra_init_5 : decode b_Fra_init 5 = .ok (.new 9, 3) := by decide +kernel
theorem d_Fra_init_8 : decode b_Fra_init 8 = .ok (.dup, 1) := by decide +kernel
theorem d_Fra_init_9 : decode b_Fra_init 9 = .ok (.sipush 160, 3) := by decide +kernel
theorem d_Fra_init_12 : decode b_Fra_init 12 = .ok (.ldc 13, 2) := by decide +kernel
theorem d_Fra_init_14 : decode b_Fra_init 14 = .ok (.invokespecial 14, 3) := by decide +kernel
theorem d_Fra_init_17 : decode b_Fra_init 17 = .ok (.putfield 17, 3) := by decide +kernel
theorem d_Fra_init_20 : decode b_Fra_init 20 = .ok (.aload_n 0, 1) := by decide +kernel
theorem d_Fra_init_21 : decode b_Fra_init 21 = .ok (.new 9, 3) := by decide +kernel
theorem d_Fra_init_24 : decode b_Fra_init 24 = .ok (.dup, 1) := by decide +kernel
theorem d_Fra_init_25 : decode b_Fra_init 25 = .ok (.bipush 32, 2) := by decide +kernel
theorem d_Fra_init_27 : decode b_Fra_init 27 = .ok (.ldc 13, 2) := by decide +kernel
theorem d_Fra_init_29 : decode b_Fra_init 29 = .ok (.invokespecial 14, 3) := by decide +kernel
theorem d_Fra_init_32 : decode b_Fra_init 32 = .ok (.putfield 21, 3) := by decide +kernel
theorem d_Fra_init_35 : decode b_Fra_init 35 = .ok (.return_, 1) := by decide +kernel
theorem d_Lex_init_0 : decode b_Lex_init 0 = .ok (.aload_n 0, 1) := by decide +kernel
theorem d_Lex_init_1 : decode b_Lex_init 1 = .ok (.invokespecial 3, 3) := by decide +kernel
theorem d_Lex_init_4 : decode b_Lex_init 4 = .ok (.aload_n 0, 1) := by decide +kernel
theorem d_Lex_init_5 : decode b_Lex_init 5 = .ok (.aload_n 1, 1) := by decide +kernel
theorem d_Lex_init_6 : decode b_Lex_init 6 = .ok (.putfield 9, 3) := by decide +kernel
theorem d_Lex_init_9 : decode b_Lex_init 9 = .ok (.aload_n 0, 1) := by decide +kernel
theorem d_Lex_init_10 : decode b_Lex_init 10 = .ok (.new 15, 3) := by decide +kernel
theorem d_Lex_init_13 : decode b_Lex_init 13 = .ok (.dup, 1) := by decide +kernel
theorem d_Lex_init_14 : decode b_Lex_init 14 = .ok (.bipush 64, 2) := by decide +kernel
theorem d_Lex_init_16 : decode b_Lex_init 16 = .ok (.ldc 17, 2) := by decide +kernel
theorem d_Lex_init_18 : decode b_Lex_init 18 = .ok (.invokespecial 18, 3) := by decide +kernel
theorem d_Lex_init_21 : decode b_Lex_init 21 = .ok (.putfield 21, 3) := by decide +kernel
theorem d_Lex_init_24 : decode b_Lex_init 24 = .ok (.return_, 1) := by decide +kernel
theorem d_Meter_init_0 : decode b_Meter_init 0 = .ok (.aload_n 0, 1) := by decide +kernel
theorem d_Meter_init_1 : decode b_Meter_init 1 = .ok (.invokespecial 3, 3) := by decide +kernel
theorem d_Meter_init_4 : decode b_Meter_init 4 = .ok (.return_, 1) := by decide +kernel
theorem d_Par_init_0 : decode b_Par_init 0 = .ok (.aload_n 0, 1) := by decide +kernel
theorem d_Par_init_1 : decode b_Par_init 1 = .ok (.invokespecial 3, 3) := by decide +kernel
theorem d_Par_init_4 : decode b_Par_init 4 = .ok (.aload_n 0, 1) := by decide +kernel
theorem d_Par_init_5 : decode b_Par_init 5 = .ok (.aload_n 1, 1) := by decide +kernel
theorem d_Par_init_6 : decode b_Par_init 6 = .ok (.putfield 9, 3) := by decide +kernel
theorem d_Par_init_9 : decode b_Par_init 9 = .ok (.aload_n 0, 1) := by decide +kernel
theorem d_Par_init_10 : decode b_Par_init 10 = .ok (.aload_n 2, 1) := by decide +kernel
theorem d_Par_init_11 : decode b_Par_init 11 = .ok (.putfield 15, 3) := by decide +kernel
theorem d_Par_init_14 : decode b_Par_init 14 = .ok (.aload_n 0, 1) := by decide +kernel
theorem d_Par_init_15 : decode b_Par_init 15 = .ok (.aload_n 3, 1) := by decide +kernel
theorem d_Par_init_16 : decode b_Par_init 16 = .ok (.putfield 19, 3) := by decide +kernel
theorem d_Par_init_19 : decode b_Par_init 19 = .ok (.aload_n 0, 1) := by decide +kernel
theorem d_Par_init_20 : decode b_Par_init 20 = .ok (.aload 4, 2) := by decide +kernel
theorem d_Par_init_22 : decode b_Par_init 22 = .ok (.putfield 23, 3) := by decide +kernel
theorem d_Par_init_25 : decode b_Par_init 25 = .ok (.aload_n 0, 1) := by decide +kernel
theorem d_Par_init_26 : decode b_Par_init 26 = .ok (.aload 5, 2) := by decide +kernel
