theorem d_Row_init_0 : decode b_Row_init 0 = .ok (.aload_n 0, 1) := by decide +kernel
theorem d_Row_init_1 : decode b_Row_init 1 = .ok (.invokespecial 1, 3) := by decide +kernel
theorem d_Row_init_4 : decode b_Row_init 4 = .ok (.aload_n 0, 1) := by decide +kernel
theorem d_Row_init_5 : decode b_Row_init 5 = .ok (.iload_n 1, 1) := by decide +kernel
theorem d_Row_init_6 : decode b_Row_init 6 = .ok (.ifCond .le 7, 3) := by decide +kernel
theorem d_Row_init_9 : decode b_Row_init 9 = .ok (.iload_n 1, 1) := by decide +kernel
theorem d_Row_init_10 : decode b_Row_init 10 = .ok (.goto 4, 3) := by decide +kernel
theorem d_Row_init_14 : decode b_Row_init 14 = .ok (.newarray .int, 2) := by decide +kernel
theorem d_Row_init_16 : decode b_Row_init 16 = .ok (.putfield 7, 3) := by decide +kernel
theorem d_Row_init_19 : decode b_Row_init 19 = .ok (.aload_n 0, 1) := by decide +kernel
theorem d_Row_init_20 : decode b_Row_init 20 = .ok (.iload_n 2, 1) := by decide +kernel
theorem d_Row_init_21 : decode b_Row_init 21 = .ok (.putfield 13, 3) := by decide +kernel
theorem d_Row_init_24 : decode b_Row_init 24 = .ok (.return_, 1) := by decide +kernel
theorem d_Meter_init_0 : decode b_Meter_init 0 = .ok (.aload_n 0, 1) := by decide +kernel
theorem d_Meter_init_1 : decode b_Meter_init 1 = .ok (.invokespecial 3, 3) := by decide +kernel
theorem d_Meter_init_4 : decode b_Meter_init 4 = .ok (.return_, 1) := by decide +kernel
theorem d_Env_init_0 : decode b_Env_init 0 = .ok (.aload_n 0, 1) := by decide +kernel
theorem d_Env_init_1 : decode b_Env_init 1 = .ok (.invokespecial 3, 3) := by decide +kernel
theorem d_Env_init_4 : decode b_Env_init 4 = .ok (.aload_n 0, 1) := by decide +kernel
theorem d_Env_init_5 : decode b_Env_init 5 = .ok (.new 9, 3) := by decide +kernel
theorem d_Env_init_8 : decode b_Env_init 8 = .ok (.dup, 1) := by decide +kernel
theorem d_Env_init_9 : decode b_Env_init 9 = .ok (.bipush 96, 2) := by decide +kernel
theorem d_Env_init_11 : decode b_Env_init 11 = .ok (.ldc 11, 2) := by decide +kernel
theorem d_Env_init_13 : decode b_Env_init 13 = .ok (.invokespecial 12, 3) := by decide +kernel
theorem d_Env_init_16 : decode b_Env_init 16 = .ok (.putfield 15, 3) := by decide +kernel
theorem d_Env_init_19 : decode b_Env_init 19 = .ok (.aload_n 0, 1) := by decide +kernel
theorem d_Env_init_20 : decode b_Env_init 20 = .ok (.new 9, 3) := by decide +kernel
theorem d_Env_init_23 : decode b_Env_init 23 = .ok (.dup, 1) := by decide +kernel
theorem d_Env_init_24 : decode b_Env_init 24 = .ok (.bipush 64, 2) := by decide +kernel
theorem d_Env_init_26 : decode b_Env_init 26 = .ok (.ldc 11, 2) := by decide +kernel
theorem d_Env_init_28 : decode b_Env_init 28 = .ok (.invokespecial 12, 3) := by decide +kernel
theorem d_Env_init_31 : decode b_Env_init 31 = .ok (.putfield 21, 3) := by decide +kernel
theorem d_Env_init_34 : decode b_Env_init 34 = .ok (.return_, 1) := by decide +kernel
theorem d_Lex_init_0 : decode b_Lex_init 0 = .ok (.aload_n 0, 1) := by decide +kernel
theorem d_Lex_init_1 : decode b_Lex_init 1 = .ok (.invokespecial 3, 3) := by decide +kernel
theorem d_Lex_init_4 : decode b_Lex_init 4 = .ok (.aload_n 0, 1) := by decide +kernel
theorem d_Lex_init_5 : decode b_Lex_init 5 = .ok (.aload_n 1, 1) := by decide +kernel
theorem d_Lex_init_6 : decode b_Lex_init 6 = .ok (.putfield 9, 3) := by decide +kernel
theorem d_Lex_init_9 : decode b_Lex_init 9 = .ok (.aload_n 0, 1) := by decide +kernel
theorem d_Lex_init_10 : decode b_Lex_init 10 = .ok (.new 15, 3) := by decide +kernel
theorem d_Lex_init_13 : decode b_Lex_init 13 = .ok (.dup, 1) := by decide +kernel
theorem d_Lex_init_14 : decode b_Lex_init 14 = .ok (.bipush 64, 2) := by decide +kernel
theorem d_Lex_init_16 : decode b_Lex_init 16 = .ok (.ldc 17, 2) := by decide +kernel
theorem d_Lex_init_18 : decode b_Lex_init 18 = .ok (.invokespecial 18, 3) := by decide +kernel
theorem d_Lex_init_21 : decode b_Lex_init 21 = .ok (.putfield 21, 3) := by decide +kernel
theorem d_Lex_init_24 : decode b_Lex_init 24 = .ok (.return_, 1) := by decide +kernel
theorem d_Terms_init_0 : decode b_Terms_init 0 = .ok (.aload_n 0, 1) := by decide +kernel
theorem d_Terms_init_1 : decode b_Terms_init 1 = .ok (.invokespecial 3, 3) := by decide +kernel
theorem d_Terms_init_4 : decode b_Terms_init 4 = .ok (.aload_n 0, 1) := by decide +kernel
theorem d_Terms_init_5 : decode b_Terms_init 5 = .ok (.aload_n 1, 1) := by decide +kernel
theorem d_Terms_init_6 : decode b_Terms_init 6 = .ok (.putfield 9, 3) := by decide +kernel
theorem d_Terms_init_9 : decode b_Terms_init 9 = .ok (.aload_n 0, 1) := by decide +kernel
theorem d_Terms_init_10 : decode b_Terms_init 10 = .ok (.new 15, 3) := by decide +kernel
theorem d_Terms_init_13 : decode b_Terms_init 13 = .ok (.dup, 1) := by decide +kernel
theorem d_Terms_init_14 : decode b_Terms_init 14 = .ok (.bipush 64, 2) := by decide +kernel
theorem d_Terms_init_16 : decode b_Terms_init 16 = .ok (.ldc 17, 2) := by decide +kernel
theorem d_Terms_init_18 : decode b_Terms_init 18 = .ok (.invokespecial 18, 3) := by decide +kernel
theorem d_Terms_init_21 : decode b_Terms_init 21 = .ok (.putfield 21, 3) := by decide +kernel
theorem d_Terms_init_24 : decode b_Terms_init 24 = .ok (.aload_n 0, 1) := by decide +kernel
theorem d_Terms_init_25 : decode b_Terms_init 25 = .ok (.new 15, 3) := by decide +kernel
theorem d_Terms_init_28 : decode b_Terms_init 28 = .ok (.dup, 1) := by decide +kernel
theorem d_Terms_init_29 : decode b_Terms_init 29 = .ok (.bipush 64, 2) := by decide +kernel
theorem d_Terms_init_31 : decode b_Terms_init 31 = .ok (.ldc 17, 2) := by decide +kernel
theorem d_Terms_init_33 : decode b_Terms_init 33 = .ok (.invokespecial 18, 3) := by decide +kernel
theorem d_Terms_init_36 : decode b_Terms_init 36 = .ok (.putfield 25, 3) := by decide +kernel
theorem d_Terms_init_39 : decode b_Terms_init 39 = .ok (.aload_n 0, 1) := by decide +kernel
theorem d_Terms_init_40 : decode b_Terms_init 40 = .ok (.new 15, 3) := by decide +kernel
theorem d_Terms_init_43 : decode b_Terms_init 43 = .ok (.dup, 1) := by decide +kernel
theorem d_Terms_init_44 : decode b_Terms_init 44 = .ok (.bipush 64, 2) := by decide +kernel
theorem d_Terms_init_46 : decode b_Terms_init 46 = .ok (.ldc 17, 2) := by decide +kernel
theorem d_Terms_init_48 : decode b_Terms_init 48 = .ok (.invokespecial 18, 3) := by decide +kernel
theorem d_Terms_init_51 : decode b_Terms_init 51 = .ok (.putfield 28, 3) := by decide +kernel
theorem d_Terms_init_54 : decode b_Terms_init 54 = .ok (.aload_n 0, 1) := by decide +kernel
theorem d_Terms_init_55 : decode b_Terms_init 55 = .ok (.sipush 256, 3) := by decide +kernel
theorem d_Terms_init_58 : decode b_Terms_init 58 = .ok (.newarray .long, 2) := by decide +kernel
theorem d_Terms_init_60 : decode b_Terms_init 60 = .ok (.putfield 31, 3) := by decide +kernel
theorem d_Terms_init_63 : decode b_Terms_init 63 = .ok (.aload_n 0, 1) := by decide +kernel
theorem d_Terms_init_64 : decode b_Terms_init 64 = .ok (.sipush 256, 3) := by decide +kernel
theorem d_Terms_init_67 : decode b_Terms_init 67 = .ok (.newarray .int, 2) := by decide +kernel
theorem d_Terms_init_69 : decode b_Terms_init 69 = .ok (.putfield 35, 3) := by decide +kernel
theorem d_Terms_init_72 : decode b_Terms_init 72 = .ok (.aload_n 0, 1) := by decide +kernel
theorem d_Terms_init_73 : decode b_Terms_init 73 = .ok (.sipush 256, 3) := by decide +kernel
theorem d_Terms_init_76 : decode b_Terms_init 76 = .ok (.newarray .int, 2) := by decide +kernel
theorem d_Terms_init_78 : decode b_Terms_init 78 = .ok (.putfield 39, 3) := by decide +kernel
theorem d_Terms_init_81 : decode b_Terms_init 81 = .ok (.aload_n 0, 1) := by decide +kernel
theorem d_Terms_init_82 : decode b_Terms_init 82 = .ok (.sipush 256, 3) := by decide +kernel
theorem d_Terms_init_85 : decode b_Terms_init 85 = .ok (.newarray .int, 2) := by decide +kernel
theorem d_Terms_init_87 : decode b_Terms_init 87 = .ok (.putfield 42, 3) := by decide +kernel
theorem d_Terms_init_90 : decode b_Terms_init 90 = .ok (.aload_n 0, 1) := by decide +kernel
theorem d_Terms_init_91 : decode b_Terms_init 91 = .ok (.sipush 256, 3) := by decide +kernel
theorem d_Terms_init_94 : decode b_Terms_init 94 = .ok (.newarray .int, 2) := by decide +kernel
theorem d_Terms_init_96 : decode b_Terms_init 96 = .ok (.putfield 45, 3) := by decide +kernel
theorem d_Terms_init_99 : decode b_Terms_init 99 = .ok (.return_, 1) := by decide +kernel
theorem d_Par_init_0 : decode b_Par_init 0 = .ok (.aload_n 0, 1) := by decide +kernel
theorem d_Par_init_1 : decode b_Par_init 1 = .ok (.invokespecial 3, 3) := by decide +kernel
theorem d_Par_init_4 : decode b_Par_init 4 = .ok (.aload_n 0, 1) := by decide +kernel
theorem d_Par_init_5 : decode b_Par_init 5 = .ok (.aload_n 1, 1) := by decide +kernel
theorem d_Par_init_6 : decode b_Par_init 6 = .ok (.putfield 9, 3) := by decide +kernel
theorem d_Par_init_9 : decode b_Par_init 9 = .ok (.aload_n 0, 1) := by decide +kernel
theorem d_Par_init_10 : decode b_Par_init 10 = .ok (.aload_n 2, 1) := by decide +kernel
theorem d_Par_init_11 : decode b_Par_init 11 = .ok (.putfield 15, 3) := by decide +kernel
theorem d_Par_init_14 : decode b_Par_init 14 = .ok (.aload_n 0, 1) := by decide +kernel
theorem d_Par_init_15 : decode b_Par_init 15 = .ok (.aload_n 3, 1) := by decide +kernel
theorem d_Par_init_16 : decode b_Par_init 16 = .ok (.putfield 19, 3) := by decide +kernel
theorem d_Par_init_19 : decode b_Par_init 19 = .ok (.aload_n 0, 1) := by decide +kernel
theorem d_Par_init_20 : decode b_Par_init 20 = .ok (.aload 4, 2) := by decide +kernel
theorem d_Par_init_22 : decode b_Par_init 22 = .ok (.putfield 23, 3) := by decide +kernel
theorem d_Par_init_25 : decode b_Par_init 25 = .ok (.aload_n 0, 1) := by decide +kernel
theorem d_Par_init_26 : decode b_Par_init 26 = .ok (.aload 5, 2) := by decide +kernel
theorem d_Par_init_28 : decode b_Par_init 28 = .ok (.putfield 27, 3) := by decide +kernel
theorem d_Par_init_31 : decode b_Par_init 31 = .ok (.aload_n 0, 1) := by decide +kernel
theorem d_Par_init_32 : decode b_Par_init 32 = .ok (.new 31, 3) := by decide +kernel
theorem d_Par_init_35 : decode b_Par_init 35 = .ok (.dup, 1) := by decide +kernel
theorem d_Par_init_36 : decode b_Par_init 36 = .ok (.bipush 48, 2) := by decide +kernel
theorem d_Par_init_38 : decode b_Par_init 38 = .ok (.ldc 33, 2) := by decide +kernel
theorem d_Par_init_40 : decode b_Par_init 40 = .ok (.invokespecial 34, 3) := by decide +kernel
theorem d_Par_init_43 : decode b_Par_init 43 = .ok (.putfield 37, 3) := by decide +kernel
theorem d_Par_init_46 : decode b_Par_init 46 = .ok (.aload_n 0, 1) := by decide +kernel
theorem d_Par_init_47 : decode b_Par_init 47 = .ok (.new 31, 3) := by decide +kernel
theorem d_Par_init_50 : decode b_Par_init 50 = .ok (.dup, 1) := by decide +kernel
theorem d_Par_init_51 : decode b_Par_init 51 = .ok (.bipush 32, 2) := by decide +kernel
theorem d_Par_init_53 : decode b_Par_init 53 = .ok (.ldc 33, 2) := by decide +kernel
theorem d_Par_init_55 : decode b_Par_init 55 = .ok (.invokespecial 34, 3) := by decide +kernel
theorem d_Par_init_58 : decode b_Par_init 58 = .ok (.putfield 40, 3) := by decide +kernel
theorem d_Par_init_61 : decode b_Par_init 61 = .ok (.aload_n 0, 1) := by decide +kernel
theorem d_Par_init_62 : decode b_Par_init 62 = .ok (.new 31, 3) := by decide +kernel
theorem d_Par_init_65 : decode b_Par_init 65 = .ok (.dup, 1) := by decide +kernel
theorem d_Par_init_66 : decode b_Par_init 66 = .ok (.bipush 32, 2) := by decide +kernel
theorem d_Par_init_68 : decode b_Par_init 68 = .ok (.ldc 33, 2) := by decide +kernel
theorem d_Par_init_70 : decode b_Par_init 70 = .ok (.invokespecial 34, 3) := by decide +kernel
theorem d_Par_init_73 : decode b_Par_init 73 = .ok (.putfield 43, 3) := by decide +kernel
theorem d_Par_init_76 : decode b_Par_init 76 = .ok (.aload_n 0, 1) := by decide +kernel
theorem d_Par_init_77 : decode b_Par_init 77 = .ok (.new 31, 3) := by decide +kernel
theorem d_Par_init_80 : decode b_Par_init 80 = .ok (.dup, 1) := by decide +kernel
theorem d_Par_init_81 : decode b_Par_init 81 = .ok (.bipush 32, 2) := by decide +kernel
theorem d_Par_init_83 : decode b_Par_init 83 = .ok (.ldc 33, 2) := by decide +kernel
theorem d_Par_init_85 : decode b_Par_init 85 = .ok (.invokespecial 34, 3) := by decide +kernel
theorem d_Par_init_88 : decode b_Par_init 88 = .ok (.putfield 46, 3) := by decide +kernel
theorem d_Par_init_91 : decode b_Par_init 91 = .ok (.return_, 1) := by decide +kernel
theorem d_Fra_init_0 : decode b_Fra_init 0 = .ok (.aload_n 0, 1) := by decide +kernel
theorem d_Fra_init_1 : decode b_Fra_init 1 = .ok (.invokespecial 3, 3) := by decide +kernel
theorem d_Fra_init_4 : decode b_Fra_init 4 = .ok (.aload_n 0, 1) := by decide +kernel
theorem d_Fra_init_5 : decode b_Fra_init 5 = .ok (.new 9, 3) := by decide +kernel
theorem d_Fra_init_8 : decode b_Fra_init 8 = .ok (.dup, 1) := by decide +kernel
theorem d_Fra_init_9 : decode b_Fra_init 9 = .ok (.sipush 160, 3) := by decide +kernel
theorem d_Fra_init_12 : decode b_Fra_init 12 = .ok (.ldc 13, 2) := by decide +kernel
theorem d_Fra_init_14 : decode b_Fra_init 14 = .ok (.invokespecial 14, 3) := by decide +kernel
theorem d_Fra_init_17 : decode b_Fra_init 17 = .ok (.putfield 17, 3) := by decide +kernel
theorem d_Fra_init_20 : decode b_Fra_init 20 = .ok (.aload_n 0, 1) := by decide +kernel
theorem d_Fra_init_21 : decode b_Fra_init 21 = .ok (.new 9, 3) := by decide +kernel
theorem d_Fra_init_24 : decode b_Fra_init 24 = .ok (.dup, 1) := by decide +kernel
theorem d_Fra_init_25 : decode b_Fra_init 25 = .ok (.bipush 32, 2) := by decide +kernel
theorem d_Fra_init_27 : decode b_Fra_init 27 = .ok (.ldc 13, 2) := by decide +kernel
theorem d_Fra_init_29 : decode b_Fra_init 29 = .ok (.invokespecial 14, 3) := by decide +kernel
theorem d_Fra_init_32 : decode b_Fra_init 32 = .ok (.putfield 21, 3) := by decide +kernel
theorem d_Fra_init_35 : decode b_Fra_init 35 = .ok (.return_, 1) := by decide +kernel
theorem d_Red_init_0 : decode b_Red_init 0 = .ok (.aload_n 0, 1) := by decide +kernel
theorem d_Red_init_1 : decode b_Red_init 1 = .ok (.invokespecial 3, 3) := by decide +kernel
theorem d_Red_init_4 : decode b_Red_init 4 = .ok (.aload_n 0, 1) := by decide +kernel
theorem d_Red_init_5 : decode b_Red_init 5 = .ok (.aload_n 1, 1) := by decide +kernel
theorem d_Red_init_6 : decode b_Red_init 6 = .ok (.putfield 9, 3) := by decide +kernel
theorem d_Red_init_9 : decode b_Red_init 9 = .ok (.aload_n 0, 1) := by decide +kernel
theorem d_Red_init_10 : decode b_Red_init 10 = .ok (.aload_n 2, 1) := by decide +kernel
theorem d_Red_init_11 : decode b_Red_init 11 = .ok (.putfield 15, 3) := by decide +kernel
theorem d_Red_init_14 : decode b_Red_init 14 = .ok (.aload_n 0, 1) := by decide +kernel
theorem d_Red_init_15 : decode b_Red_init 15 = .ok (.aload_n 3, 1) := by decide +kernel
theorem d_Red_init_16 : decode b_Red_init 16 = .ok (.putfield 19, 3) := by decide +kernel
theorem d_Red_init_19 : decode b_Red_init 19 = .ok (.aload_n 0, 1) := by decide +kernel
theorem d_Red_init_20 : decode b_Red_init 20 = .ok (.aload 4, 2) := by decide +kernel
theorem d_Red_init_22 : decode b_Red_init 22 = .ok (.putfield 23, 3) := by decide +kernel
theorem d_Red_init_25 : decode b_Red_init 25 = .ok (.aload_n 0, 1) := by decide +kernel
theorem d_Red_init_26 : decode b_Red_init 26 = .ok (.new 27, 3) := by decide +kernel
theorem d_Red_init_29 : decode b_Red_init 29 = .ok (.dup, 1) := by decide +kernel
theorem d_Red_init_30 : decode b_Red_init 30 = .ok (.bipush 32, 2) := by decide +kernel
theorem d_Red_init_32 : decode b_Red_init 32 = .ok (.ldc 29, 2) := by decide +kernel
theorem d_Red_init_34 : decode b_Red_init 34 = .ok (.invokespecial 30, 3) := by decide +kernel
theorem d_Red_init_37 : decode b_Red_init 37 = .ok (.putfield 33, 3) := by decide +kernel
theorem d_Red_init_40 : decode b_Red_init 40 = .ok (.return_, 1) := by decide +kernel
theorem d_Typ_init_0 : decode b_Typ_init 0 = .ok (.aload_n 0, 1) := by decide +kernel
theorem d_Typ_init_1 : decode b_Typ_init 1 = .ok (.invokespecial 3, 3) := by decide +kernel
theorem d_Typ_init_4 : decode b_Typ_init 4 = .ok (.aload_n 0, 1) := by decide +kernel
theorem d_Typ_init_5 : decode b_Typ_init 5 = .ok (.aload_n 1, 1) := by decide +kernel
theorem d_Typ_init_6 : decode b_Typ_init 6 = .ok (.putfield 9, 3) := by decide +kernel
theorem d_Typ_init_9 : decode b_Typ_init 9 = .ok (.aload_n 0, 1) := by decide +kernel
theorem d_Typ_init_10 : decode b_Typ_init 10 = .ok (.aload_n 2, 1) := by decide +kernel
theorem d_Typ_init_11 : decode b_Typ_init 11 = .ok (.putfield 15, 3) := by decide +kernel
theorem d_Typ_init_14 : decode b_Typ_init 14 = .ok (.aload_n 0, 1) := by decide +kernel
theorem d_Typ_init_15 : decode b_Typ_init 15 = .ok (.aload_n 3, 1) := by decide +kernel
theorem d_Typ_init_16 : decode b_Typ_init 16 = .ok (.putfield 19, 3) := by decide +kernel
theorem d_Typ_init_19 : decode b_Typ_init 19 = .ok (.aload_n 0, 1) := by decide +kernel
theorem d_Typ_init_20 : decode b_Typ_init 20 = .ok (.aload 4, 2) := by decide +kernel
theorem d_Typ_init_22 : decode b_Typ_init 22 = .ok (.putfield 23, 3) := by decide +kernel
theorem d_Typ_init_25 : decode b_Typ_init 25 = .ok (.return_, 1) := by decide +kernel
theorem d_Fam_init_0 : decode b_Fam_init 0 = .ok (.aload_n 0, 1) := by decide +kernel
theorem d_Fam_init_1 : decode b_Fam_init 1 = .ok (.invokespecial 3, 3) := by decide +kernel
theorem d_Fam_init_4 : decode b_Fam_init 4 = .ok (.aload_n 0, 1) := by decide +kernel
theorem d_Fam_init_5 : decode b_Fam_init 5 = .ok (.aload_n 1, 1) := by decide +kernel
theorem d_Fam_init_6 : decode b_Fam_init 6 = .ok (.putfield 9, 3) := by decide +kernel
theorem d_Fam_init_9 : decode b_Fam_init 9 = .ok (.aload_n 0, 1) := by decide +kernel
theorem d_Fam_init_10 : decode b_Fam_init 10 = .ok (.aload_n 2, 1) := by decide +kernel
theorem d_Fam_init_11 : decode b_Fam_init 11 = .ok (.putfield 15, 3) := by decide +kernel
theorem d_Fam_init_14 : decode b_Fam_init 14 = .ok (.aload_n 0, 1) := by decide +kernel
theorem d_Fam_init_15 : decode b_Fam_init 15 = .ok (.aload_n 3, 1) := by decide +kernel
theorem d_Fam_init_16 : decode b_Fam_init 16 = .ok (.putfield 19, 3) := by decide +kernel
theorem d_Fam_init_19 : decode b_Fam_init 19 = .ok (.aload_n 0, 1) := by decide +kernel
theorem d_Fam_init_20 : decode b_Fam_init 20 = .ok (.aload 4, 2) := by decide +kernel
theorem d_Fam_init_22 : decode b_Fam_init 22 = .ok (.putfield 23, 3) := by decide +kernel
theorem d_Fam_init_25 : decode b_Fam_init 25 = .ok (.aload_n 0, 1) := by decide +kernel
theorem d_Fam_init_26 : decode b_Fam_init 26 = .ok (.aload 5, 2) := by decide +kernel
theorem d_Fam_init_28 : decode b_Fam_init 28 = .ok (.putfield 27, 3) := by decide +kernel
theorem d_Fam_init_31 : decode b_Fam_init 31 = .ok (.aload_n 0, 1) := by decide +kernel
theorem d_Fam_init_32 : decode b_Fam_init 32 = .ok (.new 31, 3) := by decide +kernel
theorem d_Fam_init_35 : decode b_Fam_init 35 = .ok (.dup, 1) := by decide +kernel
theorem d_Fam_init_36 : decode b_Fam_init 36 = .ok (.bipush 16, 2) := by decide +kernel
theorem d_Fam_init_38 : decode b_Fam_init 38 = .ok (.ldc 33, 2) := by decide +kernel
theorem d_Fam_init_40 : decode b_Fam_init 40 = .ok (.invokespecial 34, 3) := by decide +kernel
theorem d_Fam_init_43 : decode b_Fam_init 43 = .ok (.putfield 37, 3) := by decide +kernel
theorem d_Fam_init_46 : decode b_Fam_init 46 = .ok (.aload_n 0, 1) := by decide +kernel
theorem d_Fam_init_47 : decode b_Fam_init 47 = .ok (.new 31, 3) := by decide +kernel
theorem d_Fam_init_50 : decode b_Fam_init 50 = .ok (.dup, 1) := by decide +kernel
theorem d_Fam_init_51 : decode b_Fam_init 51 = .ok (.bipush 16, 2) := by decide +kernel
theorem d_Fam_init_53 : decode b_Fam_init 53 = .ok (.ldc 33, 2) := by decide +kernel
theorem d_Fam_init_55 : decode b_Fam_init 55 = .ok (.invokespecial 34, 3) := by decide +kernel
theorem d_Fam_init_58 : decode b_Fam_init 58 = .ok (.putfield 41, 3) := by decide +kernel
theorem d_Fam_init_61 : decode b_Fam_init 61 = .ok (.aload_n 0, 1) := by decide +kernel
theorem d_Fam_init_62 : decode b_Fam_init 62 = .ok (.new 31, 3) := by decide +kernel
theorem d_Fam_init_65 : decode b_Fam_init 65 = .ok (.dup, 1) := by decide +kernel
theorem d_Fam_init_66 : decode b_Fam_init 66 = .ok (.bipush 16, 2) := by decide +kernel
theorem d_Fam_init_68 : decode b_Fam_init 68 = .ok (.ldc 33, 2) := by decide +kernel
theorem d_Fam_init_70 : decode b_Fam_init 70 = .ok (.invokespecial 34, 3) := by decide +kernel
theorem d_Fam_init_73 : decode b_Fam_init 73 = .ok (.putfield 44, 3) := by decide +kernel
theorem d_Fam_init_76 : decode b_Fam_init 76 = .ok (.aload_n 0, 1) := by decide +kernel
theorem d_Fam_init_77 : decode b_Fam_init 77 = .ok (.new 31, 3) := by decide +kernel
theorem d_Fam_init_80 : decode b_Fam_init 80 = .ok (.dup, 1) := by decide +kernel
theorem d_Fam_init_81 : decode b_Fam_init 81 = .ok (.bipush 16, 2) := by decide +kernel
theorem d_Fam_init_83 : decode b_Fam_init 83 = .ok (.ldc 33, 2) := by decide +kernel
theorem d_Fam_init_85 : decode b_Fam_init 85 = .ok (.invokespecial 34, 3) := by decide +kernel
theorem d_Fam_init_88 : decode b_Fam_init 88 = .ok (.putfield 47, 3) := by decide +kernel
theorem d_Fam_init_91 : decode b_Fam_init 91 = .ok (.aload_n 0, 1) := by decide +kernel
theorem d_Fam_init_92 : decode b_Fam_init 92 = .ok (.new 31, 3) := by decide +kernel
theorem d_Fam_init_95 : decode b_Fam_init 95 = .ok (.dup, 1) := by decide +kernel
theorem d_Fam_init_96 : decode b_Fam_init 96 = .ok (.bipush 16, 2) := by decide +kernel
theorem d_Fam_init_98 : decode b_Fam_init 98 = .ok (.ldc 33, 2) := by decide +kernel
theorem d_Fam_init_100 : decode b_Fam_init 100 = .ok (.invokespecial 34, 3) := by decide +kernel
theorem d_Fam_init_103 : decode b_Fam_init 103 = .ok (.putfield 50, 3) := by decide +kernel
theorem d_Fam_init_106 : decode b_Fam_init 106 = .ok (.return_, 1) := by decide +kernel
theorem d_Pri_init_0 : decode b_Pri_init 0 = .ok (.aload_n 0, 1) := by decide +kernel
theorem d_Pri_init_1 : decode b_Pri_init 1 = .ok (.invokespecial 3, 3) := by decide +kernel
theorem d_Pri_init_4 : decode b_Pri_init 4 = .ok (.aload_n 0, 1) := by decide +kernel
theorem d_Pri_init_5 : decode b_Pri_init 5 = .ok (.aload_n 1, 1) := by decide +kernel
theorem d_Pri_init_6 : decode b_Pri_init 6 = .ok (.putfield 9, 3) := by decide +kernel
theorem d_Pri_init_9 : decode b_Pri_init 9 = .ok (.aload_n 0, 1) := by decide +kernel
theorem d_Pri_init_10 : decode b_Pri_init 10 = .ok (.aload_n 2, 1) := by decide +kernel
theorem d_Pri_init_11 : decode b_Pri_init 11 = .ok (.putfield 15, 3) := by decide +kernel
theorem d_Pri_init_14 : decode b_Pri_init 14 = .ok (.aload_n 0, 1) := by decide +kernel
theorem d_Pri_init_15 : decode b_Pri_init 15 = .ok (.aload_n 3, 1) := by decide +kernel
theorem d_Pri_init_16 : decode b_Pri_init 16 = .ok (.putfield 19, 3) := by decide +kernel
theorem d_Pri_init_19 : decode b_Pri_init 19 = .ok (.aload_n 0, 1) := by decide +kernel
theorem d_Pri_init_20 : decode b_Pri_init 20 = .ok (.new 23, 3) := by decide +kernel
theorem d_Pri_init_23 : decode b_Pri_init 23 = .ok (.dup, 1) := by decide +kernel
theorem d_Pri_init_24 : decode b_Pri_init 24 = .ok (.bipush 96, 2) := by decide +kernel
theorem d_Pri_init_26 : decode b_Pri_init 26 = .ok (.ldc 25, 2) := by decide +kernel
theorem d_Pri_init_28 : decode b_Pri_init 28 = .ok (.invokespecial 26, 3) := by decide +kernel
theorem d_Pri_init_31 : decode b_Pri_init 31 = .ok (.putfield 29, 3) := by decide +kernel
theorem d_Pri_init_34 : decode b_Pri_init 34 = .ok (.return_, 1) := by decide +kernel
