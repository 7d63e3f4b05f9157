theorem d_Mod_small_0 : decode b_Mod_small 0 = .ok (.aload_n 0, 1) := by decide +kernel
theorem d_Mod_small_1 : decode b_Mod_small 1 = .ok (.getfield 116, 3) := by decide +kernel
theorem d_Mod_small_4 : decode b_Mod_small 4 = .ok (.iload_n 1, 1) := by decide +kernel
theorem d_Mod_small_5 : decode b_Mod_small 5 = .ok (.iaload, 1) := by decide +kernel
theorem d_Mod_small_6 : decode b_Mod_small 6 = .ok (.istore_n 3, 1) := by decide +kernel
theorem d_Mod_small_7 : decode b_Mod_small 7 = .ok (.iconst 0, 1) := by decide +kernel
theorem d_Mod_small_8 : decode b_Mod_small 8 = .ok (.istore 4, 2) := by decide +kernel
theorem d_Mod_small_10 : decode b_Mod_small 10 = .ok (.iload 4, 2) := by decide +kernel
theorem d_Mod_small_12 : decode b_Mod_small 12 = .ok (.aload_n 0, 1) := by decide +kernel
theorem d_Mod_small_13 : decode b_Mod_small 13 = .ok (.getfield 125, 3) := by decide +kernel
theorem d_Mod_small_16 : decode b_Mod_small 16 = .ok (.iload_n 1, 1) := by decide +kernel
theorem d_Mod_small_17 : decode b_Mod_small 17 = .ok (.iaload, 1) := by decide +kernel
theorem d_Mod_small_18 : decode b_Mod_small 18 = .ok (.if_icmp .ge 99, 3) := by decide +kernel
theorem d_Mod_small_21 : decode b_Mod_small 21 = .ok (.aload_n 0, 1) := by decide +kernel
theorem d_Mod_small_22 : decode b_Mod_small 22 = .ok (.getfield 229, 3) := by decide +kernel
theorem d_Mod_small_25 : decode b_Mod_small 25 = .ok (.iload 4, 2) := by decide +kernel
theorem d_Mod_small_27 : decode b_Mod_small 27 = .ok (.baload, 1) := by decide +kernel
theorem d_Mod_small_28 : decode b_Mod_small 28 = .ok (.istore 5, 2) := by decide +kernel
theorem d_Mod_small_30 : decode b_Mod_small 30 = .ok (.iload_n 3, 1) := by decide +kernel
theorem d_Mod_small_31 : decode b_Mod_small 31 = .ok (.istore 6, 2) := by decide +kernel
theorem d_Mod_small_33 : decode b_Mod_small 33 = .ok (.iload 6, 2) := by decide +kernel
theorem d_Mod_small_35 : decode b_Mod_small 35 = .ok (.iload_n 3, 1) := by decide +kernel
theorem d_Mod_small_36 : decode b_Mod_small 36 = .ok (.iload_n 2, 1) := by decide +kernel
theorem d_Mod_small_37 : decode b_Mod_small 37 = .ok (.iadd, 1) := by decide +kernel
theorem d_Mod_small_38 : decode b_Mod_small 38 = .ok (.if_icmp .ge 66, 3) := by decide +kernel
theorem d_Mod_small_41 : decode b_Mod_small 41 = .ok (.aload_n 0, 1) := by decide +kernel
theorem d_Mod_small_42 : decode b_Mod_small 42 = .ok (.aload_n 0, 1) := by decide +kernel
theorem d_Mod_small_43 : decode b_Mod_small 43 = .ok (.getfield 220, 3) := by decide +kernel
theorem d_Mod_small_46 : decode b_Mod_small 46 = .ok (.iconst 0, 1) := by decide +kernel
theorem d_Mod_small_47 : decode b_Mod_small 47 = .ok (.iaload, 1) := by decide +kernel
theorem d_Mod_small_48 : decode b_Mod_small 48 = .ok (.iload_n 3, 1) := by decide +kernel
theorem d_Mod_small_49 : decode b_Mod_small 49 = .ok (.iload_n 2, 1) := by decide +kernel
theorem d_Mod_small_50 : decode b_Mod_small 50 = .ok (.iadd, 1) := by decide +kernel
theorem d_Mod_small_51 : decode b_Mod_small 51 = .ok (.iload 6, 2) := by decide +kernel
theorem d_Mod_small_53 : decode b_Mod_small 53 = .ok (.invokevirtual 440, 3) := by decide +kernel
theorem d_Mod_small_56 : decode b_Mod_small 56 = .ok (.istore 7, 2) := by decide +kernel
theorem d_Mod_small_58 : decode b_Mod_small 58 = .ok (.iload 5, 2) := by decide +kernel
theorem d_Mod_small_60 : decode b_Mod_small 60 = .ok (.ifCond .ne 31, 3) := by decide +kernel
theorem d_Mod_small_63 : decode b_Mod_small 63 = .ok (.aload_n 0, 1) := by decide +kernel
theorem d_Mod_small_64 : decode b_Mod_small 64 = .ok (.getfield 55, 3) := by decide +kernel
theorem d_Mod_small_67 : decode b_Mod_small 67 = .ok (.iload 7, 2) := by decide +kernel
theorem d_Mod_small_69 : decode b_Mod_small 69 = .ok (.baload, 1) := by decide +kernel
theorem d_Mod_small_70 : decode b_Mod_small 70 = .ok (.iconst 3, 1) := by decide +kernel
theorem d_Mod_small_71 : decode b_Mod_small 71 = .ok (.if_icmp .ne 24, 3) := by decide +kernel
theorem d_Mod_small_74 : decode b_Mod_small 74 = .ok (.aload_n 0, 1) := by decide +kernel
theorem d_Mod_small_75 : decode b_Mod_small 75 = .ok (.getfield 58, 3) := by decide +kernel
theorem d_Mod_small_78 : decode b_Mod_small 78 = .ok (.iload 7, 2) := by decide +kernel
theorem d_Mod_small_80 : decode b_Mod_small 80 = .ok (.iaload, 1) := by decide +kernel
theorem d_Mod_small_81 : decode b_Mod_small 81 = .ok (.aload_n 0, 1) := by decide +kernel
theorem d_Mod_small_82 : decode b_Mod_small 82 = .ok (.getfield 223, 3) := by decide +kernel
theorem d_Mod_small_85 : decode b_Mod_small 85 = .ok (.iload 4, 2) := by decide +kernel
theorem d_Mod_small_87 : decode b_Mod_small 87 = .ok (.iaload, 1) := by decide +kernel
theorem d_Mod_small_88 : decode b_Mod_small 88 = .ok (.if_icmp .ne 7, 3) := by decide +kernel
theorem d_Mod_small_91 : decode b_Mod_small 91 = .ok (.iconst 1, 1) := by decide +kernel
theorem d_Mod_small_92 : decode b_Mod_small 92 = .ok (.goto 4, 3) := by decide +kernel
theorem d_Mod_small_95 : decode b_Mod_small 95 = .ok (.iconst 0, 1) := by decide +kernel
theorem d_Mod_small_96 : decode b_Mod_small 96 = .ok (.istore 5, 2) := by decide +kernel
theorem d_Mod_small_98 : decode b_Mod_small 98 = .ok (.iinc 6 1, 3) := by decide +kernel
theorem d_Mod_small_101 : decode b_Mod_small 101 = .ok (.goto (-68), 3) := by decide +kernel
theorem d_Mod_small_104 : decode b_Mod_small 104 = .ok (.iload 5, 2) := by decide +kernel
theorem d_Mod_small_106 : decode b_Mod_small 106 = .ok (.ifCond .ne 5, 3) := by decide +kernel
theorem d_Mod_small_109 : decode b_Mod_small 109 = .ok (.iconst 0, 1) := by decide +kernel
theorem d_Mod_small_110 : decode b_Mod_small 110 = .ok (.ireturn, 1) := by decide +kernel
theorem d_Mod_small_111 : decode b_Mod_small 111 = .ok (.iinc 4 1, 3) := by decide +kernel
theorem d_Mod_small_114 : decode b_Mod_small 114 = .ok (.goto (-104), 3) := by decide +kernel
theorem d_Mod_small_117 : decode b_Mod_small 117 = .ok (.iconst 1, 1) := by decide +kernel
theorem d_Mod_small_118 : decode b_Mod_small 118 = .ok (.ireturn, 1) := by decide +kernel
theorem d_Mod_count_0 : decode b_Mod_count 0 = .ok (.aload_n 0, 1) := by decide +kernel
theorem d_Mod_count_1 : decode b_Mod_count 1 = .ok (.iconst 0, 1) := by decide +kernel
theorem d_Mod_count_2 : decode b_Mod_count 2 = .ok (.putfield 29, 3) := by decide +kernel
theorem d_Mod_count_5 : decode b_Mod_count 5 = .ok (.iload_n 1, 1) := by decide +kernel
theorem d_Mod_count_6 : decode b_Mod_count 6 = .ok (.tableswitch 68 0 5 #[38, 43, 48, 53, 58, 63], 38) := by decide +kernel
theorem d_Mod_count_44 : decode b_Mod_count 44 = .ok (.aload_n 0, 1) := by decide +kernel
theorem d_Mod_count_45 : decode b_Mod_count 45 = .ok (.getfield 104, 3) := by decide +kernel
theorem d_Mod_count_48 : decode b_Mod_count 48 = .ok (.ireturn, 1) := by decide +kernel
theorem d_Mod_count_49 : decode b_Mod_count 49 = .ok (.aload_n 0, 1) := by decide +kernel
theorem d_Mod_count_50 : decode b_Mod_count 50 = .ok (.getfield 199, 3) := by decide +kernel
theorem d_Mod_count_53 : decode b_Mod_count 53 = .ok (.ireturn, 1) := by decide +kernel
theorem d_Mod_count_54 : decode b_Mod_count 54 = .ok (.aload_n 0, 1) := by decide +kernel
theorem d_Mod_count_55 : decode b_Mod_count 55 = .ok (.getfield 202, 3) := by decide +kernel
theorem d_Mod_count_58 : decode b_Mod_count 58 = .ok (.ireturn, 1) := by decide +kernel
theorem d_Mod_count_59 : decode b_Mod_count 59 = .ok (.aload_n 0, 1) := by decide +kernel
theorem d_Mod_count_60 : decode b_Mod_count 60 = .ok (.getfield 150, 3) := by decide +kernel
theorem d_Mod_count_63 : decode b_Mod_count 63 = .ok (.ireturn, 1) := by decide +kernel
theorem d_Mod_count_64 : decode b_Mod_count 64 = .ok (.aload_n 0, 1) := by decide +kernel
theorem d_Mod_count_65 : decode b_Mod_count 65 = .ok (.getfield 22, 3) := by decide +kernel
theorem d_Mod_count_68 : decode b_Mod_count 68 = .ok (.ireturn, 1) := by decide +kernel
theorem d_Mod_count_69 : decode b_Mod_count 69 = .ok (.aload_n 0, 1) := by decide +kernel
theorem d_Mod_count_70 : decode b_Mod_count 70 = .ok (.getfield 26, 3) := by decide +kernel
theorem d_Mod_count_73 : decode b_Mod_count 73 = .ok (.ireturn, 1) := by decide +kernel
theorem d_Mod_count_74 : decode b_Mod_count 74 = .ok (.iconst (-1), 1) := by decide +kernel
theorem d_Mod_count_75 : decode b_Mod_count 75 = .ok (.ireturn, 1) := by decide +kernel
theorem d_Mod_reset_0 : decode b_Mod_reset 0 = .ok (.aload_n 0, 1) := by decide +kernel
theorem d_Mod_reset_1 : decode b_Mod_reset 1 = .ok (.iconst 0, 1) := by decide +kernel
theorem d_Mod_reset_2 : decode b_Mod_reset 2 = .ok (.putfield 29, 3) := by decide +kernel
theorem d_Mod_reset_5 : decode b_Mod_reset 5 = .ok (.aload_n 0, 1) := by decide +kernel
theorem d_Mod_reset_6 : decode b_Mod_reset 6 = .ok (.getfield 104, 3) := by decide +kernel
theorem d_Mod_reset_9 : decode b_Mod_reset 9 = .ok (.istore_n 1, 1) := by decide +kernel
theorem d_Mod_reset_10 : decode b_Mod_reset 10 = .ok (.aload_n 0, 1) := by decide +kernel
theorem d_Mod_reset_11 : decode b_Mod_reset 11 = .ok (.iconst 0, 1) := by decide +kernel
theorem d_Mod_reset_12 : decode b_Mod_reset 12 = .ok (.putfield 199, 3) := by decide +kernel
theorem d_Mod_reset_15 : decode b_Mod_reset 15 = .ok (.aload_n 0, 1) := by decide +kernel
theorem d_Mod_reset_16 : decode b_Mod_reset 16 = .ok (.iconst 0, 1) := by decide +kernel
theorem d_Mod_reset_17 : decode b_Mod_reset 17 = .ok (.putfield 104, 3) := by decide +kernel
theorem d_Mod_reset_20 : decode b_Mod_reset 20 = .ok (.aload_n 0, 1) := by decide +kernel
theorem d_Mod_reset_21 : decode b_Mod_reset 21 = .ok (.iconst 0, 1) := by decide +kernel
theorem d_Mod_reset_22 : decode b_Mod_reset 22 = .ok (.putfield 147, 3) := by decide +kernel
theorem d_Mod_reset_25 : decode b_Mod_reset 25 = .ok (.aload_n 0, 1) := by decide +kernel
theorem d_Mod_reset_26 : decode b_Mod_reset 26 = .ok (.iconst 0, 1) := by decide +kernel
theorem d_Mod_reset_27 : decode b_Mod_reset 27 = .ok (.putfield 150, 3) := by decide +kernel
theorem d_Mod_reset_30 : decode b_Mod_reset 30 = .ok (.aload_n 0, 1) := by decide +kernel
theorem d_Mod_reset_31 : decode b_Mod_reset 31 = .ok (.iconst 0, 1) := by decide +kernel
theorem d_Mod_reset_32 : decode b_Mod_reset 32 = .ok (.putfield 101, 3) := by decide +kernel
theorem d_Mod_reset_35 : decode b_Mod_reset 35 = .ok (.iload_n 1, 1) := by decide +kernel
theorem d_Mod_reset_36 : decode b_Mod_reset 36 = .ok (.ireturn, 1) := by decide +kernel
theorem d_Mod_checked_0 : decode b_Mod_checked 0 = .ok (.aload_n 0, 1) := by decide +kernel
theorem d_Mod_checked_1 : decode b_Mod_checked 1 = .ok (.invokevirtual 281, 3) := by decide +kernel
theorem d_Mod_checked_4 : decode b_Mod_checked 4 = .ok (.aload_n 0, 1) := by decide +kernel
theorem d_Mod_checked_5 : decode b_Mod_checked 5 = .ok (.iconst 0, 1) := by decide +kernel
theorem d_Mod_checked_6 : decode b_Mod_checked 6 = .ok (.invokevirtual 399, 3) := by decide +kernel
theorem d_Mod_checked_9 : decode b_Mod_checked 9 = .ok (.istore_n 1, 1) := by decide +kernel
theorem d_Mod_checked_10 : decode b_Mod_checked 10 = .ok (.aload_n 0, 1) := by decide +kernel
theorem d_Mod_checked_11 : decode b_Mod_checked 11 = .ok (.bipush 58, 2) := by decide +kernel
theorem d_Mod_checked_13 : decode b_Mod_checked 13 = .ok (.invokevirtual 405, 3) := by decide +kernel
theorem d_Mod_checked_16 : decode b_Mod_checked 16 = .ok (.aload_n 0, 1) := by decide +kernel
theorem d_Mod_checked_17 : decode b_Mod_checked 17 = .ok (.iconst 0, 1) := by decide +kernel
theorem d_Mod_checked_18 : decode b_Mod_checked 18 = .ok (.invokevirtual 399, 3) := by decide +kernel
theorem d_Mod_checked_21 : decode b_Mod_checked 21 = .ok (.istore_n 2, 1) := by decide +kernel
theorem d_Mod_checked_22 : decode b_Mod_checked 22 = .ok (.aload_n 0, 1) := by decide +kernel
theorem d_Mod_checked_23 : decode b_Mod_checked 23 = .ok (.bipush 46, 2) := by decide +kernel
theorem d_Mod_checked_25 : decode b_Mod_checked 25 = .ok (.invokevirtual 405, 3) := by decide +kernel
theorem d_Mod_checked_28 : decode b_Mod_checked 28 = .ok (.aload_n 0, 1) := by decide +kernel
theorem d_Mod_checked_29 : decode b_Mod_checked 29 = .ok (.aload_n 0, 1) := by decide +kernel
theorem d_Mod_checked_30 : decode b_Mod_checked 30 = .ok (.getfield 68, 3) := by decide +kernel
theorem d_Mod_checked_33 : decode b_Mod_checked 33 = .ok (.iload_n 1, 1) := by decide +kernel
theorem d_Mod_checked_34 : decode b_Mod_checked 34 = .ok (.iaload, 1) := by decide +kernel
theorem d_Mod_checked_35 : decode b_Mod_checked 35 = .ok (.aload_n 0, 1) := by decide +kernel
theorem d_Mod_checked_36 : decode b_Mod_checked 36 = .ok (.getfield 68, 3) := by decide +kernel
theorem d_Mod_checked_39 : decode b_Mod_checked 39 = .ok (.iload_n 2, 1) := by decide +kernel
theorem d_Mod_checked_40 : decode b_Mod_checked 40 = .ok (.iaload, 1) := by decide +kernel
theorem d_Mod_checked_41 : decode b_Mod_checked 41 = .ok (.iadd, 1) := by decide +kernel
theorem d_Mod_checked_42 : decode b_Mod_checked 42 = .ok (.invokevirtual 519, 3) := by decide +kernel
theorem d_Mod_checked_45 : decode b_Mod_checked 45 = .ok (.aload_n 0, 1) := by decide +kernel
theorem d_Mod_checked_46 : decode b_Mod_checked 46 = .ok (.iload_n 1, 1) := by decide +kernel
theorem d_Mod_checked_47 : decode b_Mod_checked 47 = .ok (.invokevirtual 522, 3) := by decide +kernel
theorem d_Mod_checked_50 : decode b_Mod_checked 50 = .ok (.istore_n 1, 1) := by decide +kernel
theorem d_Mod_checked_51 : decode b_Mod_checked 51 = .ok (.aload_n 0, 1) := by decide +kernel
theorem d_Mod_checked_52 : decode b_Mod_checked 52 = .ok (.iload_n 2, 1) := by decide +kernel
theorem d_Mod_checked_53 : decode b_Mod_checked 53 = .ok (.invokevirtual 522, 3) := by decide +kernel
theorem d_Mod_checked_56 : decode b_Mod_checked 56 = .ok (.istore_n 2, 1) := by decide +kernel
theorem d_Mod_checked_57 : decode b_Mod_checked 57 = .ok (.aload_n 0, 1) := by decide +kernel
theorem d_Mod_checked_58 : decode b_Mod_checked 58 = .ok (.iload_n 2, 1) := by decide +kernel
theorem d_Mod_checked_59 : decode b_Mod_checked 59 = .ok (.iconst 0, 1) := by decide +kernel
theorem d_Mod_checked_60 : decode b_Mod_checked 60 = .ok (.invokevirtual 477, 3) := by decide +kernel
theorem d_Mod_checked_63 : decode b_Mod_checked 63 = .ok (.pop, 1) := by decide +kernel
theorem d_Mod_checked_64 : decode b_Mod_checked 64 = .ok (.aload_n 0, 1) := by decide +kernel
theorem d_Mod_checked_65 : decode b_Mod_checked 65 = .ok (.iload_n 1, 1) := by decide +kernel
theorem d_Mod_checked_66 : decode b_Mod_checked 66 = .ok (.iload_n 2, 1) := by decide +kernel
theorem d_Mod_checked_67 : decode b_Mod_checked 67 = .ok (.iconst 0, 1) := by decide +kernel
theorem d_Mod_checked_68 : decode b_Mod_checked 68 = .ok (.invokevirtual 485, 3) := by decide +kernel
theorem d_Mod_checked_71 : decode b_Mod_checked 71 = .ok (.return_, 1) := by decide +kernel
theorem d_Mod_newName_0 : decode b_Mod_newName 0 = .ok (.aload_n 0, 1) := by decide +kernel
theorem d_Mod_newName_1 : decode b_Mod_newName 1 = .ok (.invokevirtual 273, 3) := by decide +kernel
theorem d_Mod_newName_4 : decode b_Mod_newName 4 = .ok (.iconst 1, 1) := by decide +kernel
theorem d_Mod_newName_5 : decode b_Mod_newName 5 = .ok (.if_icmp .ne 10, 3) := by decide +kernel
theorem d_Mod_newName_8 : decode b_Mod_newName 8 = .ok (.aload_n 0, 1) := by decide +kernel
theorem d_Mod_newName_9 : decode b_Mod_newName 9 = .ok (.invokevirtual 380, 3) := by decide +kernel
theorem d_Mod_newName_12 : decode b_Mod_newName 12 = .ok (.ifCond .eq 8, 3) := by decide +kernel
theorem d_Mod_newName_15 : decode b_Mod_newName 15 = .ok (.aload_n 0, 1) := by decide +kernel
theorem d_Mod_newName_16 : decode b_Mod_newName 16 = .ok (.invokevirtual 277, 3) := by decide +kernel
theorem d_Mod_newName_19 : decode b_Mod_newName 19 = .ok (.athrow, 1) := by decide +kernel
theorem d_Mod_newName_20 : decode b_Mod_newName 20 = .ok (.aload_n 0, 1) := by decide +kernel
theorem d_Mod_newName_21 : decode b_Mod_newName 21 = .ok (.aload_n 0, 1) := by decide +kernel
theorem d_Mod_newName_22 : decode b_Mod_newName 22 = .ok (.getfield 104, 3) := by decide +kernel
theorem d_Mod_newName_25 : decode b_Mod_newName 25 = .ok (.invokevirtual 373, 3) := by decide +kernel
theorem d_Mod_newName_28 : decode b_Mod_newName 28 = .ok (.ifCond .lt 16, 3) := by decide +kernel
theorem d_Mod_newName_31 : decode b_Mod_newName 31 = .ok (.new 1, 3) := by decide +kernel
theorem d_Mod_newName_34 : decode b_Mod_newName 34 = .ok (.dup, 1) := by decide +kernel
theorem d_Mod_newName_35 : decode b_Mod_newName 35 = .ok (.iconst 2, 1) := by decide +kernel
theorem d_Mod_newName_36 : decode b_Mod_newName 36 = .ok (.aload_n 0, 1) := by decide +kernel
theorem d_Mod_newName_37 : decode b_Mod_newName 37 = .ok (.getfield 44, 3) := by decide +kernel
theorem d_Mod_newName_40 : decode b_Mod_newName 40 = .ok (.invokespecial 3, 3) := by decide +kernel
theorem d_Mod_newName_43 : decode b_Mod_newName 43 = .ok (.athrow, 1) := by decide +kernel
theorem d_Mod_newName_44 : decode b_Mod_newName 44 = .ok (.aload_n 0, 1) := by decide +kernel
theorem d_Mod_newName_45 : decode b_Mod_newName 45 = .ok (.getfield 104, 3) := by decide +kernel
theorem d_Mod_newName_48 : decode b_Mod_newName 48 = .ok (.sipush 300, 3) := by decide +kernel
theorem d_Mod_newName_51 : decode b_Mod_newName 51 = .ok (.if_icmp .ne 9, 3) := by decide +kernel
theorem d_Mod_newName_54 : decode b_Mod_newName 54 = .ok (.bipush 10, 2) := by decide +kernel
theorem d_Mod_newName_56 : decode b_Mod_newName 56 = .ok (.invokestatic 323, 3) := by decide +kernel
theorem d_Mod_newName_59 : decode b_Mod_newName 59 = .ok (.athrow, 1) := by decide +kernel
theorem d_Mod_newName_60 : decode b_Mod_newName 60 = .ok (.aload_n 0, 1) := by decide +kernel
theorem d_Mod_newName_61 : decode b_Mod_newName 61 = .ok (.getfield 95, 3) := by decide +kernel
theorem d_Mod_newName_64 : decode b_Mod_newName 64 = .ok (.aload_n 0, 1) := by decide +kernel
theorem d_Mod_newName_65 : decode b_Mod_newName 65 = .ok (.getfield 104, 3) := by decide +kernel
theorem d_Mod_newName_68 : decode b_Mod_newName 68 = .ok (.aload_n 0, 1) := by decide +kernel
theorem d_Mod_newName_69 : decode b_Mod_newName 69 = .ok (.getfield 101, 3) := by decide +kernel
theorem d_Mod_newName_72 : decode b_Mod_newName 72 = .ok (.iastore, 1) := by decide +kernel
theorem d_Mod_newName_73 : decode b_Mod_newName 73 = .ok (.aload_n 0, 1) := by decide +kernel
theorem d_Mod_newName_74 : decode b_Mod_newName 74 = .ok (.getfield 98, 3) := by decide +kernel
theorem d_Mod_newName_77 : decode b_Mod_newName 77 = .ok (.aload_n 0, 1) := by decide +kernel
theorem d_Mod_newName_78 : decode b_Mod_newName 78 = .ok (.getfield 104, 3) := by decide +kernel
theorem d_Mod_newName_81 : decode b_Mod_newName 81 = .ok (.aload_n 0, 1) := by decide +kernel
theorem d_Mod_newName_82 : decode b_Mod_newName 82 = .ok (.getfield 47, 3) := by decide +kernel
theorem d_Mod_newName_85 : decode b_Mod_newName 85 = .ok (.aload_n 0, 1) := by decide +kernel
theorem d_Mod_newName_86 : decode b_Mod_newName 86 = .ok (.getfield 44, 3) := by decide +kernel
theorem d_Mod_newName_89 : decode b_Mod_newName 89 = .ok (.isub, 1) := by decide +kernel
theorem d_Mod_newName_90 : decode b_Mod_newName 90 = .ok (.iastore, 1) := by decide +kernel
theorem d_Mod_newName_91 : decode b_Mod_newName 91 = .ok (.aload_n 0, 1) := by decide +kernel
theorem d_Mod_newName_92 : decode b_Mod_newName 92 = .ok (.getfield 44, 3) := by decide +kernel
theorem d_Mod_newName_95 : decode b_Mod_newName 95 = .ok (.istore_n 1, 1) := by decide +kernel
theorem d_Mod_newName_96 : decode b_Mod_newName 96 = .ok (.iload_n 1, 1) := by decide +kernel
theorem d_Mod_newName_97 : decode b_Mod_newName 97 = .ok (.aload_n 0, 1) := by decide +kernel
theorem d_Mod_newName_98 : decode b_Mod_newName 98 = .ok (.getfield 47, 3) := by decide +kernel
theorem d_Mod_newName_101 : decode b_Mod_newName 101 = .ok (.if_icmp .ge 31, 3) := by decide +kernel
theorem d_Mod_newName_104 : decode b_Mod_newName 104 = .ok (.aload_n 0, 1) := by decide +kernel
theorem d_Mod_newName_105 : decode b_Mod_newName 105 = .ok (.getfield 92, 3) := by decide +kernel
theorem d_Mod_newName_108 : decode b_Mod_newName 108 = .ok (.aload_n 0, 1) := by decide +kernel
theorem d_Mod_newName_109 : decode b_Mod_newName 109 = .ok (.dup, 1) := by decide +kernel
theorem d_Mod_newName_110 : decode b_Mod_newName 110 = .ok (.getfield 101, 3) := by decide +kernel
theorem d_Mod_newName_113 : decode b_Mod_newName 113 = .ok (.dup_x1, 1) := by decide +kernel
theorem d_Mod_newName_114 : decode b_Mod_newName 114 = .ok (.iconst 1, 1) := by decide +kernel
theorem d_Mod_newName_115 : decode b_Mod_newName 115 = .ok (.iadd, 1) := by decide +kernel
theorem d_Mod_newName_116 : decode b_Mod_newName 116 = .ok (.putfield 101, 3) := by decide +kernel
theorem d_Mod_newName_119 : decode b_Mod_newName 119 = .ok (.aload_n 0, 1) := by decide +kernel
theorem d_Mod_newName_120 : decode b_Mod_newName 120 = .ok (.getfield 13, 3) := by decide +kernel
theorem d_Mod_newName_123 : decode b_Mod_newName 123 = .ok (.iload_n 1, 1) := by decide +kernel
theorem d_Mod_newName_124 : decode b_Mod_newName 124 = .ok (.baload, 1) := by decide +kernel
theorem d_Mod_newName_125 : decode b_Mod_newName 125 = .ok (.bastore, 1) := by decide +kernel
theorem d_Mod_newName_126 : decode b_Mod_newName 126 = .ok (.iinc 1 1, 3) := by decide +kernel
theorem d_Mod_newName_129 : decode b_Mod_newName 129 = .ok (.goto (-33), 3) := by decide +kernel
theorem d_Mod_newName_132 : decode b_Mod_newName 132 = .ok (.aload_n 0, 1) := by decide +kernel
theorem d_Mod_newName_133 : decode b_Mod_newName 133 = .ok (.invokevirtual 281, 3) := by decide +kernel
theorem d_Mod_newName_136 : decode b_Mod_newName 136 = .ok (.return_, 1) := by decide +kernel
theorem d_Mod_keep_0 : decode b_Mod_keep 0 = .ok (.aload_n 0, 1) := by decide +kernel
theorem d_Mod_keep_1 : decode b_Mod_keep 1 = .ok (.getfield 74, 3) := by decide +kernel
theorem d_Mod_keep_4 : decode b_Mod_keep 4 = .ok (.istore_n 2, 1) := by decide +kernel
theorem d_Mod_keep_5 : decode b_Mod_keep 5 = .ok (.aload_n 0, 1) := by decide +kernel
theorem d_Mod_keep_6 : decode b_Mod_keep 6 = .ok (.aload_n 0, 1) := by decide +kernel
theorem d_Mod_keep_7 : decode b_Mod_keep 7 = .ok (.getfield 147, 3) := by decide +kernel
theorem d_Mod_keep_10 : decode b_Mod_keep 10 = .ok (.putfield 74, 3) := by decide +kernel
theorem d_Mod_keep_13 : decode b_Mod_keep 13 = .ok (.aload_n 0, 1) := by decide +kernel
theorem d_Mod_keep_14 : decode b_Mod_keep 14 = .ok (.iconst 5, 1) := by decide +kernel
theorem d_Mod_keep_15 : decode b_Mod_keep 15 = .ok (.iload_n 1, 1) := by decide +kernel
theorem d_Mod_keep_16 : decode b_Mod_keep 16 = .ok (.iconst 0, 1) := by decide +kernel
theorem d_Mod_keep_17 : decode b_Mod_keep 17 = .ok (.iconst 0, 1) := by decide +kernel
theorem d_Mod_keep_18 : decode b_Mod_keep 18 = .ok (.iconst 0, 1) := by decide +kernel
theorem d_Mod_keep_19 : decode b_Mod_keep 19 = .ok (.invokevirtual 359, 3) := by decide +kernel
theorem d_Mod_keep_22 : decode b_Mod_keep 22 = .ok (.istore_n 3, 1) := by decide +kernel
theorem d_Mod_keep_23 : decode b_Mod_keep 23 = .ok (.aload_n 0, 1) := by decide +kernel
theorem d_Mod_keep_24 : decode b_Mod_keep 24 = .ok (.aload_n 0, 1) := by decide +kernel
theorem d_Mod_keep_25 : decode b_Mod_keep 25 = .ok (.getfield 74, 3) := by decide +kernel
theorem d_Mod_keep_28 : decode b_Mod_keep 28 = .ok (.putfield 147, 3) := by decide +kernel
theorem d_Mod_keep_31 : decode b_Mod_keep 31 = .ok (.aload_n 0, 1) := by decide +kernel
theorem d_Mod_keep_32 : decode b_Mod_keep 32 = .ok (.iload_n 2, 1) := by decide +kernel
theorem d_Mod_keep_33 : decode b_Mod_keep 33 = .ok (.putfield 74, 3) := by decide +kernel
theorem d_Mod_keep_36 : decode b_Mod_keep 36 = .ok (.iload_n 3, 1) := by decide +kernel
theorem d_Mod_keep_37 : decode b_Mod_keep 37 = .ok (.ireturn, 1) := by decide +kernel
theorem d_Mod_stated_0 : decode b_Mod_stated 0 = .ok (.aload_n 0, 1) := by decide +kernel
theorem d_Mod_stated_1 : decode b_Mod_stated 1 = .ok (.invokevirtual 281, 3) := by decide +kernel
theorem d_Mod_stated_4 : decode b_Mod_stated 4 = .ok (.aload_n 0, 1) := by decide +kernel
theorem d_Mod_stated_5 : decode b_Mod_stated 5 = .ok (.invokevirtual 516, 3) := by decide +kernel
theorem d_Mod_stated_8 : decode b_Mod_stated 8 = .ok (.aload_n 0, 1) := by decide +kernel
theorem d_Mod_stated_9 : decode b_Mod_stated 9 = .ok (.bipush 58, 2) := by decide +kernel
theorem d_Mod_stated_11 : decode b_Mod_stated 11 = .ok (.invokevirtual 405, 3) := by decide +kernel
theorem d_Mod_stated_14 : decode b_Mod_stated 14 = .ok (.aload_n 0, 1) := by decide +kernel
theorem d_Mod_stated_15 : decode b_Mod_stated 15 = .ok (.iconst 0, 1) := by decide +kernel
theorem d_Mod_stated_16 : decode b_Mod_stated 16 = .ok (.invokevirtual 399, 3) := by decide +kernel
theorem d_Mod_stated_19 : decode b_Mod_stated 19 = .ok (.istore_n 2, 1) := by decide +kernel
theorem d_Mod_stated_20 : decode b_Mod_stated 20 = .ok (.iconst (-1), 1) := by decide +kernel
theorem d_Mod_stated_21 : decode b_Mod_stated 21 = .ok (.istore_n 3, 1) := by decide +kernel
theorem d_Mod_stated_22 : decode b_Mod_stated 22 = .ok (.iload_n 1, 1) := by decide +kernel
theorem d_Mod_stated_23 : decode b_Mod_stated 23 = .ok (.ifCond .eq 16, 3) := by decide +kernel
theorem d_Mod_stated_26 : decode b_Mod_stated 26 = .ok (.aload_n 0, 1) := by decide +kernel
theorem d_Mod_stated_27 : decode b_Mod_stated 27 = .ok (.sipush 300, 3) := by decide +kernel
theorem d_Mod_stated_30 : decode b_Mod_stated 30 = .ok (.invokevirtual 405, 3) := by decide +kernel
theorem d_Mod_stated_33 : decode b_Mod_stated 33 = .ok (.aload_n 0, 1) := by decide +kernel
theorem d_Mod_stated_34 : decode b_Mod_stated 34 = .ok (.iconst 0, 1) := by decide +kernel
theorem d_Mod_stated_35 : decode b_Mod_stated 35 = .ok (.invokevirtual 399, 3) := by decide +kernel
theorem d_Mod_stated_38 : decode b_Mod_stated 38 = .ok (.istore_n 3, 1) := by decide +kernel
theorem d_Mod_stated_39 : decode b_Mod_stated 39 = .ok (.aload_n 0, 1) := by decide +kernel
theorem d_Mod_stated_40 : decode b_Mod_stated 40 = .ok (.bipush 46, 2) := by decide +kernel
theorem d_Mod_stated_42 : decode b_Mod_stated 42 = .ok (.invokevirtual 405, 3) := by decide +kernel
theorem d_Mod_stated_45 : decode b_Mod_stated 45 = .ok (.aload_n 0, 1) := by decide +kernel
theorem d_Mod_stated_46 : decode b_Mod_stated 46 = .ok (.aload_n 0, 1) := by decide +kernel
theorem d_Mod_stated_47 : decode b_Mod_stated 47 = .ok (.getfield 68, 3) := by decide +kernel
theorem d_Mod_stated_50 : decode b_Mod_stated 50 = .ok (.iload_n 2, 1) := by decide +kernel
theorem d_Mod_stated_51 : decode b_Mod_stated 51 = .ok (.iaload, 1) := by decide +kernel
theorem d_Mod_stated_52 : decode b_Mod_stated 52 = .ok (.iload_n 3, 1) := by decide +kernel
theorem d_Mod_stated_53 : decode b_Mod_stated 53 = .ok (.ifCond .ge 7, 3) := by decide +kernel
theorem d_Mod_stated_56 : decode b_Mod_stated 56 = .ok (.iconst 0, 1) := by decide +kernel
theorem d_Mod_stated_57 : decode b_Mod_stated 57 = .ok (.goto 9, 3) := by decide +kernel
theorem d_Mod_stated_60 : decode b_Mod_stated 60 = .ok (.aload_n 0, 1) := by decide +kernel
theorem d_Mod_stated_61 : decode b_Mod_stated 61 = .ok (.getfield 68, 3) := by decide +kernel
theorem d_Mod_stated_64 : decode b_Mod_stated 64 = .ok (.iload_n 3, 1) := by decide +kernel
theorem d_Mod_stated_65 : decode b_Mod_stated 65 = .ok (.iaload, 1) := by decide +kernel
theorem d_Mod_stated_66 : decode b_Mod_stated 66 = .ok (.iadd, 1) := by decide +kernel
theorem d_Mod_stated_67 : decode b_Mod_stated 67 = .ok (.invokevirtual 519, 3) := by decide +kernel
theorem d_Mod_stated_70 : decode b_Mod_stated 70 = .ok (.aload_n 0, 1) := by decide +kernel
theorem d_Mod_stated_71 : decode b_Mod_stated 71 = .ok (.iload_n 2, 1) := by decide +kernel
theorem d_Mod_stated_72 : decode b_Mod_stated 72 = .ok (.invokevirtual 522, 3) := by decide +kernel
theorem d_Mod_stated_75 : decode b_Mod_stated 75 = .ok (.istore_n 2, 1) := by decide +kernel
theorem d_Mod_stated_76 : decode b_Mod_stated 76 = .ok (.iload_n 3, 1) := by decide +kernel
theorem d_Mod_stated_77 : decode b_Mod_stated 77 = .ok (.ifCond .lt 9, 3) := by decide +kernel
theorem d_Mod_stated_80 : decode b_Mod_stated 80 = .ok (.aload_n 0, 1) := by decide +kernel
theorem d_Mod_stated_81 : decode b_Mod_stated 81 = .ok (.iload_n 3, 1) := by decide +kernel
theorem d_Mod_stated_82 : decode b_Mod_stated 82 = .ok (.invokevirtual 522, 3) := by decide +kernel
theorem d_Mod_stated_85 : decode b_Mod_stated 85 = .ok (.istore_n 3, 1) := by decide +kernel
theorem d_Mod_stated_86 : decode b_Mod_stated 86 = .ok (.aload_n 0, 1) := by decide +kernel
theorem d_Mod_stated_87 : decode b_Mod_stated 87 = .ok (.iload_n 2, 1) := by decide +kernel
theorem d_Mod_stated_88 : decode b_Mod_stated 88 = .ok (.iconst 0, 1) := by decide +kernel
theorem d_Mod_stated_89 : decode b_Mod_stated 89 = .ok (.invokevirtual 477, 3) := by decide +kernel
theorem d_Mod_stated_92 : decode b_Mod_stated 92 = .ok (.pop, 1) := by decide +kernel
theorem d_Mod_stated_93 : decode b_Mod_stated 93 = .ok (.iload_n 3, 1) := by decide +kernel
theorem d_Mod_stated_94 : decode b_Mod_stated 94 = .ok (.ifCond .lt 10, 3) := by decide +kernel
theorem d_Mod_stated_97 : decode b_Mod_stated 97 = .ok (.aload_n 0, 1) := by decide +kernel
theorem d_Mod_stated_98 : decode b_Mod_stated 98 = .ok (.iload_n 3, 1) := by decide +kernel
theorem d_Mod_stated_99 : decode b_Mod_stated 99 = .ok (.iload_n 2, 1) := by decide +kernel
theorem d_Mod_stated_100 : decode b_Mod_stated 100 = .ok (.iconst 0, 1) := by decide +kernel
theorem d_Mod_stated_101 : decode b_Mod_stated 101 = .ok (.invokevirtual 485, 3) := by decide +kernel
theorem d_Mod_stated_104 : decode b_Mod_stated 104 = .ok (.aload_n 0, 1) := by decide +kernel
theorem d_Mod_stated_105 : decode b_Mod_stated 105 = .ok (.aload_n 0, 1) := by decide +kernel
theorem d_Mod_stated_106 : decode b_Mod_stated 106 = .ok (.getfield 68, 3) := by decide +kernel
theorem d_Mod_stated_109 : decode b_Mod_stated 109 = .ok (.iload_n 2, 1) := by decide +kernel
theorem d_Mod_stated_110 : decode b_Mod_stated 110 = .ok (.iaload, 1) := by decide +kernel
theorem d_Mod_stated_111 : decode b_Mod_stated 111 = .ok (.iload_n 3, 1) := by decide +kernel
theorem d_Mod_stated_112 : decode b_Mod_stated 112 = .ok (.ifCond .ge 7, 3) := by decide +kernel
theorem d_Mod_stated_115 : decode b_Mod_stated 115 = .ok (.iconst 0, 1) := by decide +kernel
theorem d_Mod_stated_116 : decode b_Mod_stated 116 = .ok (.goto 9, 3) := by decide +kernel
theorem d_Mod_stated_119 : decode b_Mod_stated 119 = .ok (.aload_n 0, 1) := by decide +kernel
theorem d_Mod_stated_120 : decode b_Mod_stated 120 = .ok (.getfield 68, 3) := by decide +kernel
theorem d_Mod_stated_123 : decode b_Mod_stated 123 = .ok (.iload_n 3, 1) := by decide +kernel
theorem d_Mod_stated_124 : decode b_Mod_stated 124 = .ok (.iaload, 1) := by decide +kernel
theorem d_Mod_stated_125 : decode b_Mod_stated 125 = .ok (.iadd, 1) := by decide +kernel
theorem d_Mod_stated_126 : decode b_Mod_stated 126 = .ok (.invokevirtual 525, 3) := by decide +kernel
theorem d_Mod_stated_129 : decode b_Mod_stated 129 = .ok (.aload_n 0, 1) := by decide +kernel
theorem d_Mod_stated_130 : decode b_Mod_stated 130 = .ok (.dup, 1) := by decide +kernel
theorem d_Mod_stated_131 : decode b_Mod_stated 131 = .ok (.getfield 104, 3) := by decide +kernel
theorem d_Mod_stated_134 : decode b_Mod_stated 134 = .ok (.dup_x1, 1) := by decide +kernel
theorem d_Mod_stated_135 : decode b_Mod_stated 135 = .ok (.iconst 1, 1) := by decide +kernel
theorem d_Mod_stated_136 : decode b_Mod_stated 136 = .ok (.iadd, 1) := by decide +kernel
theorem d_Mod_stated_137 : decode b_Mod_stated 137 = .ok (.putfield 104, 3) := by decide +kernel
theorem d_Mod_stated_140 : decode b_Mod_stated 140 = .ok (.istore 4, 2) := by decide +kernel
theorem d_Mod_stated_142 : decode b_Mod_stated 142 = .ok (.aload_n 0, 1) := by decide +kernel
theorem d_Mod_stated_143 : decode b_Mod_stated 143 = .ok (.getfield 107, 3) := by decide +kernel
theorem d_Mod_stated_146 : decode b_Mod_stated 146 = .ok (.iload 4, 2) := by decide +kernel
theorem d_Mod_stated_148 : decode b_Mod_stated 148 = .ok (.iload_n 1, 1) := by decide +kernel
theorem d_Mod_stated_149 : decode b_Mod_stated 149 = .ok (.iastore, 1) := by decide +kernel
theorem d_Mod_stated_150 : decode b_Mod_stated 150 = .ok (.aload_n 0, 1) := by decide +kernel
theorem d_Mod_stated_151 : decode b_Mod_stated 151 = .ok (.getfield 110, 3) := by decide +kernel
theorem d_Mod_stated_154 : decode b_Mod_stated 154 = .ok (.iload 4, 2) := by decide +kernel
theorem d_Mod_stated_156 : decode b_Mod_stated 156 = .ok (.aload_n 0, 1) := by decide +kernel
theorem d_Mod_stated_157 : decode b_Mod_stated 157 = .ok (.iload_n 2, 1) := by decide +kernel
theorem d_Mod_stated_158 : decode b_Mod_stated 158 = .ok (.invokevirtual 528, 3) := by decide +kernel
theorem d_Mod_stated_161 : decode b_Mod_stated 161 = .ok (.iastore, 1) := by decide +kernel
theorem d_Mod_stated_162 : decode b_Mod_stated 162 = .ok (.aload_n 0, 1) := by decide +kernel
theorem d_Mod_stated_163 : decode b_Mod_stated 163 = .ok (.getfield 113, 3) := by decide +kernel
theorem d_Mod_stated_166 : decode b_Mod_stated 166 = .ok (.iload 4, 2) := by decide +kernel
theorem d_Mod_stated_168 : decode b_Mod_stated 168 = .ok (.iload_n 3, 1) := by decide +kernel
theorem d_Mod_stated_169 : decode b_Mod_stated 169 = .ok (.ifCond .ge 7, 3) := by decide +kernel
theorem d_Mod_stated_172 : decode b_Mod_stated 172 = .ok (.iconst (-1), 1) := by decide +kernel
theorem d_Mod_stated_173 : decode b_Mod_stated 173 = .ok (.goto 8, 3) := by decide +kernel
theorem d_Mod_stated_176 : decode b_Mod_stated 176 = .ok (.aload_n 0, 1) := by decide +kernel
theorem d_Mod_stated_177 : decode b_Mod_stated 177 = .ok (.iload_n 3, 1) := by decide +kernel
theorem d_Mod_stated_178 : decode b_Mod_stated 178 = .ok (.invokevirtual 528, 3) := by decide +kernel
theorem d_Mod_stated_181 : decode b_Mod_stated 181 = .ok (.iastore, 1) := by decide +kernel
theorem d_Mod_stated_182 : decode b_Mod_stated 182 = .ok (.aload_n 0, 1) := by decide +kernel
theorem d_Mod_stated_183 : decode b_Mod_stated 183 = .ok (.getfield 116, 3) := by decide +kernel
theorem d_Mod_stated_186 : decode b_Mod_stated 186 = .ok (.iload 4, 2) := by decide +kernel
theorem d_Mod_stated_188 : decode b_Mod_stated 188 = .ok (.iconst 0, 1) := by decide +kernel
theorem d_Mod_stated_189 : decode b_Mod_stated 189 = .ok (.iastore, 1) := by decide +kernel
theorem d_Mod_stated_190 : decode b_Mod_stated 190 = .ok (.aload_n 0, 1) := by decide +kernel
theorem d_Mod_stated_191 : decode b_Mod_stated 191 = .ok (.getfield 119, 3) := by decide +kernel
theorem d_Mod_stated_194 : decode b_Mod_stated 194 = .ok (.iload 4, 2) := by decide +kernel
theorem d_Mod_stated_196 : decode b_Mod_stated 196 = .ok (.iconst 0, 1) := by decide +kernel
theorem d_Mod_stated_197 : decode b_Mod_stated 197 = .ok (.iastore, 1) := by decide +kernel
theorem d_Mod_stated_198 : decode b_Mod_stated 198 = .ok (.aload_n 0, 1) := by decide +kernel
theorem d_Mod_stated_199 : decode b_Mod_stated 199 = .ok (.getfield 122, 3) := by decide +kernel
theorem d_Mod_stated_202 : decode b_Mod_stated 202 = .ok (.iload 4, 2) := by decide +kernel
theorem d_Mod_stated_204 : decode b_Mod_stated 204 = .ok (.iconst 0, 1) := by decide +kernel
theorem d_Mod_stated_205 : decode b_Mod_stated 205 = .ok (.iastore, 1) := by decide +kernel
theorem d_Mod_stated_206 : decode b_Mod_stated 206 = .ok (.aload_n 0, 1) := by decide +kernel
theorem d_Mod_stated_207 : decode b_Mod_stated 207 = .ok (.getfield 125, 3) := by decide +kernel
theorem d_Mod_stated_210 : decode b_Mod_stated 210 = .ok (.iload 4, 2) := by decide +kernel
theorem d_Mod_stated_212 : decode b_Mod_stated 212 = .ok (.iconst 0, 1) := by decide +kernel
theorem d_Mod_stated_213 : decode b_Mod_stated 213 = .ok (.iastore, 1) := by decide +kernel
theorem d_Mod_stated_214 : decode b_Mod_stated 214 = .ok (.aload_n 0, 1) := by decide +kernel
theorem d_Mod_stated_215 : decode b_Mod_stated 215 = .ok (.getfield 128, 3) := by decide +kernel
theorem d_Mod_stated_218 : decode b_Mod_stated 218 = .ok (.iload 4, 2) := by decide +kernel
theorem d_Mod_stated_220 : decode b_Mod_stated 220 = .ok (.iconst 0, 1) := by decide +kernel
theorem d_Mod_stated_221 : decode b_Mod_stated 221 = .ok (.iastore, 1) := by decide +kernel
theorem d_Mod_stated_222 : decode b_Mod_stated 222 = .ok (.return_, 1) := by decide +kernel
theorem d_Mod_telescope_0 : decode b_Mod_telescope 0 = .ok (.iload_n 2, 1) := by decide +kernel
theorem d_Mod_telescope_1 : decode b_Mod_telescope 1 = .ok (.istore_n 3, 1) := by decide +kernel
theorem d_Mod_telescope_2 : decode b_Mod_telescope 2 = .ok (.iload_n 1, 1) := by decide +kernel
theorem d_Mod_telescope_3 : decode b_Mod_telescope 3 = .ok (.iconst 1, 1) := by decide +kernel
theorem d_Mod_telescope_4 : decode b_Mod_telescope 4 = .ok (.isub, 1) := by decide +kernel
theorem d_Mod_telescope_5 : decode b_Mod_telescope 5 = .ok (.istore 4, 2) := by decide +kernel
theorem d_Mod_telescope_7 : decode b_Mod_telescope 7 = .ok (.iload 4, 2) := by decide +kernel
theorem d_Mod_telescope_9 : decode b_Mod_telescope 9 = .ok (.ifCond .lt 29, 3) := by decide +kernel
theorem d_Mod_telescope_12 : decode b_Mod_telescope 12 = .ok (.aload_n 0, 1) := by decide +kernel
theorem d_Mod_telescope_13 : decode b_Mod_telescope 13 = .ok (.aload_n 0, 1) := by decide +kernel
theorem d_Mod_telescope_14 : decode b_Mod_telescope 14 = .ok (.bipush 6, 2) := by decide +kernel
theorem d_Mod_telescope_16 : decode b_Mod_telescope 16 = .ok (.aload_n 0, 1) := by decide +kernel
theorem d_Mod_telescope_17 : decode b_Mod_telescope 17 = .ok (.getfield 162, 3) := by decide +kernel
theorem d_Mod_telescope_20 : decode b_Mod_telescope 20 = .ok (.iload 4, 2) := by decide +kernel
theorem d_Mod_telescope_22 : decode b_Mod_telescope 22 = .ok (.iaload, 1) := by decide +kernel
theorem d_Mod_telescope_23 : decode b_Mod_telescope 23 = .ok (.iload_n 3, 1) := by decide +kernel
theorem d_Mod_telescope_24 : decode b_Mod_telescope 24 = .ok (.iconst 0, 1) := by decide +kernel
theorem d_Mod_telescope_25 : decode b_Mod_telescope 25 = .ok (.invokevirtual 336, 3) := by decide +kernel
theorem d_Mod_telescope_28 : decode b_Mod_telescope 28 = .ok (.invokevirtual 402, 3) := by decide +kernel
theorem d_Mod_telescope_31 : decode b_Mod_telescope 31 = .ok (.istore_n 3, 1) := by decide +kernel
theorem d_Mod_telescope_32 : decode b_Mod_telescope 32 = .ok (.iinc 4 (-1), 3) := by decide +kernel
theorem d_Mod_telescope_35 : decode b_Mod_telescope 35 = .ok (.goto (-28), 3) := by decide +kernel
theorem d_Mod_telescope_38 : decode b_Mod_telescope 38 = .ok (.iload_n 3, 1) := by decide +kernel
theorem d_Mod_telescope_39 : decode b_Mod_telescope 39 = .ok (.ireturn, 1) := by decide +kernel
