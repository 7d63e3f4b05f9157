theorem d_Fam_split_18 : decode b_Fam_split 18 = .ok (.aload_n 0, 1) := by decide +kernel
theorem d_Fam_split_19 : decode b_Fam_split 19 = .ok (.getfield 19, 3) := by decide +kernel
theorem d_Fam_split_22 : decode b_Fam_split 22 = .ok (.iload_n 3, 1) := by decide +kernel
theorem d_Fam_split_23 : decode b_Fam_split 23 = .ok (.invokevirtual 85, 3) := by decide +kernel
theorem d_Fam_split_26 : decode b_Fam_split 26 = .ok (.bipush 6, 2) := by decide +kernel
theorem d_Fam_split_28 : decode b_Fam_split 28 = .ok (.if_icmp .ne 30, 3) := by decide +kernel
theorem d_Fam_split_31 : decode b_Fam_split 31 = .ok (.aload_n 2, 1) := by decide +kernel
theorem d_Fam_split_32 : decode b_Fam_split 32 = .ok (.aload_n 0, 1) := by decide +kernel
theorem d_Fam_split_33 : decode b_Fam_split 33 = .ok (.getfield 19, 3) := by decide +kernel
theorem d_Fam_split_36 : decode b_Fam_split 36 = .ok (.iload_n 3, 1) := by decide +kernel
theorem d_Fam_split_37 : decode b_Fam_split 37 = .ok (.invokevirtual 100, 3) := by decide +kernel
theorem d_Fam_split_40 : decode b_Fam_split 40 = .ok (.invokevirtual 178, 3) := by decide +kernel
theorem d_Fam_split_43 : decode b_Fam_split 43 = .ok (.aload_n 0, 1) := by decide +kernel
theorem d_Fam_split_44 : decode b_Fam_split 44 = .ok (.getfield 19, 3) := by decide +kernel
theorem d_Fam_split_47 : decode b_Fam_split 47 = .ok (.iload_n 3, 1) := by decide +kernel
theorem d_Fam_split_48 : decode b_Fam_split 48 = .ok (.invokevirtual 91, 3) := by decide +kernel
theorem d_Fam_split_51 : decode b_Fam_split 51 = .ok (.istore_n 3, 1) := by decide +kernel
theorem d_Fam_split_52 : decode b_Fam_split 52 = .ok (.iinc 4 1, 3) := by decide +kernel
theorem d_Fam_split_55 : decode b_Fam_split 55 = .ok (.goto (-45), 3) := by decide +kernel
theorem d_Fam_split_58 : decode b_Fam_split 58 = .ok (.iload_n 3, 1) := by decide +kernel
theorem d_Fam_split_59 : decode b_Fam_split 59 = .ok (.ireturn, 1) := by decide +kernel
theorem d_Fam_applied_0 : decode b_Fam_applied 0 = .ok (.iload_n 1, 1) := by decide +kernel
theorem d_Fam_applied_1 : decode b_Fam_applied 1 = .ok (.istore 5, 2) := by decide +kernel
theorem d_Fam_applied_3 : decode b_Fam_applied 3 = .ok (.iconst 0, 1) := by decide +kernel
theorem d_Fam_applied_4 : decode b_Fam_applied 4 = .ok (.istore 6, 2) := by decide +kernel
theorem d_Fam_applied_6 : decode b_Fam_applied 6 = .ok (.iload 6, 2) := by decide +kernel
theorem d_Fam_applied_8 : decode b_Fam_applied 8 = .ok (.iload_n 3, 1) := by decide +kernel
theorem d_Fam_applied_9 : decode b_Fam_applied 9 = .ok (.if_icmp .ge 43, 3) := by decide +kernel
theorem d_Fam_applied_12 : decode b_Fam_applied 12 = .ok (.aload_n 0, 1) := by decide +kernel
theorem d_Fam_applied_13 : decode b_Fam_applied 13 = .ok (.getfield 19, 3) := by decide +kernel
theorem d_Fam_applied_16 : decode b_Fam_applied 16 = .ok (.iconst 0, 1) := by decide +kernel
theorem d_Fam_applied_17 : decode b_Fam_applied 17 = .ok (.iload 4, 2) := by decide +kernel
theorem d_Fam_applied_19 : decode b_Fam_applied 19 = .ok (.iconst 1, 1) := by decide +kernel
theorem d_Fam_applied_20 : decode b_Fam_applied 20 = .ok (.isub, 1) := by decide +kernel
theorem d_Fam_applied_21 : decode b_Fam_applied 21 = .ok (.iload_n 2, 1) := by decide +kernel
theorem d_Fam_applied_22 : decode b_Fam_applied 22 = .ok (.isub, 1) := by decide +kernel
theorem d_Fam_applied_23 : decode b_Fam_applied 23 = .ok (.iload 6, 2) := by decide +kernel
theorem d_Fam_applied_25 : decode b_Fam_applied 25 = .ok (.isub, 1) := by decide +kernel
theorem d_Fam_applied_26 : decode b_Fam_applied 26 = .ok (.iconst 0, 1) := by decide +kernel
theorem d_Fam_applied_27 : decode b_Fam_applied 27 = .ok (.invokevirtual 180, 3) := by decide +kernel
theorem d_Fam_applied_30 : decode b_Fam_applied 30 = .ok (.istore 7, 2) := by decide +kernel
theorem d_Fam_applied_32 : decode b_Fam_applied 32 = .ok (.aload_n 0, 1) := by decide +kernel
theorem d_Fam_applied_33 : decode b_Fam_applied 33 = .ok (.getfield 19, 3) := by decide +kernel
theorem d_Fam_applied_36 : decode b_Fam_applied 36 = .ok (.iconst 5, 1) := by decide +kernel
theorem d_Fam_applied_37 : decode b_Fam_applied 37 = .ok (.iload 5, 2) := by decide +kernel
theorem d_Fam_applied_39 : decode b_Fam_applied 39 = .ok (.iload 7, 2) := by decide +kernel
theorem d_Fam_applied_41 : decode b_Fam_applied 41 = .ok (.invokevirtual 180, 3) := by decide +kernel
theorem d_Fam_applied_44 : decode b_Fam_applied 44 = .ok (.istore 5, 2) := by decide +kernel
theorem d_Fam_applied_46 : decode b_Fam_applied 46 = .ok (.iinc 6 1, 3) := by decide +kernel
theorem d_Fam_applied_49 : decode b_Fam_applied 49 = .ok (.goto (-43), 3) := by decide +kernel
theorem d_Fam_applied_52 : decode b_Fam_applied 52 = .ok (.iload 5, 2) := by decide +kernel
theorem d_Fam_applied_54 : decode b_Fam_applied 54 = .ok (.ireturn, 1) := by decide +kernel
theorem d_Fam_bound_0 : decode b_Fam_bound 0 = .ok (.iload_n 3, 1) := by decide +kernel
theorem d_Fam_bound_1 : decode b_Fam_bound 1 = .ok (.istore 4, 2) := by decide +kernel
theorem d_Fam_bound_3 : decode b_Fam_bound 3 = .ok (.aload_n 2, 1) := by decide +kernel
theorem d_Fam_bound_4 : decode b_Fam_bound 4 = .ok (.invokevirtual 158, 3) := by decide +kernel
theorem d_Fam_bound_7 : decode b_Fam_bound 7 = .ok (.iconst 1, 1) := by decide +kernel
theorem d_Fam_bound_8 : decode b_Fam_bound 8 = .ok (.isub, 1) := by decide +kernel
theorem d_Fam_bound_9 : decode b_Fam_bound 9 = .ok (.istore 5, 2) := by decide +kernel
theorem d_Fam_bound_11 : decode b_Fam_bound 11 = .ok (.iload 5, 2) := by decide +kernel
theorem d_Fam_bound_13 : decode b_Fam_bound 13 = .ok (.ifCond .lt 27, 3) := by decide +kernel
theorem d_Fam_bound_16 : decode b_Fam_bound 16 = .ok (.aload_n 0, 1) := by decide +kernel
theorem d_Fam_bound_17 : decode b_Fam_bound 17 = .ok (.getfield 19, 3) := by decide +kernel
theorem d_Fam_bound_20 : decode b_Fam_bound 20 = .ok (.iload_n 1, 1) := by decide +kernel
theorem d_Fam_bound_21 : decode b_Fam_bound 21 = .ok (.aload_n 2, 1) := by decide +kernel
theorem d_Fam_bound_22 : decode b_Fam_bound 22 = .ok (.iload 5, 2) := by decide +kernel
theorem d_Fam_bound_24 : decode b_Fam_bound 24 = .ok (.invokevirtual 192, 3) := by decide +kernel
theorem d_Fam_bound_27 : decode b_Fam_bound 27 = .ok (.iload 4, 2) := by decide +kernel
theorem d_Fam_bound_29 : decode b_Fam_bound 29 = .ok (.invokevirtual 180, 3) := by decide +kernel
theorem d_Fam_bound_32 : decode b_Fam_bound 32 = .ok (.istore 4, 2) := by decide +kernel
theorem d_Fam_bound_34 : decode b_Fam_bound 34 = .ok (.iinc 5 (-1), 3) := by decide +kernel
theorem d_Fam_bound_37 : decode b_Fam_bound 37 = .ok (.goto (-26), 3) := by decide +kernel
theorem d_Fam_bound_40 : decode b_Fam_bound 40 = .ok (.iload 4, 2) := by decide +kernel
theorem d_Fam_bound_42 : decode b_Fam_bound 42 = .ok (.ireturn, 1) := by decide +kernel
theorem d_Fam_buildMotive_0 : decode b_Fam_buildMotive 0 = .ok (.aload_n 0, 1) := by decide +kernel
theorem d_Fam_buildMotive_1 : decode b_Fam_buildMotive 1 = .ok (.getfield 66, 3) := by decide +kernel
theorem d_Fam_buildMotive_4 : decode b_Fam_buildMotive 4 = .ok (.aload_n 0, 1) := by decide +kernel
theorem d_Fam_buildMotive_5 : decode b_Fam_buildMotive 5 = .ok (.getfield 76, 3) := by decide +kernel
theorem d_Fam_buildMotive_8 : decode b_Fam_buildMotive 8 = .ok (.iadd, 1) := by decide +kernel
theorem d_Fam_buildMotive_9 : decode b_Fam_buildMotive 9 = .ok (.istore_n 1, 1) := by decide +kernel
theorem d_Fam_buildMotive_10 : decode b_Fam_buildMotive 10 = .ok (.aload_n 0, 1) := by decide +kernel
theorem d_Fam_buildMotive_11 : decode b_Fam_buildMotive 11 = .ok (.aload_n 0, 1) := by decide +kernel
theorem d_Fam_buildMotive_12 : decode b_Fam_buildMotive 12 = .ok (.getfield 27, 3) := by decide +kernel
theorem d_Fam_buildMotive_15 : decode b_Fam_buildMotive 15 = .ok (.invokevirtual 82, 3) := by decide +kernel
theorem d_Fam_buildMotive_18 : decode b_Fam_buildMotive 18 = .ok (.aload_n 0, 1) := by decide +kernel
theorem d_Fam_buildMotive_19 : decode b_Fam_buildMotive 19 = .ok (.getfield 41, 3) := by decide +kernel
theorem d_Fam_buildMotive_22 : decode b_Fam_buildMotive 22 = .ok (.invokevirtual 229, 3) := by decide +kernel
theorem d_Fam_buildMotive_25 : decode b_Fam_buildMotive 25 = .ok (.pop, 1) := by decide +kernel
theorem d_Fam_buildMotive_26 : decode b_Fam_buildMotive 26 = .ok (.aload_n 0, 1) := by decide +kernel
theorem d_Fam_buildMotive_27 : decode b_Fam_buildMotive 27 = .ok (.getfield 19, 3) := by decide +kernel
theorem d_Fam_buildMotive_30 : decode b_Fam_buildMotive 30 = .ok (.iconst 3, 1) := by decide +kernel
theorem d_Fam_buildMotive_31 : decode b_Fam_buildMotive 31 = .ok (.aload_n 0, 1) := by decide +kernel
theorem d_Fam_buildMotive_32 : decode b_Fam_buildMotive 32 = .ok (.getfield 59, 3) := by decide +kernel
theorem d_Fam_buildMotive_35 : decode b_Fam_buildMotive 35 = .ok (.iconst 0, 1) := by decide +kernel
theorem d_Fam_buildMotive_36 : decode b_Fam_buildMotive 36 = .ok (.invokevirtual 180, 3) := by decide +kernel
theorem d_Fam_buildMotive_39 : decode b_Fam_buildMotive 39 = .ok (.istore_n 2, 1) := by decide +kernel
theorem d_Fam_buildMotive_40 : decode b_Fam_buildMotive 40 = .ok (.aload_n 0, 1) := by decide +kernel
theorem d_Fam_buildMotive_41 : decode b_Fam_buildMotive 41 = .ok (.iload_n 2, 1) := by decide +kernel
theorem d_Fam_buildMotive_42 : decode b_Fam_buildMotive 42 = .ok (.iconst 0, 1) := by decide +kernel
theorem d_Fam_buildMotive_43 : decode b_Fam_buildMotive 43 = .ok (.iload_n 1, 1) := by decide +kernel
theorem d_Fam_buildMotive_44 : decode b_Fam_buildMotive 44 = .ok (.iload_n 1, 1) := by decide +kernel
theorem d_Fam_buildMotive_45 : decode b_Fam_buildMotive 45 = .ok (.invokevirtual 233, 3) := by decide +kernel
theorem d_Fam_buildMotive_48 : decode b_Fam_buildMotive 48 = .ok (.istore_n 3, 1) := by decide +kernel
theorem d_Fam_buildMotive_49 : decode b_Fam_buildMotive 49 = .ok (.aload_n 0, 1) := by decide +kernel
theorem d_Fam_buildMotive_50 : decode b_Fam_buildMotive 50 = .ok (.aload_n 0, 1) := by decide +kernel
theorem d_Fam_buildMotive_51 : decode b_Fam_buildMotive 51 = .ok (.bipush 6, 2) := by decide +kernel
theorem d_Fam_buildMotive_53 : decode b_Fam_buildMotive 53 = .ok (.aload_n 0, 1) := by decide +kernel
theorem d_Fam_buildMotive_54 : decode b_Fam_buildMotive 54 = .ok (.getfield 41, 3) := by decide +kernel
theorem d_Fam_buildMotive_57 : decode b_Fam_buildMotive 57 = .ok (.aload_n 0, 1) := by decide +kernel
theorem d_Fam_buildMotive_58 : decode b_Fam_buildMotive 58 = .ok (.getfield 19, 3) := by decide +kernel
theorem d_Fam_buildMotive_61 : decode b_Fam_buildMotive 61 = .ok (.bipush 6, 2) := by decide +kernel
theorem d_Fam_buildMotive_63 : decode b_Fam_buildMotive 63 = .ok (.iload_n 3, 1) := by decide +kernel
theorem d_Fam_buildMotive_64 : decode b_Fam_buildMotive 64 = .ok (.aload_n 0, 1) := by decide +kernel
theorem d_Fam_buildMotive_65 : decode b_Fam_buildMotive 65 = .ok (.getfield 19, 3) := by decide +kernel
theorem d_Fam_buildMotive_68 : decode b_Fam_buildMotive 68 = .ok (.iconst 2, 1) := by decide +kernel
theorem d_Fam_buildMotive_69 : decode b_Fam_buildMotive 69 = .ok (.bipush 101, 2) := by decide +kernel
theorem d_Fam_buildMotive_71 : decode b_Fam_buildMotive 71 = .ok (.iconst 0, 1) := by decide +kernel
theorem d_Fam_buildMotive_72 : decode b_Fam_buildMotive 72 = .ok (.invokevirtual 180, 3) := by decide +kernel
theorem d_Fam_buildMotive_75 : decode b_Fam_buildMotive 75 = .ok (.invokevirtual 180, 3) := by decide +kernel
theorem d_Fam_buildMotive_78 : decode b_Fam_buildMotive 78 = .ok (.invokevirtual 237, 3) := by decide +kernel
theorem d_Fam_buildMotive_81 : decode b_Fam_buildMotive 81 = .ok (.putfield 241, 3) := by decide +kernel
theorem d_Fam_buildMotive_84 : decode b_Fam_buildMotive 84 = .ok (.return_, 1) := by decide +kernel
theorem d_Fam_variable_0 : decode b_Fam_variable 0 = .ok (.aload_n 0, 1) := by decide +kernel
theorem d_Fam_variable_1 : decode b_Fam_variable 1 = .ok (.getfield 19, 3) := by decide +kernel
theorem d_Fam_variable_4 : decode b_Fam_variable 4 = .ok (.iconst 0, 1) := by decide +kernel
theorem d_Fam_variable_5 : decode b_Fam_variable 5 = .ok (.iload_n 2, 1) := by decide +kernel
theorem d_Fam_variable_6 : decode b_Fam_variable 6 = .ok (.iconst 1, 1) := by decide +kernel
theorem d_Fam_variable_7 : decode b_Fam_variable 7 = .ok (.isub, 1) := by decide +kernel
theorem d_Fam_variable_8 : decode b_Fam_variable 8 = .ok (.iload_n 1, 1) := by decide +kernel
theorem d_Fam_variable_9 : decode b_Fam_variable 9 = .ok (.isub, 1) := by decide +kernel
theorem d_Fam_variable_10 : decode b_Fam_variable 10 = .ok (.iconst 0, 1) := by decide +kernel
theorem d_Fam_variable_11 : decode b_Fam_variable 11 = .ok (.invokevirtual 180, 3) := by decide +kernel
theorem d_Fam_variable_14 : decode b_Fam_variable 14 = .ok (.ireturn, 1) := by decide +kernel
theorem d_Fam_hypothesis_0 : decode b_Fam_hypothesis 0 = .ok (.aload_n 0, 1) := by decide +kernel
theorem d_Fam_hypothesis_1 : decode b_Fam_hypothesis 1 = .ok (.iload_n 2, 1) := by decide +kernel
theorem d_Fam_hypothesis_2 : decode b_Fam_hypothesis 2 = .ok (.aload_n 0, 1) := by decide +kernel
theorem d_Fam_hypothesis_3 : decode b_Fam_hypothesis 3 = .ok (.getfield 47, 3) := by decide +kernel
theorem d_Fam_hypothesis_6 : decode b_Fam_hypothesis 6 = .ok (.invokevirtual 229, 3) := by decide +kernel
theorem d_Fam_hypothesis_9 : decode b_Fam_hypothesis 9 = .ok (.istore 5, 2) := by decide +kernel
theorem d_Fam_hypothesis_11 : decode b_Fam_hypothesis 11 = .ok (.iload 4, 2) := by decide +kernel
theorem d_Fam_hypothesis_13 : decode b_Fam_hypothesis 13 = .ok (.aload_n 0, 1) := by decide +kernel
theorem d_Fam_hypothesis_14 : decode b_Fam_hypothesis 14 = .ok (.getfield 47, 3) := by decide +kernel
theorem d_Fam_hypothesis_17 : decode b_Fam_hypothesis 17 = .ok (.invokevirtual 158, 3) := by decide +kernel
theorem d_Fam_hypothesis_20 : decode b_Fam_hypothesis 20 = .ok (.iadd, 1) := by decide +kernel
theorem d_Fam_hypothesis_21 : decode b_Fam_hypothesis 21 = .ok (.istore 6, 2) := by decide +kernel
theorem d_Fam_hypothesis_23 : decode b_Fam_hypothesis 23 = .ok (.iload_n 1, 1) := by decide +kernel
theorem d_Fam_hypothesis_24 : decode b_Fam_hypothesis 24 = .ok (.bipush 6, 2) := by decide +kernel
theorem d_Fam_hypothesis_26 : decode b_Fam_hypothesis 26 = .ok (.if_icmp .ne 16, 3) := by decide +kernel
theorem d_Fam_hypothesis_29 : decode b_Fam_hypothesis 29 = .ok (.aload_n 0, 1) := by decide +kernel
theorem d_Fam_hypothesis_30 : decode b_Fam_hypothesis 30 = .ok (.aload_n 0, 1) := by decide +kernel
theorem d_Fam_hypothesis_31 : decode b_Fam_hypothesis 31 = .ok (.getfield 66, 3) := by decide +kernel
theorem d_Fam_hypothesis_34 : decode b_Fam_hypothesis 34 = .ok (.iload 6, 2) := by decide +kernel
theorem d_Fam_hypothesis_36 : decode b_Fam_hypothesis 36 = .ok (.invokevirtual 247, 3) := by decide +kernel
theorem d_Fam_hypothesis_39 : decode b_Fam_hypothesis 39 = .ok (.goto 35, 3) := by decide +kernel
theorem d_Fam_hypothesis_42 : decode b_Fam_hypothesis 42 = .ok (.aload_n 0, 1) := by decide +kernel
theorem d_Fam_hypothesis_43 : decode b_Fam_hypothesis 43 = .ok (.aload_n 0, 1) := by decide +kernel
theorem d_Fam_hypothesis_44 : decode b_Fam_hypothesis 44 = .ok (.getfield 19, 3) := by decide +kernel
theorem d_Fam_hypothesis_47 : decode b_Fam_hypothesis 47 = .ok (.iconst 4, 1) := by decide +kernel
theorem d_Fam_hypothesis_48 : decode b_Fam_hypothesis 48 = .ok (.aload_n 0, 1) := by decide +kernel
theorem d_Fam_hypothesis_49 : decode b_Fam_hypothesis 49 = .ok (.getfield 59, 3) := by decide +kernel
theorem d_Fam_hypothesis_52 : decode b_Fam_hypothesis 52 = .ok (.bipush 101, 2) := by decide +kernel
theorem d_Fam_hypothesis_54 : decode b_Fam_hypothesis 54 = .ok (.invokevirtual 180, 3) := by decide +kernel
theorem d_Fam_hypothesis_57 : decode b_Fam_hypothesis 57 = .ok (.iconst 0, 1) := by decide +kernel
theorem d_Fam_hypothesis_58 : decode b_Fam_hypothesis 58 = .ok (.aload_n 0, 1) := by decide +kernel
theorem d_Fam_hypothesis_59 : decode b_Fam_hypothesis 59 = .ok (.getfield 66, 3) := by decide +kernel
theorem d_Fam_hypothesis_62 : decode b_Fam_hypothesis 62 = .ok (.iconst 1, 1) := by decide +kernel
theorem d_Fam_hypothesis_63 : decode b_Fam_hypothesis 63 = .ok (.iadd, 1) := by decide +kernel
theorem d_Fam_hypothesis_64 : decode b_Fam_hypothesis 64 = .ok (.aload_n 0, 1) := by decide +kernel
theorem d_Fam_hypothesis_65 : decode b_Fam_hypothesis 65 = .ok (.getfield 73, 3) := by decide +kernel
theorem d_Fam_hypothesis_68 : decode b_Fam_hypothesis 68 = .ok (.iadd, 1) := by decide +kernel
theorem d_Fam_hypothesis_69 : decode b_Fam_hypothesis 69 = .ok (.iload 6, 2) := by decide +kernel
theorem d_Fam_hypothesis_71 : decode b_Fam_hypothesis 71 = .ok (.invokevirtual 233, 3) := by decide +kernel
theorem d_Fam_hypothesis_74 : decode b_Fam_hypothesis 74 = .ok (.istore 7, 2) := by decide +kernel
theorem d_Fam_hypothesis_76 : decode b_Fam_hypothesis 76 = .ok (.aload_n 0, 1) := by decide +kernel
theorem d_Fam_hypothesis_77 : decode b_Fam_hypothesis 77 = .ok (.aload_n 0, 1) := by decide +kernel
theorem d_Fam_hypothesis_78 : decode b_Fam_hypothesis 78 = .ok (.iload_n 3, 1) := by decide +kernel
theorem d_Fam_hypothesis_79 : decode b_Fam_hypothesis 79 = .ok (.iload 6, 2) := by decide +kernel
theorem d_Fam_hypothesis_81 : decode b_Fam_hypothesis 81 = .ok (.invokevirtual 247, 3) := by decide +kernel
theorem d_Fam_hypothesis_84 : decode b_Fam_hypothesis 84 = .ok (.iload 4, 2) := by decide +kernel
theorem d_Fam_hypothesis_86 : decode b_Fam_hypothesis 86 = .ok (.aload_n 0, 1) := by decide +kernel
theorem d_Fam_hypothesis_87 : decode b_Fam_hypothesis 87 = .ok (.getfield 47, 3) := by decide +kernel
theorem d_Fam_hypothesis_90 : decode b_Fam_hypothesis 90 = .ok (.invokevirtual 158, 3) := by decide +kernel
theorem d_Fam_hypothesis_93 : decode b_Fam_hypothesis 93 = .ok (.iload 6, 2) := by decide +kernel
theorem d_Fam_hypothesis_95 : decode b_Fam_hypothesis 95 = .ok (.invokevirtual 233, 3) := by decide +kernel
theorem d_Fam_hypothesis_98 : decode b_Fam_hypothesis 98 = .ok (.istore 8, 2) := by decide +kernel
theorem d_Fam_hypothesis_100 : decode b_Fam_hypothesis 100 = .ok (.aload_n 0, 1) := by decide +kernel
theorem d_Fam_hypothesis_101 : decode b_Fam_hypothesis 101 = .ok (.getfield 76, 3) := by decide +kernel
theorem d_Fam_hypothesis_104 : decode b_Fam_hypothesis 104 = .ok (.iconst 1, 1) := by decide +kernel
theorem d_Fam_hypothesis_105 : decode b_Fam_hypothesis 105 = .ok (.isub, 1) := by decide +kernel
theorem d_Fam_hypothesis_106 : decode b_Fam_hypothesis 106 = .ok (.istore 9, 2) := by decide +kernel
theorem d_Fam_hypothesis_108 : decode b_Fam_hypothesis 108 = .ok (.iload 9, 2) := by decide +kernel
theorem d_Fam_hypothesis_110 : decode b_Fam_hypothesis 110 = .ok (.ifCond .lt 32, 3) := by decide +kernel
theorem d_Fam_hypothesis_113 : decode b_Fam_hypothesis 113 = .ok (.aload_n 0, 1) := by decide +kernel
theorem d_Fam_hypothesis_114 : decode b_Fam_hypothesis 114 = .ok (.getfield 19, 3) := by decide +kernel
theorem d_Fam_hypothesis_117 : decode b_Fam_hypothesis 117 = .ok (.iconst 5, 1) := by decide +kernel
theorem d_Fam_hypothesis_118 : decode b_Fam_hypothesis 118 = .ok (.iload 7, 2) := by decide +kernel
theorem d_Fam_hypothesis_120 : decode b_Fam_hypothesis 120 = .ok (.aload_n 0, 1) := by decide +kernel
theorem d_Fam_hypothesis_121 : decode b_Fam_hypothesis 121 = .ok (.getfield 19, 3) := by decide +kernel
theorem d_Fam_hypothesis_124 : decode b_Fam_hypothesis 124 = .ok (.iload 5, 2) := by decide +kernel
theorem d_Fam_hypothesis_126 : decode b_Fam_hypothesis 126 = .ok (.iload 9, 2) := by decide +kernel
theorem d_Fam_hypothesis_128 : decode b_Fam_hypothesis 128 = .ok (.invokevirtual 189, 3) := by decide +kernel
theorem d_Fam_hypothesis_131 : decode b_Fam_hypothesis 131 = .ok (.invokevirtual 180, 3) := by decide +kernel
theorem d_Fam_hypothesis_134 : decode b_Fam_hypothesis 134 = .ok (.istore 7, 2) := by decide +kernel
theorem d_Fam_hypothesis_136 : decode b_Fam_hypothesis 136 = .ok (.iinc 9 (-1), 3) := by decide +kernel
theorem d_Fam_hypothesis_139 : decode b_Fam_hypothesis 139 = .ok (.goto (-31), 3) := by decide +kernel
theorem d_Fam_hypothesis_142 : decode b_Fam_hypothesis 142 = .ok (.aload_n 0, 1) := by decide +kernel
theorem d_Fam_hypothesis_143 : decode b_Fam_hypothesis 143 = .ok (.iload_n 1, 1) := by decide +kernel
theorem d_Fam_hypothesis_144 : decode b_Fam_hypothesis 144 = .ok (.aload_n 0, 1) := by decide +kernel
theorem d_Fam_hypothesis_145 : decode b_Fam_hypothesis 145 = .ok (.getfield 47, 3) := by decide +kernel
theorem d_Fam_hypothesis_148 : decode b_Fam_hypothesis 148 = .ok (.aload_n 0, 1) := by decide +kernel
theorem d_Fam_hypothesis_149 : decode b_Fam_hypothesis 149 = .ok (.getfield 19, 3) := by decide +kernel
theorem d_Fam_hypothesis_152 : decode b_Fam_hypothesis 152 = .ok (.iconst 5, 1) := by decide +kernel
theorem d_Fam_hypothesis_153 : decode b_Fam_hypothesis 153 = .ok (.iload 7, 2) := by decide +kernel
theorem d_Fam_hypothesis_155 : decode b_Fam_hypothesis 155 = .ok (.iload 8, 2) := by decide +kernel
theorem d_Fam_hypothesis_157 : decode b_Fam_hypothesis 157 = .ok (.invokevirtual 180, 3) := by decide +kernel
theorem d_Fam_hypothesis_160 : decode b_Fam_hypothesis 160 = .ok (.invokevirtual 237, 3) := by decide +kernel
theorem d_Fam_hypothesis_163 : decode b_Fam_hypothesis 163 = .ok (.ireturn, 1) := by decide +kernel
theorem d_Fam_withIndices_0 : decode b_Fam_withIndices 0 = .ok (.iload_n 1, 1) := by decide +kernel
theorem d_Fam_withIndices_1 : decode b_Fam_withIndices 1 = .ok (.istore 4, 2) := by decide +kernel
theorem d_Fam_withIndices_3 : decode b_Fam_withIndices 3 = .ok (.aload_n 0, 1) := by decide +kernel
theorem d_Fam_withIndices_4 : decode b_Fam_withIndices 4 = .ok (.getfield 76, 3) := by decide +kernel
theorem d_Fam_withIndices_7 : decode b_Fam_withIndices 7 = .ok (.iconst 1, 1) := by decide +kernel
theorem d_Fam_withIndices_8 : decode b_Fam_withIndices 8 = .ok (.isub, 1) := by decide +kernel
theorem d_Fam_withIndices_9 : decode b_Fam_withIndices 9 = .ok (.istore 5, 2) := by decide +kernel
theorem d_Fam_withIndices_11 : decode b_Fam_withIndices 11 = .ok (.iload 5, 2) := by decide +kernel
theorem d_Fam_withIndices_13 : decode b_Fam_withIndices 13 = .ok (.ifCond .lt 44, 3) := by decide +kernel
theorem d_Fam_withIndices_16 : decode b_Fam_withIndices 16 = .ok (.aload_n 0, 1) := by decide +kernel
theorem d_Fam_withIndices_17 : decode b_Fam_withIndices 17 = .ok (.getfield 19, 3) := by decide +kernel
theorem d_Fam_withIndices_20 : decode b_Fam_withIndices 20 = .ok (.iconst 3, 1) := by decide +kernel
theorem d_Fam_withIndices_21 : decode b_Fam_withIndices 21 = .ok (.aload_n 0, 1) := by decide +kernel
theorem d_Fam_withIndices_22 : decode b_Fam_withIndices 22 = .ok (.getfield 19, 3) := by decide +kernel
theorem d_Fam_withIndices_25 : decode b_Fam_withIndices 25 = .ok (.iload_n 2, 1) := by decide +kernel
theorem d_Fam_withIndices_26 : decode b_Fam_withIndices 26 = .ok (.iload 5, 2) := by decide +kernel
theorem d_Fam_withIndices_28 : decode b_Fam_withIndices 28 = .ok (.invokevirtual 189, 3) := by decide +kernel
theorem d_Fam_withIndices_31 : decode b_Fam_withIndices 31 = .ok (.iload_n 3, 1) := by decide +kernel
theorem d_Fam_withIndices_32 : decode b_Fam_withIndices 32 = .ok (.invokevirtual 135, 3) := by decide +kernel
theorem d_Fam_withIndices_35 : decode b_Fam_withIndices 35 = .ok (.istore 6, 2) := by decide +kernel
theorem d_Fam_withIndices_37 : decode b_Fam_withIndices 37 = .ok (.aload_n 0, 1) := by decide +kernel
theorem d_Fam_withIndices_38 : decode b_Fam_withIndices 38 = .ok (.getfield 19, 3) := by decide +kernel
theorem d_Fam_withIndices_41 : decode b_Fam_withIndices 41 = .ok (.iconst 5, 1) := by decide +kernel
theorem d_Fam_withIndices_42 : decode b_Fam_withIndices 42 = .ok (.iload 4, 2) := by decide +kernel
theorem d_Fam_withIndices_44 : decode b_Fam_withIndices 44 = .ok (.iload 6, 2) := by decide +kernel
theorem d_Fam_withIndices_46 : decode b_Fam_withIndices 46 = .ok (.invokevirtual 180, 3) := by decide +kernel
theorem d_Fam_withIndices_49 : decode b_Fam_withIndices 49 = .ok (.istore 4, 2) := by decide +kernel
theorem d_Fam_withIndices_51 : decode b_Fam_withIndices 51 = .ok (.iinc 5 (-1), 3) := by decide +kernel
theorem d_Fam_withIndices_54 : decode b_Fam_withIndices 54 = .ok (.goto (-43), 3) := by decide +kernel
theorem d_Fam_withIndices_57 : decode b_Fam_withIndices 57 = .ok (.iload 4, 2) := by decide +kernel
theorem d_Fam_withIndices_59 : decode b_Fam_withIndices 59 = .ok (.ireturn, 1) := by decide +kernel
theorem d_Fam_minor_0 : decode b_Fam_minor 0 = .ok (.aload_n 0, 1) := by decide +kernel
theorem d_Fam_minor_1 : decode b_Fam_minor 1 = .ok (.getfield 66, 3) := by decide +kernel
theorem d_Fam_minor_4 : decode b_Fam_minor 4 = .ok (.iconst 1, 1) := by decide +kernel
theorem d_Fam_minor_5 : decode b_Fam_minor 5 = .ok (.iadd, 1) := by decide +kernel
theorem d_Fam_minor_6 : decode b_Fam_minor 6 = .ok (.iload_n 1, 1) := by decide +kernel
theorem d_Fam_minor_7 : decode b_Fam_minor 7 = .ok (.iadd, 1) := by decide +kernel
theorem d_Fam_minor_8 : decode b_Fam_minor 8 = .ok (.istore_n 2, 1) := by decide +kernel
theorem d_Fam_minor_9 : decode b_Fam_minor 9 = .ok (.aload_n 0, 1) := by decide +kernel
theorem d_Fam_minor_10 : decode b_Fam_minor 10 = .ok (.aload_n 0, 1) := by decide +kernel
theorem d_Fam_minor_11 : decode b_Fam_minor 11 = .ok (.getfield 19, 3) := by decide +kernel
theorem d_Fam_minor_14 : decode b_Fam_minor 14 = .ok (.iconst 3, 1) := by decide +kernel
theorem d_Fam_minor_15 : decode b_Fam_minor 15 = .ok (.aload_n 0, 1) := by decide +kernel
theorem d_Fam_minor_16 : decode b_Fam_minor 16 = .ok (.iload_n 1, 1) := by decide +kernel
theorem d_Fam_minor_17 : decode b_Fam_minor 17 = .ok (.invokevirtual 145, 3) := by decide +kernel
theorem d_Fam_minor_20 : decode b_Fam_minor 20 = .ok (.iconst 1, 1) := by decide +kernel
theorem d_Fam_minor_21 : decode b_Fam_minor 21 = .ok (.iload_n 1, 1) := by decide +kernel
theorem d_Fam_minor_22 : decode b_Fam_minor 22 = .ok (.iadd, 1) := by decide +kernel
theorem d_Fam_minor_23 : decode b_Fam_minor 23 = .ok (.invokevirtual 135, 3) := by decide +kernel
theorem d_Fam_minor_26 : decode b_Fam_minor 26 = .ok (.aload_n 0, 1) := by decide +kernel
theorem d_Fam_minor_27 : decode b_Fam_minor 27 = .ok (.getfield 41, 3) := by decide +kernel
theorem d_Fam_minor_30 : decode b_Fam_minor 30 = .ok (.invokevirtual 229, 3) := by decide +kernel
theorem d_Fam_minor_33 : decode b_Fam_minor 33 = .ok (.istore_n 3, 1) := by decide +kernel
theorem d_Fam_minor_34 : decode b_Fam_minor 34 = .ok (.aload_n 0, 1) := by decide +kernel
theorem d_Fam_minor_35 : decode b_Fam_minor 35 = .ok (.getfield 41, 3) := by decide +kernel
theorem d_Fam_minor_38 : decode b_Fam_minor 38 = .ok (.invokevirtual 158, 3) := by decide +kernel
theorem d_Fam_minor_41 : decode b_Fam_minor 41 = .ok (.istore 4, 2) := by decide +kernel
theorem d_Fam_minor_43 : decode b_Fam_minor 43 = .ok (.aload_n 0, 1) := by decide +kernel
theorem d_Fam_minor_44 : decode b_Fam_minor 44 = .ok (.getfield 44, 3) := by decide +kernel
theorem d_Fam_minor_47 : decode b_Fam_minor 47 = .ok (.iconst 0, 1) := by decide +kernel
theorem d_Fam_minor_48 : decode b_Fam_minor 48 = .ok (.invokevirtual 142, 3) := by decide +kernel
theorem d_Fam_minor_51 : decode b_Fam_minor 51 = .ok (.iconst 0, 1) := by decide +kernel
theorem d_Fam_minor_52 : decode b_Fam_minor 52 = .ok (.istore 5, 2) := by decide +kernel
theorem d_Fam_minor_54 : decode b_Fam_minor 54 = .ok (.iload 5, 2) := by decide +kernel
theorem d_Fam_minor_56 : decode b_Fam_minor 56 = .ok (.iload 4, 2) := by decide +kernel
theorem d_Fam_minor_58 : decode b_Fam_minor 58 = .ok (.if_icmp .ge 94, 3) := by decide +kernel
theorem d_Fam_minor_61 : decode b_Fam_minor 61 = .ok (.aload_n 0, 1) := by decide +kernel
theorem d_Fam_minor_62 : decode b_Fam_minor 62 = .ok (.getfield 19, 3) := by decide +kernel
theorem d_Fam_minor_65 : decode b_Fam_minor 65 = .ok (.aload_n 0, 1) := by decide +kernel
theorem d_Fam_minor_66 : decode b_Fam_minor 66 = .ok (.getfield 41, 3) := by decide +kernel
theorem d_Fam_minor_69 : decode b_Fam_minor 69 = .ok (.iload 5, 2) := by decide +kernel
theorem d_Fam_minor_71 : decode b_Fam_minor 71 = .ok (.invokevirtual 192, 3) := by decide +kernel
theorem d_Fam_minor_74 : decode b_Fam_minor 74 = .ok (.iconst 3, 1) := by decide +kernel
theorem d_Fam_minor_75 : decode b_Fam_minor 75 = .ok (.aload_n 0, 1) := by decide +kernel
theorem d_Fam_minor_76 : decode b_Fam_minor 76 = .ok (.getfield 59, 3) := by decide +kernel
theorem d_Fam_minor_79 : decode b_Fam_minor 79 = .ok (.invokevirtual 171, 3) := by decide +kernel
theorem d_Fam_minor_82 : decode b_Fam_minor 82 = .ok (.ifCond .eq 64, 3) := by decide +kernel
theorem d_Fam_minor_85 : decode b_Fam_minor 85 = .ok (.iload_n 2, 1) := by decide +kernel
theorem d_Fam_minor_86 : decode b_Fam_minor 86 = .ok (.iload 4, 2) := by decide +kernel
theorem d_Fam_minor_88 : decode b_Fam_minor 88 = .ok (.iadd, 1) := by decide +kernel
theorem d_Fam_minor_89 : decode b_Fam_minor 89 = .ok (.aload_n 0, 1) := by decide +kernel
theorem d_Fam_minor_90 : decode b_Fam_minor 90 = .ok (.getfield 44, 3) := by decide +kernel
theorem d_Fam_minor_93 : decode b_Fam_minor 93 = .ok (.invokevirtual 158, 3) := by decide +kernel
theorem d_Fam_minor_96 : decode b_Fam_minor 96 = .ok (.iadd, 1) := by decide +kernel
theorem d_Fam_minor_97 : decode b_Fam_minor 97 = .ok (.istore 6, 2) := by decide +kernel
theorem d_Fam_minor_99 : decode b_Fam_minor 99 = .ok (.aload_n 0, 1) := by decide +kernel
theorem d_Fam_minor_100 : decode b_Fam_minor 100 = .ok (.getfield 19, 3) := by decide +kernel
theorem d_Fam_minor_103 : decode b_Fam_minor 103 = .ok (.iconst 3, 1) := by decide +kernel
theorem d_Fam_minor_104 : decode b_Fam_minor 104 = .ok (.aload_n 0, 1) := by decide +kernel
theorem d_Fam_minor_105 : decode b_Fam_minor 105 = .ok (.getfield 41, 3) := by decide +kernel
theorem d_Fam_minor_108 : decode b_Fam_minor 108 = .ok (.iload 5, 2) := by decide +kernel
theorem d_Fam_minor_110 : decode b_Fam_minor 110 = .ok (.invokevirtual 192, 3) := by decide +kernel
theorem d_Fam_minor_113 : decode b_Fam_minor 113 = .ok (.iload 6, 2) := by decide +kernel
theorem d_Fam_minor_115 : decode b_Fam_minor 115 = .ok (.iload_n 2, 1) := by decide +kernel
theorem d_Fam_minor_116 : decode b_Fam_minor 116 = .ok (.isub, 1) := by decide +kernel
theorem d_Fam_minor_117 : decode b_Fam_minor 117 = .ok (.iload 5, 2) := by decide +kernel
theorem d_Fam_minor_119 : decode b_Fam_minor 119 = .ok (.isub, 1) := by decide +kernel
theorem d_Fam_minor_120 : decode b_Fam_minor 120 = .ok (.invokevirtual 135, 3) := by decide +kernel
theorem d_Fam_minor_123 : decode b_Fam_minor 123 = .ok (.istore 7, 2) := by decide +kernel
theorem d_Fam_minor_125 : decode b_Fam_minor 125 = .ok (.aload_n 0, 1) := by decide +kernel
theorem d_Fam_minor_126 : decode b_Fam_minor 126 = .ok (.getfield 44, 3) := by decide +kernel
theorem d_Fam_minor_129 : decode b_Fam_minor 129 = .ok (.aload_n 0, 1) := by decide +kernel
theorem d_Fam_minor_130 : decode b_Fam_minor 130 = .ok (.bipush 6, 2) := by decide +kernel
theorem d_Fam_minor_132 : decode b_Fam_minor 132 = .ok (.iload 7, 2) := by decide +kernel
theorem d_Fam_minor_134 : decode b_Fam_minor 134 = .ok (.iload_n 2, 1) := by decide +kernel
theorem d_Fam_minor_135 : decode b_Fam_minor 135 = .ok (.iload 5, 2) := by decide +kernel
theorem d_Fam_minor_137 : decode b_Fam_minor 137 = .ok (.iadd, 1) := by decide +kernel
theorem d_Fam_minor_138 : decode b_Fam_minor 138 = .ok (.iload 6, 2) := by decide +kernel
theorem d_Fam_minor_140 : decode b_Fam_minor 140 = .ok (.invokevirtual 244, 3) := by decide +kernel
theorem d_Fam_minor_143 : decode b_Fam_minor 143 = .ok (.invokevirtual 178, 3) := by decide +kernel
theorem d_Fam_minor_146 : decode b_Fam_minor 146 = .ok (.iinc 5 1, 3) := by decide +kernel
theorem d_Fam_minor_149 : decode b_Fam_minor 149 = .ok (.goto (-95), 3) := by decide +kernel
theorem d_Fam_minor_152 : decode b_Fam_minor 152 = .ok (.iload_n 2, 1) := by decide +kernel
theorem d_Fam_minor_153 : decode b_Fam_minor 153 = .ok (.iload 4, 2) := by decide +kernel
theorem d_Fam_minor_155 : decode b_Fam_minor 155 = .ok (.iadd, 1) := by decide +kernel
theorem d_Fam_minor_156 : decode b_Fam_minor 156 = .ok (.aload_n 0, 1) := by decide +kernel
theorem d_Fam_minor_157 : decode b_Fam_minor 157 = .ok (.getfield 44, 3) := by decide +kernel
theorem d_Fam_minor_160 : decode b_Fam_minor 160 = .ok (.invokevirtual 158, 3) := by decide +kernel
theorem d_Fam_minor_163 : decode b_Fam_minor 163 = .ok (.iadd, 1) := by decide +kernel
theorem d_Fam_minor_164 : decode b_Fam_minor 164 = .ok (.istore 5, 2) := by decide +kernel
theorem d_Fam_minor_166 : decode b_Fam_minor 166 = .ok (.aload_n 0, 1) := by decide +kernel
theorem d_Fam_minor_167 : decode b_Fam_minor 167 = .ok (.getfield 19, 3) := by decide +kernel
theorem d_Fam_minor_170 : decode b_Fam_minor 170 = .ok (.iconst 3, 1) := by decide +kernel
theorem d_Fam_minor_171 : decode b_Fam_minor 171 = .ok (.aload_n 0, 1) := by decide +kernel
theorem d_Fam_minor_172 : decode b_Fam_minor 172 = .ok (.getfield 59, 3) := by decide +kernel
theorem d_Fam_minor_175 : decode b_Fam_minor 175 = .ok (.iconst 1, 1) := by decide +kernel
theorem d_Fam_minor_176 : decode b_Fam_minor 176 = .ok (.iadd, 1) := by decide +kernel
theorem d_Fam_minor_177 : decode b_Fam_minor 177 = .ok (.iload_n 1, 1) := by decide +kernel
theorem d_Fam_minor_178 : decode b_Fam_minor 178 = .ok (.iadd, 1) := by decide +kernel
theorem d_Fam_minor_179 : decode b_Fam_minor 179 = .ok (.iconst 0, 1) := by decide +kernel
theorem d_Fam_minor_180 : decode b_Fam_minor 180 = .ok (.invokevirtual 180, 3) := by decide +kernel
theorem d_Fam_minor_183 : decode b_Fam_minor 183 = .ok (.istore 6, 2) := by decide +kernel
theorem d_Fam_minor_185 : decode b_Fam_minor 185 = .ok (.aload_n 0, 1) := by decide +kernel
theorem d_Fam_minor_186 : decode b_Fam_minor 186 = .ok (.aload_n 0, 1) := by decide +kernel
theorem d_Fam_minor_187 : decode b_Fam_minor 187 = .ok (.iload 6, 2) := by decide +kernel
theorem d_Fam_minor_189 : decode b_Fam_minor 189 = .ok (.iconst 0, 1) := by decide +kernel
theorem d_Fam_minor_190 : decode b_Fam_minor 190 = .ok (.aload_n 0, 1) := by decide +kernel
theorem d_Fam_minor_191 : decode b_Fam_minor 191 = .ok (.getfield 66, 3) := by decide +kernel
theorem d_Fam_minor_194 : decode b_Fam_minor 194 = .ok (.iload 5, 2) := by decide +kernel
theorem d_Fam_minor_196 : decode b_Fam_minor 196 = .ok (.invokevirtual 233, 3) := by decide +kernel
theorem d_Fam_minor_199 : decode b_Fam_minor 199 = .ok (.iload_n 2, 1) := by decide +kernel
theorem d_Fam_minor_200 : decode b_Fam_minor 200 = .ok (.iload 4, 2) := by decide +kernel
theorem d_Fam_minor_202 : decode b_Fam_minor 202 = .ok (.iload 5, 2) := by decide +kernel
theorem d_Fam_minor_204 : decode b_Fam_minor 204 = .ok (.invokevirtual 233, 3) := by decide +kernel
theorem d_Fam_minor_207 : decode b_Fam_minor 207 = .ok (.istore 6, 2) := by decide +kernel
theorem d_Fam_minor_209 : decode b_Fam_minor 209 = .ok (.aload_n 0, 1) := by decide +kernel
theorem d_Fam_minor_210 : decode b_Fam_minor 210 = .ok (.aload_n 0, 1) := by decide +kernel
theorem d_Fam_minor_211 : decode b_Fam_minor 211 = .ok (.aload_n 0, 1) := by decide +kernel
theorem d_Fam_minor_212 : decode b_Fam_minor 212 = .ok (.getfield 66, 3) := by decide +kernel
theorem d_Fam_minor_215 : decode b_Fam_minor 215 = .ok (.iload 5, 2) := by decide +kernel
theorem d_Fam_minor_217 : decode b_Fam_minor 217 = .ok (.invokevirtual 247, 3) := by decide +kernel
theorem d_Fam_minor_220 : decode b_Fam_minor 220 = .ok (.iload_n 3, 1) := by decide +kernel
theorem d_Fam_minor_221 : decode b_Fam_minor 221 = .ok (.aload_n 0, 1) := by decide +kernel
theorem d_Fam_minor_222 : decode b_Fam_minor 222 = .ok (.getfield 44, 3) := by decide +kernel
theorem d_Fam_minor_225 : decode b_Fam_minor 225 = .ok (.invokevirtual 158, 3) := by decide +kernel
theorem d_Fam_minor_228 : decode b_Fam_minor 228 = .ok (.invokevirtual 250, 3) := by decide +kernel
theorem d_Fam_minor_231 : decode b_Fam_minor 231 = .ok (.istore 7, 2) := by decide +kernel
theorem d_Fam_minor_233 : decode b_Fam_minor 233 = .ok (.aload_n 0, 1) := by decide +kernel
theorem d_Fam_minor_234 : decode b_Fam_minor 234 = .ok (.getfield 19, 3) := by decide +kernel
theorem d_Fam_minor_237 : decode b_Fam_minor 237 = .ok (.iconst 5, 1) := by decide +kernel
theorem d_Fam_minor_238 : decode b_Fam_minor 238 = .ok (.iload 7, 2) := by decide +kernel
theorem d_Fam_minor_240 : decode b_Fam_minor 240 = .ok (.iload 6, 2) := by decide +kernel
theorem d_Fam_minor_242 : decode b_Fam_minor 242 = .ok (.invokevirtual 180, 3) := by decide +kernel
theorem d_Fam_minor_245 : decode b_Fam_minor 245 = .ok (.istore 7, 2) := by decide +kernel
theorem d_Fam_minor_247 : decode b_Fam_minor 247 = .ok (.aload_n 0, 1) := by decide +kernel
theorem d_Fam_minor_248 : decode b_Fam_minor 248 = .ok (.bipush 6, 2) := by decide +kernel
theorem d_Fam_minor_250 : decode b_Fam_minor 250 = .ok (.aload_n 0, 1) := by decide +kernel
theorem d_Fam_minor_251 : decode b_Fam_minor 251 = .ok (.getfield 41, 3) := by decide +kernel
theorem d_Fam_minor_254 : decode b_Fam_minor 254 = .ok (.aload_n 0, 1) := by decide +kernel
theorem d_Fam_minor_255 : decode b_Fam_minor 255 = .ok (.bipush 6, 2) := by decide +kernel
theorem d_Fam_minor_257 : decode b_Fam_minor 257 = .ok (.aload_n 0, 1) := by decide +kernel
theorem d_Fam_minor_258 : decode b_Fam_minor 258 = .ok (.getfield 44, 3) := by decide +kernel
theorem d_Fam_minor_261 : decode b_Fam_minor 261 = .ok (.iload 7, 2) := by decide +kernel
theorem d_Fam_minor_263 : decode b_Fam_minor 263 = .ok (.invokevirtual 237, 3) := by decide +kernel
theorem d_Fam_minor_266 : decode b_Fam_minor 266 = .ok (.invokevirtual 237, 3) := by decide +kernel
theorem d_Fam_minor_269 : decode b_Fam_minor 269 = .ok (.ireturn, 1) := by decide +kernel
theorem d_Fam_recursorType_0 : decode b_Fam_recursorType 0 = .ok (.aload_n 0, 1) := by decide +kernel
theorem d_Fam_recursorType_1 : decode b_Fam_recursorType 1 = .ok (.getfield 66, 3) := by decide +kernel
theorem d_Fam_recursorType_4 : decode b_Fam_recursorType 4 = .ok (.iconst 1, 1) := by decide +kernel
theorem d_Fam_recursorType_5 : decode b_Fam_recursorType 5 = .ok (.iadd, 1) := by decide +kernel
theorem d_Fam_recursorType_6 : decode b_Fam_recursorType 6 = .ok (.aload_n 0, 1) := by decide +kernel
theorem d_Fam_recursorType_7 : decode b_Fam_recursorType 7 = .ok (.getfield 73, 3) := by decide +kernel
theorem d_Fam_recursorType_10 : decode b_Fam_recursorType 10 = .ok (.iadd, 1) := by decide +kernel
theorem d_Fam_recursorType_11 : decode b_Fam_recursorType 11 = .ok (.istore_n 1, 1) := by decide +kernel
theorem d_Fam_recursorType_12 : decode b_Fam_recursorType 12 = .ok (.iload_n 1, 1) := by decide +kernel
theorem d_Fam_recursorType_13 : decode b_Fam_recursorType 13 = .ok (.aload_n 0, 1) := by decide +kernel
theorem d_Fam_recursorType_14 : decode b_Fam_recursorType 14 = .ok (.getfield 76, 3) := by decide +kernel
theorem d_Fam_recursorType_17 : decode b_Fam_recursorType 17 = .ok (.iadd, 1) := by decide +kernel
theorem d_Fam_recursorType_18 : decode b_Fam_recursorType 18 = .ok (.istore_n 2, 1) := by decide +kernel
theorem d_Fam_recursorType_19 : decode b_Fam_recursorType 19 = .ok (.aload_n 0, 1) := by decide +kernel
theorem d_Fam_recursorType_20 : decode b_Fam_recursorType 20 = .ok (.aload_n 0, 1) := by decide +kernel
theorem d_Fam_recursorType_21 : decode b_Fam_recursorType 21 = .ok (.getfield 19, 3) := by decide +kernel
theorem d_Fam_recursorType_24 : decode b_Fam_recursorType 24 = .ok (.iconst 3, 1) := by decide +kernel
theorem d_Fam_recursorType_25 : decode b_Fam_recursorType 25 = .ok (.aload_n 0, 1) := by decide +kernel
theorem d_Fam_recursorType_26 : decode b_Fam_recursorType 26 = .ok (.getfield 27, 3) := by decide +kernel
theorem d_Fam_recursorType_29 : decode b_Fam_recursorType 29 = .ok (.invokevirtual 82, 3) := by decide +kernel
theorem d_Fam_recursorType_32 : decode b_Fam_recursorType 32 = .ok (.iconst 1, 1) := by decide +kernel
theorem d_Fam_recursorType_33 : decode b_Fam_recursorType 33 = .ok (.aload_n 0, 1) := by decide +kernel
theorem d_Fam_recursorType_34 : decode b_Fam_recursorType 34 = .ok (.getfield 73, 3) := by decide +kernel
theorem d_Fam_recursorType_37 : decode b_Fam_recursorType 37 = .ok (.iadd, 1) := by decide +kernel
theorem d_Fam_recursorType_38 : decode b_Fam_recursorType 38 = .ok (.invokevirtual 135, 3) := by decide +kernel
theorem d_Fam_recursorType_41 : decode b_Fam_recursorType 41 = .ok (.aload_n 0, 1) := by decide +kernel
theorem d_Fam_recursorType_42 : decode b_Fam_recursorType 42 = .ok (.getfield 41, 3) := by decide +kernel
theorem d_Fam_recursorType_45 : decode b_Fam_recursorType 45 = .ok (.invokevirtual 229, 3) := by decide +kernel
theorem d_Fam_recursorType_48 : decode b_Fam_recursorType 48 = .ok (.pop, 1) := by decide +kernel
theorem d_Fam_recursorType_49 : decode b_Fam_recursorType 49 = .ok (.aload_n 0, 1) := by decide +kernel
theorem d_Fam_recursorType_50 : decode b_Fam_recursorType 50 = .ok (.getfield 19, 3) := by decide +kernel
theorem d_Fam_recursorType_53 : decode b_Fam_recursorType 53 = .ok (.iconst 3, 1) := by decide +kernel
theorem d_Fam_recursorType_54 : decode b_Fam_recursorType 54 = .ok (.aload_n 0, 1) := by decide +kernel
theorem d_Fam_recursorType_55 : decode b_Fam_recursorType 55 = .ok (.getfield 59, 3) := by decide +kernel
theorem d_Fam_recursorType_58 : decode b_Fam_recursorType 58 = .ok (.iconst 0, 1) := by decide +kernel
theorem d_Fam_recursorType_59 : decode b_Fam_recursorType 59 = .ok (.invokevirtual 180, 3) := by decide +kernel
theorem d_Fam_recursorType_62 : decode b_Fam_recursorType 62 = .ok (.istore_n 3, 1) := by decide +kernel
theorem d_Fam_recursorType_63 : decode b_Fam_recursorType 63 = .ok (.aload_n 0, 1) := by decide +kernel
theorem d_Fam_recursorType_64 : decode b_Fam_recursorType 64 = .ok (.aload_n 0, 1) := by decide +kernel
theorem d_Fam_recursorType_65 : decode b_Fam_recursorType 65 = .ok (.iload_n 3, 1) := by decide +kernel
theorem d_Fam_recursorType_66 : decode b_Fam_recursorType 66 = .ok (.iconst 0, 1) := by decide +kernel
theorem d_Fam_recursorType_67 : decode b_Fam_recursorType 67 = .ok (.aload_n 0, 1) := by decide +kernel
theorem d_Fam_recursorType_68 : decode b_Fam_recursorType 68 = .ok (.getfield 66, 3) := by decide +kernel
theorem d_Fam_recursorType_71 : decode b_Fam_recursorType 71 = .ok (.iload_n 2, 1) := by decide +kernel
theorem d_Fam_recursorType_72 : decode b_Fam_recursorType 72 = .ok (.invokevirtual 233, 3) := by decide +kernel
theorem d_Fam_recursorType_75 : decode b_Fam_recursorType 75 = .ok (.iload_n 1, 1) := by decide +kernel
theorem d_Fam_recursorType_76 : decode b_Fam_recursorType 76 = .ok (.aload_n 0, 1) := by decide +kernel
theorem d_Fam_recursorType_77 : decode b_Fam_recursorType 77 = .ok (.getfield 76, 3) := by decide +kernel
theorem d_Fam_recursorType_80 : decode b_Fam_recursorType 80 = .ok (.iload_n 2, 1) := by decide +kernel
theorem d_Fam_recursorType_81 : decode b_Fam_recursorType 81 = .ok (.invokevirtual 233, 3) := by decide +kernel
theorem d_Fam_recursorType_84 : decode b_Fam_recursorType 84 = .ok (.istore 4, 2) := by decide +kernel
theorem d_Fam_recursorType_86 : decode b_Fam_recursorType 86 = .ok (.aload_n 0, 1) := by decide +kernel
theorem d_Fam_recursorType_87 : decode b_Fam_recursorType 87 = .ok (.aload_n 0, 1) := by decide +kernel
theorem d_Fam_recursorType_88 : decode b_Fam_recursorType 88 = .ok (.aload_n 0, 1) := by decide +kernel
theorem d_Fam_recursorType_89 : decode b_Fam_recursorType 89 = .ok (.getfield 66, 3) := by decide +kernel
theorem d_Fam_recursorType_92 : decode b_Fam_recursorType 92 = .ok (.iload_n 2, 1) := by decide +kernel
theorem d_Fam_recursorType_93 : decode b_Fam_recursorType 93 = .ok (.iconst 1, 1) := by decide +kernel
theorem d_Fam_recursorType_94 : decode b_Fam_recursorType 94 = .ok (.iadd, 1) := by decide +kernel
theorem d_Fam_recursorType_95 : decode b_Fam_recursorType 95 = .ok (.invokevirtual 247, 3) := by decide +kernel
theorem d_Fam_recursorType_98 : decode b_Fam_recursorType 98 = .ok (.iload_n 1, 1) := by decide +kernel
theorem d_Fam_recursorType_99 : decode b_Fam_recursorType 99 = .ok (.aload_n 0, 1) := by decide +kernel
theorem d_Fam_recursorType_100 : decode b_Fam_recursorType 100 = .ok (.getfield 76, 3) := by decide +kernel
theorem d_Fam_recursorType_103 : decode b_Fam_recursorType 103 = .ok (.iconst 1, 1) := by decide +kernel
theorem d_Fam_recursorType_104 : decode b_Fam_recursorType 104 = .ok (.iadd, 1) := by decide +kernel
theorem d_Fam_recursorType_105 : decode b_Fam_recursorType 105 = .ok (.iload_n 2, 1) := by decide +kernel
theorem d_Fam_recursorType_106 : decode b_Fam_recursorType 106 = .ok (.iconst 1, 1) := by decide +kernel
theorem d_Fam_recursorType_107 : decode b_Fam_recursorType 107 = .ok (.iadd, 1) := by decide +kernel
theorem d_Fam_recursorType_108 : decode b_Fam_recursorType 108 = .ok (.invokevirtual 233, 3) := by decide +kernel
theorem d_Fam_recursorType_111 : decode b_Fam_recursorType 111 = .ok (.istore 5, 2) := by decide +kernel
theorem d_Fam_recursorType_113 : decode b_Fam_recursorType 113 = .ok (.aload_n 0, 1) := by decide +kernel
theorem d_Fam_recursorType_114 : decode b_Fam_recursorType 114 = .ok (.bipush 6, 2) := by decide +kernel
theorem d_Fam_recursorType_116 : decode b_Fam_recursorType 116 = .ok (.aload_n 0, 1) := by decide +kernel
theorem d_Fam_recursorType_117 : decode b_Fam_recursorType 117 = .ok (.getfield 41, 3) := by decide +kernel
theorem d_Fam_recursorType_120 : decode b_Fam_recursorType 120 = .ok (.aload_n 0, 1) := by decide +kernel
theorem d_Fam_recursorType_121 : decode b_Fam_recursorType 121 = .ok (.getfield 19, 3) := by decide +kernel
theorem d_Fam_recursorType_124 : decode b_Fam_recursorType 124 = .ok (.bipush 6, 2) := by decide +kernel
theorem d_Fam_recursorType_126 : decode b_Fam_recursorType 126 = .ok (.iload 4, 2) := by decide +kernel
theorem d_Fam_recursorType_128 : decode b_Fam_recursorType 128 = .ok (.iload 5, 2) := by decide +kernel
theorem d_Fam_recursorType_130 : decode b_Fam_recursorType 130 = .ok (.invokevirtual 180, 3) := by decide +kernel
theorem d_Fam_recursorType_133 : decode b_Fam_recursorType 133 = .ok (.invokevirtual 237, 3) := by decide +kernel
theorem d_Fam_recursorType_136 : decode b_Fam_recursorType 136 = .ok (.istore 6, 2) := by decide +kernel
theorem d_Fam_recursorType_138 : decode b_Fam_recursorType 138 = .ok (.aload_n 0, 1) := by decide +kernel
theorem d_Fam_recursorType_139 : decode b_Fam_recursorType 139 = .ok (.getfield 19, 3) := by decide +kernel
theorem d_Fam_recursorType_142 : decode b_Fam_recursorType 142 = .ok (.bipush 6, 2) := by decide +kernel
theorem d_Fam_recursorType_144 : decode b_Fam_recursorType 144 = .ok (.aload_n 0, 1) := by decide +kernel
theorem d_Fam_recursorType_145 : decode b_Fam_recursorType 145 = .ok (.getfield 241, 3) := by decide +kernel
theorem d_Fam_recursorType_148 : decode b_Fam_recursorType 148 = .ok (.aload_n 0, 1) := by decide +kernel
theorem d_Fam_recursorType_149 : decode b_Fam_recursorType 149 = .ok (.bipush 6, 2) := by decide +kernel
theorem d_Fam_recursorType_151 : decode b_Fam_recursorType 151 = .ok (.aload_n 0, 1) := by decide +kernel
theorem d_Fam_recursorType_152 : decode b_Fam_recursorType 152 = .ok (.getfield 50, 3) := by decide +kernel
theorem d_Fam_recursorType_155 : decode b_Fam_recursorType 155 = .ok (.iload 6, 2) := by decide +kernel
theorem d_Fam_recursorType_157 : decode b_Fam_recursorType 157 = .ok (.invokevirtual 237, 3) := by decide +kernel
theorem d_Fam_recursorType_160 : decode b_Fam_recursorType 160 = .ok (.invokevirtual 180, 3) := by decide +kernel
theorem d_Fam_recursorType_163 : decode b_Fam_recursorType 163 = .ok (.istore 6, 2) := by decide +kernel
theorem d_Fam_recursorType_165 : decode b_Fam_recursorType 165 = .ok (.aload_n 0, 1) := by decide +kernel
theorem d_Fam_recursorType_166 : decode b_Fam_recursorType 166 = .ok (.getfield 27, 3) := by decide +kernel
theorem d_Fam_recursorType_169 : decode b_Fam_recursorType 169 = .ok (.iload 6, 2) := by decide +kernel
theorem d_Fam_recursorType_171 : decode b_Fam_recursorType 171 = .ok (.invokevirtual 165, 3) := by decide +kernel
theorem d_Fam_recursorType_174 : decode b_Fam_recursorType 174 = .ok (.ireturn, 1) := by decide +kernel
theorem d_Fam_rule_0 : decode b_Fam_rule 0 = .ok (.aload_n 0, 1) := by decide +kernel
theorem d_Fam_rule_1 : decode b_Fam_rule 1 = .ok (.getfield 66, 3) := by decide +kernel
theorem d_Fam_rule_4 : decode b_Fam_rule 4 = .ok (.iconst 1, 1) := by decide +kernel
theorem d_Fam_rule_5 : decode b_Fam_rule 5 = .ok (.iadd, 1) := by decide +kernel
theorem d_Fam_rule_6 : decode b_Fam_rule 6 = .ok (.aload_n 0, 1) := by decide +kernel
theorem d_Fam_rule_7 : decode b_Fam_rule 7 = .ok (.getfield 73, 3) := by decide +kernel
theorem d_Fam_rule_10 : decode b_Fam_rule 10 = .ok (.iadd, 1) := by decide +kernel
theorem d_Fam_rule_11 : decode b_Fam_rule 11 = .ok (.istore_n 2, 1) := by decide +kernel
theorem d_Fam_rule_12 : decode b_Fam_rule 12 = .ok (.aload_n 0, 1) := by decide +kernel
theorem d_Fam_rule_13 : decode b_Fam_rule 13 = .ok (.aload_n 0, 1) := by decide +kernel
theorem d_Fam_rule_14 : decode b_Fam_rule 14 = .ok (.getfield 19, 3) := by decide +kernel
theorem d_Fam_rule_17 : decode b_Fam_rule 17 = .ok (.iconst 3, 1) := by decide +kernel
theorem d_Fam_rule_18 : decode b_Fam_rule 18 = .ok (.aload_n 0, 1) := by decide +kernel
theorem d_Fam_rule_19 : decode b_Fam_rule 19 = .ok (.iload_n 1, 1) := by decide +kernel
theorem d_Fam_rule_20 : decode b_Fam_rule 20 = .ok (.invokevirtual 145, 3) := by decide +kernel
theorem d_Fam_rule_23 : decode b_Fam_rule 23 = .ok (.iconst 1, 1) := by decide +kernel
theorem d_Fam_rule_24 : decode b_Fam_rule 24 = .ok (.aload_n 0, 1) := by decide +kernel
theorem d_Fam_rule_25 : decode b_Fam_rule 25 = .ok (.getfield 73, 3) := by decide +kernel
theorem d_Fam_rule_28 : decode b_Fam_rule 28 = .ok (.iadd, 1) := by decide +kernel
theorem d_Fam_rule_29 : decode b_Fam_rule 29 = .ok (.invokevirtual 135, 3) := by decide +kernel
theorem d_Fam_rule_32 : decode b_Fam_rule 32 = .ok (.aload_n 0, 1) := by decide +kernel
theorem d_Fam_rule_33 : decode b_Fam_rule 33 = .ok (.getfield 41, 3) := by decide +kernel
theorem d_Fam_rule_36 : decode b_Fam_rule 36 = .ok (.invokevirtual 229, 3) := by decide +kernel
theorem d_Fam_rule_39 : decode b_Fam_rule 39 = .ok (.pop, 1) := by decide +kernel
theorem d_Fam_rule_40 : decode b_Fam_rule 40 = .ok (.aload_n 0, 1) := by decide +kernel
theorem d_Fam_rule_41 : decode b_Fam_rule 41 = .ok (.getfield 41, 3) := by decide +kernel
theorem d_Fam_rule_44 : decode b_Fam_rule 44 = .ok (.invokevirtual 158, 3) := by decide +kernel
theorem d_Fam_rule_47 : decode b_Fam_rule 47 = .ok (.istore_n 3, 1) := by decide +kernel
theorem d_Fam_rule_48 : decode b_Fam_rule 48 = .ok (.iload_n 2, 1) := by decide +kernel
theorem d_Fam_rule_49 : decode b_Fam_rule 49 = .ok (.iload_n 3, 1) := by decide +kernel
theorem d_Fam_rule_50 : decode b_Fam_rule 50 = .ok (.iadd, 1) := by decide +kernel
theorem d_Fam_rule_51 : decode b_Fam_rule 51 = .ok (.istore 4, 2) := by decide +kernel
theorem d_Fam_rule_53 : decode b_Fam_rule 53 = .ok (.aload_n 0, 1) := by decide +kernel
theorem d_Fam_rule_54 : decode b_Fam_rule 54 = .ok (.aload_n 0, 1) := by decide +kernel
theorem d_Fam_rule_55 : decode b_Fam_rule 55 = .ok (.aload_n 0, 1) := by decide +kernel
theorem d_Fam_rule_56 : decode b_Fam_rule 56 = .ok (.getfield 66, 3) := by decide +kernel
theorem d_Fam_rule_59 : decode b_Fam_rule 59 = .ok (.iconst 1, 1) := by decide +kernel
theorem d_Fam_rule_60 : decode b_Fam_rule 60 = .ok (.iadd, 1) := by decide +kernel
theorem d_Fam_rule_61 : decode b_Fam_rule 61 = .ok (.iload_n 1, 1) := by decide +kernel
theorem d_Fam_rule_62 : decode b_Fam_rule 62 = .ok (.iadd, 1) := by decide +kernel
theorem d_Fam_rule_63 : decode b_Fam_rule 63 = .ok (.iload 4, 2) := by decide +kernel
theorem d_Fam_rule_65 : decode b_Fam_rule 65 = .ok (.invokevirtual 247, 3) := by decide +kernel
theorem d_Fam_rule_68 : decode b_Fam_rule 68 = .ok (.iload_n 2, 1) := by decide +kernel
theorem d_Fam_rule_69 : decode b_Fam_rule 69 = .ok (.iload_n 3, 1) := by decide +kernel
theorem d_Fam_rule_70 : decode b_Fam_rule 70 = .ok (.iload 4, 2) := by decide +kernel
theorem d_Fam_rule_72 : decode b_Fam_rule 72 = .ok (.invokevirtual 233, 3) := by decide +kernel
theorem d_Fam_rule_75 : decode b_Fam_rule 75 = .ok (.istore 5, 2) := by decide +kernel
theorem d_Fam_rule_77 : decode b_Fam_rule 77 = .ok (.iconst 0, 1) := by decide +kernel
theorem d_Fam_rule_78 : decode b_Fam_rule 78 = .ok (.istore 6, 2) := by decide +kernel
theorem d_Fam_rule_80 : decode b_Fam_rule 80 = .ok (.iload 6, 2) := by decide +kernel
theorem d_Fam_rule_82 : decode b_Fam_rule 82 = .ok (.iload_n 3, 1) := by decide +kernel
theorem d_Fam_rule_83 : decode b_Fam_rule 83 = .ok (.if_icmp .ge 82, 3) := by decide +kernel
theorem d_Fam_rule_86 : decode b_Fam_rule 86 = .ok (.aload_n 0, 1) := by decide +kernel
theorem d_Fam_rule_87 : decode b_Fam_rule 87 = .ok (.getfield 19, 3) := by decide +kernel
theorem d_Fam_rule_90 : decode b_Fam_rule 90 = .ok (.aload_n 0, 1) := by decide +kernel
theorem d_Fam_rule_91 : decode b_Fam_rule 91 = .ok (.getfield 41, 3) := by decide +kernel
theorem d_Fam_rule_94 : decode b_Fam_rule 94 = .ok (.iload 6, 2) := by decide +kernel
theorem d_Fam_rule_96 : decode b_Fam_rule 96 = .ok (.invokevirtual 192, 3) := by decide +kernel
theorem d_Fam_rule_99 : decode b_Fam_rule 99 = .ok (.iconst 3, 1) := by decide +kernel
theorem d_Fam_rule_100 : decode b_Fam_rule 100 = .ok (.aload_n 0, 1) := by decide +kernel
theorem d_Fam_rule_101 : decode b_Fam_rule 101 = .ok (.getfield 59, 3) := by decide +kernel
theorem d_Fam_rule_104 : decode b_Fam_rule 104 = .ok (.invokevirtual 171, 3) := by decide +kernel
theorem d_Fam_rule_107 : decode b_Fam_rule 107 = .ok (.ifCond .eq 52, 3) := by decide +kernel
theorem d_Fam_rule_110 : decode b_Fam_rule 110 = .ok (.aload_n 0, 1) := by decide +kernel
theorem d_Fam_rule_111 : decode b_Fam_rule 111 = .ok (.getfield 19, 3) := by decide +kernel
theorem d_Fam_rule_114 : decode b_Fam_rule 114 = .ok (.iconst 3, 1) := by decide +kernel
theorem d_Fam_rule_115 : decode b_Fam_rule 115 = .ok (.aload_n 0, 1) := by decide +kernel
theorem d_Fam_rule_116 : decode b_Fam_rule 116 = .ok (.getfield 41, 3) := by decide +kernel
theorem d_Fam_rule_119 : decode b_Fam_rule 119 = .ok (.iload 6, 2) := by decide +kernel
theorem d_Fam_rule_121 : decode b_Fam_rule 121 = .ok (.invokevirtual 192, 3) := by decide +kernel
theorem d_Fam_rule_124 : decode b_Fam_rule 124 = .ok (.iload_n 3, 1) := by decide +kernel
theorem d_Fam_rule_125 : decode b_Fam_rule 125 = .ok (.iload 6, 2) := by decide +kernel
theorem d_Fam_rule_127 : decode b_Fam_rule 127 = .ok (.isub, 1) := by decide +kernel
theorem d_Fam_rule_128 : decode b_Fam_rule 128 = .ok (.invokevirtual 135, 3) := by decide +kernel
theorem d_Fam_rule_131 : decode b_Fam_rule 131 = .ok (.istore 7, 2) := by decide +kernel
theorem d_Fam_rule_133 : decode b_Fam_rule 133 = .ok (.aload_n 0, 1) := by decide +kernel
theorem d_Fam_rule_134 : decode b_Fam_rule 134 = .ok (.getfield 19, 3) := by decide +kernel
theorem d_Fam_rule_137 : decode b_Fam_rule 137 = .ok (.iconst 5, 1) := by decide +kernel
theorem d_Fam_rule_138 : decode b_Fam_rule 138 = .ok (.iload 5, 2) := by decide +kernel
theorem d_Fam_rule_140 : decode b_Fam_rule 140 = .ok (.aload_n 0, 1) := by decide +kernel
theorem d_Fam_rule_141 : decode b_Fam_rule 141 = .ok (.bipush 7, 2) := by decide +kernel
theorem d_Fam_rule_143 : decode b_Fam_rule 143 = .ok (.iload 7, 2) := by decide +kernel
theorem d_Fam_rule_145 : decode b_Fam_rule 145 = .ok (.iload_n 2, 1) := by decide +kernel
theorem d_Fam_rule_146 : decode b_Fam_rule 146 = .ok (.iload 6, 2) := by decide +kernel
theorem d_Fam_rule_148 : decode b_Fam_rule 148 = .ok (.iadd, 1) := by decide +kernel
theorem d_Fam_rule_149 : decode b_Fam_rule 149 = .ok (.iload 4, 2) := by decide +kernel
theorem d_Fam_rule_151 : decode b_Fam_rule 151 = .ok (.invokevirtual 244, 3) := by decide +kernel
theorem d_Fam_rule_154 : decode b_Fam_rule 154 = .ok (.invokevirtual 180, 3) := by decide +kernel
theorem d_Fam_rule_157 : decode b_Fam_rule 157 = .ok (.istore 5, 2) := by decide +kernel
theorem d_Fam_rule_159 : decode b_Fam_rule 159 = .ok (.iinc 6 1, 3) := by decide +kernel
theorem d_Fam_rule_162 : decode b_Fam_rule 162 = .ok (.goto (-82), 3) := by decide +kernel
theorem d_Fam_rule_165 : decode b_Fam_rule 165 = .ok (.aload_n 0, 1) := by decide +kernel
theorem d_Fam_rule_166 : decode b_Fam_rule 166 = .ok (.getfield 19, 3) := by decide +kernel
theorem d_Fam_rule_169 : decode b_Fam_rule 169 = .ok (.bipush 7, 2) := by decide +kernel
theorem d_Fam_rule_171 : decode b_Fam_rule 171 = .ok (.aload_n 0, 1) := by decide +kernel
theorem d_Fam_rule_172 : decode b_Fam_rule 172 = .ok (.getfield 241, 3) := by decide +kernel
theorem d_Fam_rule_175 : decode b_Fam_rule 175 = .ok (.aload_n 0, 1) := by decide +kernel
theorem d_Fam_rule_176 : decode b_Fam_rule 176 = .ok (.bipush 7, 2) := by decide +kernel
theorem d_Fam_rule_178 : decode b_Fam_rule 178 = .ok (.aload_n 0, 1) := by decide +kernel
theorem d_Fam_rule_179 : decode b_Fam_rule 179 = .ok (.getfield 50, 3) := by decide +kernel
theorem d_Fam_rule_182 : decode b_Fam_rule 182 = .ok (.aload_n 0, 1) := by decide +kernel
theorem d_Fam_rule_183 : decode b_Fam_rule 183 = .ok (.bipush 7, 2) := by decide +kernel
theorem d_Fam_rule_185 : decode b_Fam_rule 185 = .ok (.aload_n 0, 1) := by decide +kernel
theorem d_Fam_rule_186 : decode b_Fam_rule 186 = .ok (.getfield 41, 3) := by decide +kernel
theorem d_Fam_rule_189 : decode b_Fam_rule 189 = .ok (.iload 5, 2) := by decide +kernel
theorem d_Fam_rule_191 : decode b_Fam_rule 191 = .ok (.invokevirtual 237, 3) := by decide +kernel
theorem d_Fam_rule_194 : decode b_Fam_rule 194 = .ok (.invokevirtual 237, 3) := by decide +kernel
theorem d_Fam_rule_197 : decode b_Fam_rule 197 = .ok (.invokevirtual 180, 3) := by decide +kernel
