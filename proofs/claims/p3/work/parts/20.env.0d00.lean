theorem d_Env_find_0 : decode b_Env_find 0 = .ok (.iconst 0, 1) := by decide +kernel
theorem d_Env_find_1 : decode b_Env_find 1 = .ok (.istore_n 3, 1) := by decide +kernel
theorem d_Env_find_2 : decode b_Env_find 2 = .ok (.iload_n 3, 1) := by decide +kernel
theorem d_Env_find_3 : decode b_Env_find 3 = .ok (.iload_n 2, 1) := by decide +kernel
theorem d_Env_find_4 : decode b_Env_find 4 = .ok (.if_icmp .ge 37, 3) := by decide +kernel
theorem d_Env_find_7 : decode b_Env_find 7 = .ok (.iload_n 3, 1) := by decide +kernel
theorem d_Env_find_8 : decode b_Env_find 8 = .ok (.aload_n 0, 1) := by decide +kernel
theorem d_Env_find_9 : decode b_Env_find 9 = .ok (.invokevirtual 43, 3) := by decide +kernel
theorem d_Env_find_12 : decode b_Env_find 12 = .ok (.if_icmp .ge 29, 3) := by decide +kernel
theorem d_Env_find_15 : decode b_Env_find 15 = .ok (.aload_n 1, 1) := by decide +kernel
theorem d_Env_find_16 : decode b_Env_find 16 = .ok (.aload_n 0, 1) := by decide +kernel
theorem d_Env_find_17 : decode b_Env_find 17 = .ok (.getfield 21, 3) := by decide +kernel
theorem d_Env_find_20 : decode b_Env_find 20 = .ok (.aload_n 0, 1) := by decide +kernel
theorem d_Env_find_21 : decode b_Env_find 21 = .ok (.iload_n 3, 1) := by decide +kernel
theorem d_Env_find_22 : decode b_Env_find 22 = .ok (.bipush 11, 2) := by decide +kernel
theorem d_Env_find_24 : decode b_Env_find 24 = .ok (.invokevirtual 63, 3) := by decide +kernel
theorem d_Env_find_27 : decode b_Env_find 27 = .ok (.invokevirtual 70, 3) := by decide +kernel
theorem d_Env_find_30 : decode b_Env_find 30 = .ok (.ifCond .eq 5, 3) := by decide +kernel
theorem d_Env_find_33 : decode b_Env_find 33 = .ok (.iload_n 3, 1) := by decide +kernel
theorem d_Env_find_34 : decode b_Env_find 34 = .ok (.ireturn, 1) := by decide +kernel
theorem d_Env_find_35 : decode b_Env_find 35 = .ok (.iinc 3 1, 3) := by decide +kernel
theorem d_Env_find_38 : decode b_Env_find 38 = .ok (.goto (-36), 3) := by decide +kernel
theorem d_Env_find_41 : decode b_Env_find 41 = .ok (.iconst (-1), 1) := by decide +kernel
theorem d_Env_find_42 : decode b_Env_find 42 = .ok (.ireturn, 1) := by decide +kernel
theorem d_Env_add_0 : decode b_Env_add 0 = .ok (.aload_n 0, 1) := by decide +kernel
theorem d_Env_add_1 : decode b_Env_add 1 = .ok (.invokevirtual 43, 3) := by decide +kernel
theorem d_Env_add_4 : decode b_Env_add 4 = .ok (.istore_n 3, 1) := by decide +kernel
theorem d_Env_add_5 : decode b_Env_add 5 = .ok (.aload_n 0, 1) := by decide +kernel
theorem d_Env_add_6 : decode b_Env_add 6 = .ok (.getfield 21, 3) := by decide +kernel
theorem d_Env_add_9 : decode b_Env_add 9 = .ok (.invokevirtual 24, 3) := by decide +kernel
theorem d_Env_add_12 : decode b_Env_add 12 = .ok (.aload_n 2, 1) := by decide +kernel
theorem d_Env_add_13 : decode b_Env_add 13 = .ok (.invokevirtual 46, 3) := by decide +kernel
theorem d_Env_add_16 : decode b_Env_add 16 = .ok (.invokestatic 49, 3) := by decide +kernel
theorem d_Env_add_19 : decode b_Env_add 19 = .ok (.istore 4, 2) := by decide +kernel
theorem d_Env_add_21 : decode b_Env_add 21 = .ok (.iconst 0, 1) := by decide +kernel
theorem d_Env_add_22 : decode b_Env_add 22 = .ok (.istore 5, 2) := by decide +kernel
theorem d_Env_add_24 : decode b_Env_add 24 = .ok (.iload 5, 2) := by decide +kernel
theorem d_Env_add_26 : decode b_Env_add 26 = .ok (.aload_n 2, 1) := by decide +kernel
theorem d_Env_add_27 : decode b_Env_add 27 = .ok (.invokevirtual 46, 3) := by decide +kernel
theorem d_Env_add_30 : decode b_Env_add 30 = .ok (.if_icmp .ge 22, 3) := by decide +kernel
theorem d_Env_add_33 : decode b_Env_add 33 = .ok (.aload_n 0, 1) := by decide +kernel
theorem d_Env_add_34 : decode b_Env_add 34 = .ok (.getfield 21, 3) := by decide +kernel
theorem d_Env_add_37 : decode b_Env_add 37 = .ok (.aload_n 2, 1) := by decide +kernel
theorem d_Env_add_38 : decode b_Env_add 38 = .ok (.iload 5, 2) := by decide +kernel
theorem d_Env_add_40 : decode b_Env_add 40 = .ok (.invokevirtual 53, 3) := by decide +kernel
theorem d_Env_add_43 : decode b_Env_add 43 = .ok (.invokevirtual 56, 3) := by decide +kernel
theorem d_Env_add_46 : decode b_Env_add 46 = .ok (.iinc 5 1, 3) := by decide +kernel
theorem d_Env_add_49 : decode b_Env_add 49 = .ok (.goto (-25), 3) := by decide +kernel
theorem d_Env_add_52 : decode b_Env_add 52 = .ok (.iconst 0, 1) := by decide +kernel
theorem d_Env_add_53 : decode b_Env_add 53 = .ok (.istore 5, 2) := by decide +kernel
theorem d_Env_add_55 : decode b_Env_add 55 = .ok (.iload 5, 2) := by decide +kernel
theorem d_Env_add_57 : decode b_Env_add 57 = .ok (.bipush 12, 2) := by decide +kernel
theorem d_Env_add_59 : decode b_Env_add 59 = .ok (.if_icmp .ge 17, 3) := by decide +kernel
theorem d_Env_add_62 : decode b_Env_add 62 = .ok (.aload_n 0, 1) := by decide +kernel
theorem d_Env_add_63 : decode b_Env_add 63 = .ok (.getfield 15, 3) := by decide +kernel
theorem d_Env_add_66 : decode b_Env_add 66 = .ok (.iconst 0, 1) := by decide +kernel
theorem d_Env_add_67 : decode b_Env_add 67 = .ok (.invokevirtual 56, 3) := by decide +kernel
theorem d_Env_add_70 : decode b_Env_add 70 = .ok (.iinc 5 1, 3) := by decide +kernel
theorem d_Env_add_73 : decode b_Env_add 73 = .ok (.goto (-18), 3) := by decide +kernel
theorem d_Env_add_76 : decode b_Env_add 76 = .ok (.aload_n 0, 1) := by decide +kernel
theorem d_Env_add_77 : decode b_Env_add 77 = .ok (.iload_n 3, 1) := by decide +kernel
theorem d_Env_add_78 : decode b_Env_add 78 = .ok (.iconst 0, 1) := by decide +kernel
theorem d_Env_add_79 : decode b_Env_add 79 = .ok (.iload_n 1, 1) := by decide +kernel
theorem d_Env_add_80 : decode b_Env_add 80 = .ok (.invokevirtual 59, 3) := by decide +kernel
theorem d_Env_add_83 : decode b_Env_add 83 = .ok (.aload_n 0, 1) := by decide +kernel
theorem d_Env_add_84 : decode b_Env_add 84 = .ok (.iload_n 3, 1) := by decide +kernel
theorem d_Env_add_85 : decode b_Env_add 85 = .ok (.iconst 1, 1) := by decide +kernel
theorem d_Env_add_86 : decode b_Env_add 86 = .ok (.iconst (-1), 1) := by decide +kernel
theorem d_Env_add_87 : decode b_Env_add 87 = .ok (.invokevirtual 59, 3) := by decide +kernel
theorem d_Env_add_90 : decode b_Env_add 90 = .ok (.aload_n 0, 1) := by decide +kernel
theorem d_Env_add_91 : decode b_Env_add 91 = .ok (.iload_n 3, 1) := by decide +kernel
theorem d_Env_add_92 : decode b_Env_add 92 = .ok (.iconst 2, 1) := by decide +kernel
theorem d_Env_add_93 : decode b_Env_add 93 = .ok (.iconst (-1), 1) := by decide +kernel
theorem d_Env_add_94 : decode b_Env_add 94 = .ok (.invokevirtual 59, 3) := by decide +kernel
theorem d_Env_add_97 : decode b_Env_add 97 = .ok (.aload_n 0, 1) := by decide +kernel
theorem d_Env_add_98 : decode b_Env_add 98 = .ok (.iload_n 3, 1) := by decide +kernel
theorem d_Env_add_99 : decode b_Env_add 99 = .ok (.bipush 11, 2) := by decide +kernel
theorem d_Env_add_101 : decode b_Env_add 101 = .ok (.iload 4, 2) := by decide +kernel
theorem d_Env_add_103 : decode b_Env_add 103 = .ok (.invokevirtual 59, 3) := by decide +kernel
theorem d_Env_add_106 : decode b_Env_add 106 = .ok (.iload_n 3, 1) := by decide +kernel
theorem d_Env_add_107 : decode b_Env_add 107 = .ok (.ireturn, 1) := by decide +kernel
theorem d_Env_allows_0 : decode b_Env_allows 0 = .ok (.iload_n 2, 1) := by decide +kernel
theorem d_Env_allows_1 : decode b_Env_allows 1 = .ok (.ifCond .eq 14, 3) := by decide +kernel
theorem d_Env_allows_4 : decode b_Env_allows 4 = .ok (.aload_n 0, 1) := by decide +kernel
theorem d_Env_allows_5 : decode b_Env_allows 5 = .ok (.iload_n 1, 1) := by decide +kernel
theorem d_Env_allows_6 : decode b_Env_allows 6 = .ok (.bipush 9, 2) := by decide +kernel
theorem d_Env_allows_8 : decode b_Env_allows 8 = .ok (.invokevirtual 63, 3) := by decide +kernel
theorem d_Env_allows_11 : decode b_Env_allows 11 = .ok (.iconst 1, 1) := by decide +kernel
theorem d_Env_allows_12 : decode b_Env_allows 12 = .ok (.if_icmp .ne 7, 3) := by decide +kernel
theorem d_Env_allows_15 : decode b_Env_allows 15 = .ok (.iconst 1, 1) := by decide +kernel
theorem d_Env_allows_16 : decode b_Env_allows 16 = .ok (.goto 4, 3) := by decide +kernel
theorem d_Env_allows_19 : decode b_Env_allows 19 = .ok (.iconst 0, 1) := by decide +kernel
theorem d_Env_allows_20 : decode b_Env_allows 20 = .ok (.ireturn, 1) := by decide +kernel
theorem d_Env_nameLength_0 : decode b_Env_nameLength 0 = .ok (.aload_n 0, 1) := by decide +kernel
theorem d_Env_nameLength_1 : decode b_Env_nameLength 1 = .ok (.iload_n 1, 1) := by decide +kernel
theorem d_Env_nameLength_2 : decode b_Env_nameLength 2 = .ok (.bipush 11, 2) := by decide +kernel
theorem d_Env_nameLength_4 : decode b_Env_nameLength 4 = .ok (.invokevirtual 63, 3) := by decide +kernel
theorem d_Env_nameLength_7 : decode b_Env_nameLength 7 = .ok (.invokestatic 74, 3) := by decide +kernel
theorem d_Env_nameLength_10 : decode b_Env_nameLength 10 = .ok (.ireturn, 1) := by decide +kernel
theorem d_Env_nameByte_0 : decode b_Env_nameByte 0 = .ok (.aload_n 0, 1) := by decide +kernel
theorem d_Env_nameByte_1 : decode b_Env_nameByte 1 = .ok (.getfield 21, 3) := by decide +kernel
theorem d_Env_nameByte_4 : decode b_Env_nameByte 4 = .ok (.aload_n 0, 1) := by decide +kernel
theorem d_Env_nameByte_5 : decode b_Env_nameByte 5 = .ok (.iload_n 1, 1) := by decide +kernel
theorem d_Env_nameByte_6 : decode b_Env_nameByte 6 = .ok (.bipush 11, 2) := by decide +kernel
theorem d_Env_nameByte_8 : decode b_Env_nameByte 8 = .ok (.invokevirtual 63, 3) := by decide +kernel
theorem d_Env_nameByte_11 : decode b_Env_nameByte 11 = .ok (.invokestatic 66, 3) := by decide +kernel
theorem d_Env_nameByte_14 : decode b_Env_nameByte 14 = .ok (.iload_n 2, 1) := by decide +kernel
theorem d_Env_nameByte_15 : decode b_Env_nameByte 15 = .ok (.iadd, 1) := by decide +kernel
theorem d_Env_nameByte_16 : decode b_Env_nameByte 16 = .ok (.invokevirtual 36, 3) := by decide +kernel
theorem d_Env_nameByte_19 : decode b_Env_nameByte 19 = .ok (.ireturn, 1) := by decide +kernel
theorem d_Env_cut_0 : decode b_Env_cut 0 = .ok (.iload_n 1, 1) := by decide +kernel
theorem d_Env_cut_1 : decode b_Env_cut 1 = .ok (.aload_n 0, 1) := by decide +kernel
theorem d_Env_cut_2 : decode b_Env_cut 2 = .ok (.invokevirtual 43, 3) := by decide +kernel
theorem d_Env_cut_5 : decode b_Env_cut 5 = .ok (.if_icmp .ge 31, 3) := by decide +kernel
theorem d_Env_cut_8 : decode b_Env_cut 8 = .ok (.aload_n 0, 1) := by decide +kernel
theorem d_Env_cut_9 : decode b_Env_cut 9 = .ok (.getfield 21, 3) := by decide +kernel
theorem d_Env_cut_12 : decode b_Env_cut 12 = .ok (.aload_n 0, 1) := by decide +kernel
theorem d_Env_cut_13 : decode b_Env_cut 13 = .ok (.iload_n 1, 1) := by decide +kernel
theorem d_Env_cut_14 : decode b_Env_cut 14 = .ok (.bipush 11, 2) := by decide +kernel
theorem d_Env_cut_16 : decode b_Env_cut 16 = .ok (.invokevirtual 63, 3) := by decide +kernel
theorem d_Env_cut_19 : decode b_Env_cut 19 = .ok (.invokestatic 66, 3) := by decide +kernel
theorem d_Env_cut_22 : decode b_Env_cut 22 = .ok (.invokevirtual 69, 3) := by decide +kernel
theorem d_Env_cut_25 : decode b_Env_cut 25 = .ok (.aload_n 0, 1) := by decide +kernel
theorem d_Env_cut_26 : decode b_Env_cut 26 = .ok (.getfield 15, 3) := by decide +kernel
theorem d_Env_cut_29 : decode b_Env_cut 29 = .ok (.iload_n 1, 1) := by decide +kernel
theorem d_Env_cut_30 : decode b_Env_cut 30 = .ok (.bipush 12, 2) := by decide +kernel
theorem d_Env_cut_32 : decode b_Env_cut 32 = .ok (.imul, 1) := by decide +kernel
theorem d_Env_cut_33 : decode b_Env_cut 33 = .ok (.invokevirtual 69, 3) := by decide +kernel
theorem d_Env_cut_36 : decode b_Env_cut 36 = .ok (.return_, 1) := by decide +kernel
theorem d_Env_clear_0 : decode b_Env_clear 0 = .ok (.aload_n 0, 1) := by decide +kernel
theorem d_Env_clear_1 : decode b_Env_clear 1 = .ok (.iconst 0, 1) := by decide +kernel
theorem d_Env_clear_2 : decode b_Env_clear 2 = .ok (.invokevirtual 32, 3) := by decide +kernel
theorem d_Env_clear_5 : decode b_Env_clear 5 = .ok (.aload_n 0, 1) := by decide +kernel
theorem d_Env_clear_6 : decode b_Env_clear 6 = .ok (.iconst 0, 1) := by decide +kernel
theorem d_Env_clear_7 : decode b_Env_clear 7 = .ok (.putfield 28, 3) := by decide +kernel
theorem d_Env_clear_10 : decode b_Env_clear 10 = .ok (.return_, 1) := by decide +kernel
