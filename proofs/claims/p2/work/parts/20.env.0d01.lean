theorem d_Env_add_77 : decode b_Env_add 77 = .ok (.iload_n 3, 1) := by decide +kernel
theorem d_Env_add_78 : decode b_Env_add 78 = .ok (.iconst 0, 1) := by decide +kernel
theorem d_Env_add_79 : decode b_Env_add 79 = .ok (.iload_n 1, 1) := by decide +kernel
theorem d_Env_add_80 : decode b_Env_add 80 = .ok (.invokevirtual 59, 3) := by decide +kernel
theorem d_Env_add_83 : decode b_Env_add 83 = .ok (.aload_n 0, 1) := by decide +kernel
theorem d_Env_add_84 : decode b_Env_add 84 = .ok (.iload_n 3, 1) := by decide +kernel
theorem d_Env_add_85 : decode b_Env_add 85 = .ok (.iconst 1, 1) := by decide +kernel
theorem d_Env_add_86 : decode b_Env_add 86 = .ok (.iconst (-1), 1) := by decide +kernel
theorem d_Env_add_87 : decode b_Env_add 87 = .ok (.invokevirtual 59, 3) := by decide +kernel
theorem d_Env_add_90 : decode b_Env_add 90 = .ok (.aload_n 0, 1) := by decide +kernel
theorem d_Env_add_91 : decode b_Env_add 91 = .ok (.iload_n 3, 1) := by decide +kernel
theorem d_Env_add_92 : decode b_Env_add 92 = .ok (.iconst 2, 1) := by decide +kernel
theorem d_Env_add_93 : decode b_Env_add 93 = .ok (.iconst (-1), 1) := by decide +kernel
theorem d_Env_add_94 : decode b_Env_add 94 = .ok (.invokevirtual 59, 3) := by decide +kernel
theorem d_Env_add_97 : decode b_Env_add 97 = .ok (.aload_n 0, 1) := by decide +kernel
theorem d_Env_add_98 : decode b_Env_add 98 = .ok (.iload_n 3, 1) := by decide +kernel
theorem d_Env_add_99 : decode b_Env_add 99 = .ok (.bipush 11, 2) := by decide +kernel
theorem d_Env_add_101 : decode b_Env_add 101 = .ok (.iload 4, 2) := by decide +kernel
theorem d_Env_add_103 : decode b_Env_add 103 = .ok (.invokevirtual 59, 3) := by decide +kernel
theorem d_Env_add_106 : decode b_Env_add 106 = .ok (.iload_n 3, 1) := by decide +kernel
theorem d_Env_add_107 : decode b_Env_add 107 = .ok (.ireturn, 1) := by decide +kernel
theorem d_Env_allows_0 : decode b_Env_allows 0 = .ok (.iload_n 2, 1) := by decide +kernel
theorem d_Env_allows_1 : decode b_Env_allows 1 = .ok (.ifCond .eq 14, 3) := by decide +kernel
theorem d_Env_allows_4 : decode b_Env_allows 4 = .ok (.aload_n 0, 1) := by decide +kernel
theorem d_Env_allows_5 : decode b_Env_allows 5 = .ok (.iload_n 1, 1) := by decide +kernel
theorem d_Env_allows_6 : decode b_Env_allows 6 = .ok (.bipush 9, 2) := by decide +kernel
theorem d_Env_allows_8 : decode b_Env_allows 8 = .ok (.invokevirtual 63, 3) := by decide +kernel
theorem d_Env_allows_11 : decode b_Env_allows 11 = .ok (.iconst 1, 1) := by decide +kernel
theorem d_Env_allows_12 : decode b_Env_allows 12 = .ok (.if_icmp .ne 7, 3) := by decide +kernel
theorem d_Env_allows_15 : decode b_Env_allows 15 = .ok (.iconst 1, 1) := by decide +kernel
theorem d_Env_allows_16 : decode b_Env_allows 16 = .ok (.goto 4, 3) := by decide +kernel
theorem d_Env_allows_19 : decode b_Env_allows 19 = .ok (.iconst 0, 1) := by decide +kernel
theorem d_Env_allows_20 : decode b_Env_allows 20 = .ok (.ireturn, 1) := by decide +kernel
theorem d_Env_nameLength_0 : decode b_Env_nameLength 0 = .ok (.aload_n 0, 1) := by decide +kernel
theorem d_Env_nameLength_1 : decode b_Env_nameLength 1 = .ok (.iload_n 1, 1) := by decide +kernel
theorem d_Env_nameLength_2 : decode b_Env_nameLength 2 = .ok (.bipush 11, 2) := by decide +kernel
theorem d_Env_nameLength_4 : decode b_Env_nameLength 4 = .ok (.invokevirtual 63, 3) := by decide +kernel
theorem d_Env_nameLength_7 : decode b_Env_nameLength 7 = .ok (.invokestatic 74, 3) := by decide +kernel
theorem d_Env_nameLength_10 : decode b_Env_nameLength 10 = .ok (.ireturn, 1) := by decide +kernel
theorem d_Env_nameByte_0 : decode b_Env_nameByte 0 = .ok (.aload_n 0, 1) := by decide +kernel
theorem d_Env_nameByte_1 : decode b_Env_nameByte 1 = .ok (.getfield 21, 3) := by decide +kernel
theorem d_Env_nameByte_4 : decode b_Env_nameByte 4 = .ok (.aload_n 0, 1) := by decide +kernel
theorem d_Env_nameByte_5 : decode b_Env_nameByte 5 = .ok (.iload_n 1, 1) := by decide +kernel
theorem d_Env_nameByte_6 : decode b_Env_nameByte 6 = .ok (.bipush 11, 2) := by decide +kernel
theorem d_Env_nameByte_8 : decode b_Env_nameByte 8 = .ok (.invokevirtual 63, 3) := by decide +kernel
theorem d_Env_nameByte_11 : decode b_Env_nameByte 11 = .ok (.invokestatic 66, 3) := by decide +kernel
theorem d_Env_nameByte_14 : decode b_Env_nameByte 14 = .ok (.iload_n 2, 1) := by decide +kernel
theorem d_Env_nameByte_15 : decode b_Env_nameByte 15 = .ok (.iadd, 1) := by decide +kernel
theorem d_Env_nameByte_16 : decode b_Env_nameByte 16 = .ok (.invokevirtual 36, 3) := by decide +kernel
theorem d_Env_nameByte_19 : decode b_Env_nameByte 19 = .ok (.ireturn, 1) := by decide +kernel
theorem d_Env_cut_0 : decode b_Env_cut 0 = .ok (.iload_n 1, 1) := by decide +kernel
theorem d_Env_cut_1 : decode b_Env_cut 1 = .ok (.aload_n 0, 1) := by decide +kernel
theorem d_Env_cut_2 : decode b_Env_cut 2 = .ok (.invokevirtual 43, 3) := by decide +kernel
theorem d_Env_cut_5 : decode b_Env_cut 5 = .ok (.if_icmp .ge 31, 3) := by decide +kernel
theorem d_Env_cut_8 : decode b_Env_cut 8 = .ok (.aload_n 0, 1) := by decide +kernel
theorem d_Env_cut_9 : decode b_Env_cut 9 = .ok (.getfield 21, 3) := by decide +kernel
theorem d_Env_cut_12 : decode b_Env_cut 12 = .ok (.aload_n 0, 1) := by decide +kernel
theorem d_Env_cut_13 : decode b_Env_cut 13 = .ok (.iload_n 1, 1) := by decide +kernel
theorem d_Env_cut_14 : decode b_Env_cut 14 = .ok (.bipush 11, 2) := by decide +kernel
theorem d_Env_cut_16 : decode b_Env_cut 16 = .ok (.invokevirtual 63, 3) := by decide +kernel
