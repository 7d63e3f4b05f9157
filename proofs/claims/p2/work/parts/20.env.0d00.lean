theorem d_Env_find_0 : decode b_Env_find 0 = .ok (.iconst 0, 1) := by decide +kernel
theorem d_Env_find_1 : decode b_Env_find 1 = .ok (.istore_n 3, 1) := by decide +kernel
theorem d_Env_find_2 : decode b_Env_find 2 = .ok (.iload_n 3, 1) := by decide +kernel
theorem d_Env_find_3 : decode b_Env_find 3 = .ok (.iload_n 2, 1) := by decide +kernel
theorem d_Env_find_4 : decode b_Env_find 4 = .ok (.if_icmp .ge 37, 3) := by decide +kernel
theorem d_Env_find_7 : decode b_Env_find 7 = .ok (.iload_n 3, 1) := by decide +kernel
theorem d_Env_find_8 : decode b_Env_find 8 = .ok (.aload_n 0, 1) := by decide +kernel
theorem d_Env_find_9 : decode b_Env_find 9 = .ok (.invokevirtual 43, 3) := by decide +kernel
theorem d_Env_find_12 : decode b_Env_find 12 = .ok (.if_icmp .ge 29, 3) := by decide +kernel
theorem d_Env_find_15 : decode b_Env_find 15 = .ok (.aload_n 1, 1) := by decide +kernel
theorem d_Env_find_16 : decode b_Env_find 16 = .ok (.aload_n 0, 1) := by decide +kernel
theorem d_Env_find_17 : decode b_Env_find 17 = .ok (.getfield 21, 3) := by decide +kernel
theorem d_Env_find_20 : decode b_Env_find 20 = .ok (.aload_n 0, 1) := by decide +kernel
theorem d_Env_find_21 : decode b_Env_find 21 = .ok (.iload_n 3, 1) := by decide +kernel
theorem d_Env_find_22 : decode b_Env_find 22 = .ok (.bipush 11, 2) := by decide +kernel
theorem d_Env_find_24 : decode b_Env_find 24 = .ok (.invokevirtual 63, 3) := by decide +kernel
theorem d_Env_find_27 : decode b_Env_find 27 = .ok (.invokevirtual 70, 3) := by decide +kernel
theorem d_Env_find_30 : decode b_Env_find 30 = .ok (.ifCond .eq 5, 3) := by decide +kernel
theorem d_Env_find_33 : decode b_Env_find 33 = .ok (.iload_n 3, 1) := by decide +kernel
theorem d_Env_find_34 : decode b_Env_find 34 = .ok (.ireturn, 1) := by decide +kernel
theorem d_Env_find_35 : decode b_Env_find 35 = .ok (.iinc 3 1, 3) := by decide +kernel
theorem d_Env_find_38 : decode b_Env_find 38 = .ok (.goto (-36), 3) := by decide +kernel
theorem d_Env_find_41 : decode b_Env_find 41 = .ok (.iconst (-1), 1) := by decide +kernel
theorem d_Env_find_42 : decode b_Env_find 42 = .ok (.ireturn, 1) := by decide +kernel
theorem d_Env_add_0 : decode b_Env_add 0 = .ok (.aload_n 0, 1) := by decide +kernel
theorem d_Env_add_1 : decode b_Env_add 1 = .ok (.invokevirtual 43, 3) := by decide +kernel
theorem d_Env_add_4 : decode b_Env_add 4 = .ok (.istore_n 3, 1) := by decide +kernel
theorem d_Env_add_5 : decode b_Env_add 5 = .ok (.aload_n 0, 1) := by decide +kernel
theorem d_Env_add_6 : decode b_Env_add 6 = .ok (.getfield 21, 3) := by decide +kernel
theorem d_Env_add_9 : decode b_Env_add 9 = .ok (.invokevirtual 24, 3) := by decide +kernel
theorem d_Env_add_12 : decode b_Env_add 12 = .ok (.aload_n 2, 1) := by decide +kernel
theorem d_Env_add_13 : decode b_Env_add 13 = .ok (.invokevirtual 46, 3) := by decide +kernel
theorem d_Env_add_16 : decode b_Env_add 16 = .ok (.invokestatic 49, 3) := by decide +kernel
theorem d_Env_add_19 : decode b_Env_add 19 = .ok (.istore 4, 2) := by decide +kernel
theorem d_Env_add_21 : decode b_Env_add 21 = .ok (.iconst 0, 1) := by decide +kernel
theorem d_Env_add_22 : decode b_Env_add 22 = .ok (.istore 5, 2) := by decide +kernel
theorem d_Env_add_24 : decode b_Env_add 24 = .ok (.iload 5, 2) := by decide +kernel
theorem d_Env_add_26 : decode b_Env_add 26 = .ok (.aload_n 2, 1) := by decide +kernel
theorem d_Env_add_27 : decode b_Env_add 27 = .ok (.invokevirtual 46, 3) := by decide +kernel
theorem d_Env_add_30 : decode b_Env_add 30 = .ok (.if_icmp .ge 22, 3) := by decide +kernel
theorem d_Env_add_33 : decode b_Env_add 33 = .ok (.aload_n 0, 1) := by decide +kernel
theorem d_Env_add_34 : decode b_Env_add 34 = .ok (.getfield 21, 3) := by decide +kernel
theorem d_Env_add_37 : decode b_Env_add 37 = .ok (.aload_n 2, 1) := by decide +kernel
theorem d_Env_add_38 : decode b_Env_add 38 = .ok (.iload 5, 2) := by decide +kernel
theorem d_Env_add_40 : decode b_Env_add 40 = .ok (.invokevirtual 53, 3) := by decide +kernel
theorem d_Env_add_43 : decode b_Env_add 43 = .ok (.invokevirtual 56, 3) := by decide +kernel
theorem d_Env_add_46 : decode b_Env_add 46 = .ok (.iinc 5 1, 3) := by decide +kernel
theorem d_Env_add_49 : decode b_Env_add 49 = .ok (.goto (-25), 3) := by decide +kernel
theorem d_Env_add_52 : decode b_Env_add 52 = .ok (.iconst 0, 1) := by decide +kernel
theorem d_Env_add_53 : decode b_Env_add 53 = .ok (.istore 5, 2) := by decide +kernel
theorem d_Env_add_55 : decode b_Env_add 55 = .ok (.iload 5, 2) := by decide +kernel
theorem d_Env_add_57 : decode b_Env_add 57 = .ok (.bipush 12, 2) := by decide +kernel
theorem d_Env_add_59 : decode b_Env_add 59 = .ok (.if_icmp .ge 17, 3) := by decide +kernel
theorem d_Env_add_62 : decode b_Env_add 62 = .ok (.aload_n 0, 1) := by decide +kernel
theorem d_Env_add_63 : decode b_Env_add 63 = .ok (.getfield 15, 3) := by decide +kernel
theorem d_Env_add_66 : decode b_Env_add 66 = .ok (.iconst 0, 1) := by decide +kernel
theorem d_Env_add_67 : decode b_Env_add 67 = .ok (.invokevirtual 56, 3) := by decide +kernel
theorem d_Env_add_70 : decode b_Env_add 70 = .ok (.iinc 5 1, 3) := by decide +kernel
theorem d_Env_add_73 : decode b_Env_add 73 = .ok (.goto (-18), 3) := by decide +kernel
theorem d_Env_add_76 : decode b_Env_add 76 = .ok (.aload_n 0, 1) := by decide +kernel
