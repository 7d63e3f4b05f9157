theorem d_Mod_mapped_0 : decode b_Mod_mapped 0 = .ok (.aload_n 0, 1) := by decide +kernel
theorem d_Mod_mapped_1 : decode b_Mod_mapped 1 = .ok (.iload_n 1, 1) := by decide +kernel
theorem d_Mod_mapped_2 : decode b_Mod_mapped 2 = .ok (.putfield 83, 3) := by decide +kernel
theorem d_Mod_mapped_5 : decode b_Mod_mapped 5 = .ok (.aload_n 0, 1) := by decide +kernel
theorem d_Mod_mapped_6 : decode b_Mod_mapped 6 = .ok (.iload 4, 2) := by decide +kernel
theorem d_Mod_mapped_8 : decode b_Mod_mapped 8 = .ok (.putfield 86, 3) := by decide +kernel
theorem d_Mod_mapped_11 : decode b_Mod_mapped 11 = .ok (.aload_n 0, 1) := by decide +kernel
theorem d_Mod_mapped_12 : decode b_Mod_mapped 12 = .ok (.iload 5, 2) := by decide +kernel
theorem d_Mod_mapped_14 : decode b_Mod_mapped 14 = .ok (.putfield 89, 3) := by decide +kernel
theorem d_Mod_mapped_17 : decode b_Mod_mapped 17 = .ok (.aload_n 0, 1) := by decide +kernel
theorem d_Mod_mapped_18 : decode b_Mod_mapped 18 = .ok (.iconst 0, 1) := by decide +kernel
theorem d_Mod_mapped_19 : decode b_Mod_mapped 19 = .ok (.putfield 80, 3) := by decide +kernel
theorem d_Mod_mapped_22 : decode b_Mod_mapped 22 = .ok (.aload_n 0, 1) := by decide +kernel
theorem d_Mod_mapped_23 : decode b_Mod_mapped 23 = .ok (.iload_n 2, 1) := by decide +kernel
theorem d_Mod_mapped_24 : decode b_Mod_mapped 24 = .ok (.iload_n 3, 1) := by decide +kernel
theorem d_Mod_mapped_25 : decode b_Mod_mapped 25 = .ok (.invokevirtual 344, 3) := by decide +kernel
theorem d_Mod_mapped_28 : decode b_Mod_mapped 28 = .ok (.ireturn, 1) := by decide +kernel
theorem d_Mod_put_0 : decode b_Mod_put 0 = .ok (.aload_n 0, 1) := by decide +kernel
theorem d_Mod_put_1 : decode b_Mod_put 1 = .ok (.iconst 1, 1) := by decide +kernel
theorem d_Mod_put_2 : decode b_Mod_put 2 = .ok (.iload_n 1, 1) := by decide +kernel
theorem d_Mod_put_3 : decode b_Mod_put 3 = .ok (.iconst 0, 1) := by decide +kernel
theorem d_Mod_put_4 : decode b_Mod_put 4 = .ok (.iconst 0, 1) := by decide +kernel
theorem d_Mod_put_5 : decode b_Mod_put 5 = .ok (.iload_n 2, 1) := by decide +kernel
theorem d_Mod_put_6 : decode b_Mod_put 6 = .ok (.invokevirtual 359, 3) := by decide +kernel
theorem d_Mod_put_9 : decode b_Mod_put 9 = .ok (.ireturn, 1) := by decide +kernel
theorem d_Mod_opened_0 : decode b_Mod_opened 0 = .ok (.aload_n 0, 1) := by decide +kernel
theorem d_Mod_opened_1 : decode b_Mod_opened 1 = .ok (.iload_n 1, 1) := by decide +kernel
theorem d_Mod_opened_2 : decode b_Mod_opened 2 = .ok (.iload_n 2, 1) := by decide +kernel
theorem d_Mod_opened_3 : decode b_Mod_opened 3 = .ok (.iconst 0, 1) := by decide +kernel
theorem d_Mod_opened_4 : decode b_Mod_opened 4 = .ok (.invokevirtual 363, 3) := by decide +kernel
theorem d_Mod_opened_7 : decode b_Mod_opened 7 = .ok (.sipush 3000, 3) := by decide +kernel
theorem d_Mod_opened_10 : decode b_Mod_opened 10 = .ok (.if_icmp .le 9, 3) := by decide +kernel
theorem d_Mod_opened_13 : decode b_Mod_opened 13 = .ok (.bipush 10, 2) := by decide +kernel
theorem d_Mod_opened_15 : decode b_Mod_opened 15 = .ok (.invokestatic 323, 3) := by decide +kernel
theorem d_Mod_opened_18 : decode b_Mod_opened 18 = .ok (.athrow, 1) := by decide +kernel
theorem d_Mod_opened_19 : decode b_Mod_opened 19 = .ok (.aload_n 0, 1) := by decide +kernel
theorem d_Mod_opened_20 : decode b_Mod_opened 20 = .ok (.iload_n 1, 1) := by decide +kernel
theorem d_Mod_opened_21 : decode b_Mod_opened 21 = .ok (.iload_n 2, 1) := by decide +kernel
theorem d_Mod_opened_22 : decode b_Mod_opened 22 = .ok (.invokevirtual 428, 3) := by decide +kernel
theorem d_Mod_opened_25 : decode b_Mod_opened 25 = .ok (.ireturn, 1) := by decide +kernel
theorem d_Mod_with_0 : decode b_Mod_with 0 = .ok (.iload_n 1, 1) := by decide +kernel
theorem d_Mod_with_1 : decode b_Mod_with 1 = .ok (.istore 5, 2) := by decide +kernel
theorem d_Mod_with_3 : decode b_Mod_with 3 = .ok (.iload 4, 2) := by decide +kernel
theorem d_Mod_with_5 : decode b_Mod_with 5 = .ok (.istore 6, 2) := by decide +kernel
theorem d_Mod_with_7 : decode b_Mod_with 7 = .ok (.iload 6, 2) := by decide +kernel
theorem d_Mod_with_9 : decode b_Mod_with 9 = .ok (.iload_n 3, 1) := by decide +kernel
theorem d_Mod_with_10 : decode b_Mod_with 10 = .ok (.if_icmp .ge 25, 3) := by decide +kernel
theorem d_Mod_with_13 : decode b_Mod_with 13 = .ok (.aload_n 0, 1) := by decide +kernel
theorem d_Mod_with_14 : decode b_Mod_with 14 = .ok (.iload 5, 2) := by decide +kernel
theorem d_Mod_with_16 : decode b_Mod_with 16 = .ok (.aload_n 0, 1) := by decide +kernel
theorem d_Mod_with_17 : decode b_Mod_with 17 = .ok (.iload_n 2, 1) := by decide +kernel
theorem d_Mod_with_18 : decode b_Mod_with 18 = .ok (.iload_n 3, 1) := by decide +kernel
theorem d_Mod_with_19 : decode b_Mod_with 19 = .ok (.iload 6, 2) := by decide +kernel
theorem d_Mod_with_21 : decode b_Mod_with 21 = .ok (.invokevirtual 440, 3) := by decide +kernel
theorem d_Mod_with_24 : decode b_Mod_with 24 = .ok (.invokevirtual 350, 3) := by decide +kernel
theorem d_Mod_with_27 : decode b_Mod_with 27 = .ok (.istore 5, 2) := by decide +kernel
theorem d_Mod_with_29 : decode b_Mod_with 29 = .ok (.iinc 6 1, 3) := by decide +kernel
theorem d_Mod_with_32 : decode b_Mod_with 32 = .ok (.goto (-25), 3) := by decide +kernel
theorem d_Mod_with_35 : decode b_Mod_with 35 = .ok (.iload 5, 2) := by decide +kernel
theorem d_Mod_with_37 : decode b_Mod_with 37 = .ok (.ireturn, 1) := by decide +kernel
theorem d_Mod_leveled_0 : decode b_Mod_leveled 0 = .ok (.aload_n 0, 1) := by decide +kernel
theorem d_Mod_leveled_1 : decode b_Mod_leveled 1 = .ok (.iconst 4, 1) := by decide +kernel
theorem d_Mod_leveled_2 : decode b_Mod_leveled 2 = .ok (.iload_n 1, 1) := by decide +kernel
theorem d_Mod_leveled_3 : decode b_Mod_leveled 3 = .ok (.iconst 0, 1) := by decide +kernel
theorem d_Mod_leveled_4 : decode b_Mod_leveled 4 = .ok (.iconst 0, 1) := by decide +kernel
theorem d_Mod_leveled_5 : decode b_Mod_leveled 5 = .ok (.iload_n 2, 1) := by decide +kernel
theorem d_Mod_leveled_6 : decode b_Mod_leveled 6 = .ok (.invokevirtual 359, 3) := by decide +kernel
theorem d_Mod_leveled_9 : decode b_Mod_leveled 9 = .ok (.ireturn, 1) := by decide +kernel
theorem d_Mod_fits_0 : decode b_Mod_fits 0 = .ok (.aload_n 0, 1) := by decide +kernel
theorem d_Mod_fits_1 : decode b_Mod_fits 1 = .ok (.getfield 68, 3) := by decide +kernel
theorem d_Mod_fits_4 : decode b_Mod_fits 4 = .ok (.iload_n 1, 1) := by decide +kernel
theorem d_Mod_fits_5 : decode b_Mod_fits 5 = .ok (.iaload, 1) := by decide +kernel
theorem d_Mod_fits_6 : decode b_Mod_fits 6 = .ok (.sipush 3000, 3) := by decide +kernel
theorem d_Mod_fits_9 : decode b_Mod_fits 9 = .ok (.if_icmp .gt 15, 3) := by decide +kernel
theorem d_Mod_fits_12 : decode b_Mod_fits 12 = .ok (.aload_n 0, 1) := by decide +kernel
theorem d_Mod_fits_13 : decode b_Mod_fits 13 = .ok (.getfield 71, 3) := by decide +kernel
theorem d_Mod_fits_16 : decode b_Mod_fits 16 = .ok (.iload_n 1, 1) := by decide +kernel
theorem d_Mod_fits_17 : decode b_Mod_fits 17 = .ok (.iaload, 1) := by decide +kernel
theorem d_Mod_fits_18 : decode b_Mod_fits 18 = .ok (.sipush 200, 3) := by decide +kernel
theorem d_Mod_fits_21 : decode b_Mod_fits 21 = .ok (.if_icmp .le 9, 3) := by decide +kernel
theorem d_Mod_fits_24 : decode b_Mod_fits 24 = .ok (.bipush 10, 2) := by decide +kernel
theorem d_Mod_fits_26 : decode b_Mod_fits 26 = .ok (.invokestatic 323, 3) := by decide +kernel
theorem d_Mod_fits_29 : decode b_Mod_fits 29 = .ok (.athrow, 1) := by decide +kernel
theorem d_Mod_fits_30 : decode b_Mod_fits 30 = .ok (.iload_n 1, 1) := by decide +kernel
theorem d_Mod_fits_31 : decode b_Mod_fits 31 = .ok (.ireturn, 1) := by decide +kernel
