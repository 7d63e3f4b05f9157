theorem d_Arr_copyOf_0_0 : decode b_Arr_copyOf_0 0 = .ok (.iload_n 1, 1) := by decide +kernel
theorem d_Arr_copyOf_0_1 : decode b_Arr_copyOf_0 1 = .ok (.aload_n 0, 1) := by decide +kernel
theorem d_Arr_copyOf_0_2 : decode b_Arr_copyOf_0 2 = .ok (.arraylength, 1) := by decide +kernel
theorem d_Arr_copyOf_0_3 : decode b_Arr_copyOf_0 3 = .ok (.if_icmp .ne 11, 3) := by decide +kernel
theorem d_Arr_copyOf_0_14 : decode b_Arr_copyOf_0 14 = .ok (.iload_n 1, 1) := by decide +kernel
theorem d_Arr_copyOf_0_15 : decode b_Arr_copyOf_0 15 = .ok (.newarray .int, 2) := by decide +kernel
theorem d_Arr_copyOf_0_17 : decode b_Arr_copyOf_0 17 = .ok (.astore_n 2, 1) := by decide +kernel
theorem d_Arr_copyOf_0_18 : decode b_Arr_copyOf_0 18 = .ok (.aload_n 0, 1) := by decide +kernel
theorem d_Arr_copyOf_0_19 : decode b_Arr_copyOf_0 19 = .ok (.iconst 0, 1) := by decide +kernel
theorem d_Arr_copyOf_0_20 : decode b_Arr_copyOf_0 20 = .ok (.aload_n 2, 1) := by decide +kernel
theorem d_Arr_copyOf_0_21 : decode b_Arr_copyOf_0 21 = .ok (.iconst 0, 1) := by decide +kernel
theorem d_Arr_copyOf_0_22 : decode b_Arr_copyOf_0 22 = .ok (.aload_n 0, 1) := by decide +kernel
theorem d_Arr_copyOf_0_23 : decode b_Arr_copyOf_0 23 = .ok (.arraylength, 1) := by decide +kernel
theorem d_Arr_copyOf_0_24 : decode b_Arr_copyOf_0 24 = .ok (.iload_n 1, 1) := by decide +kernel
theorem d_Arr_copyOf_0_25 : decode b_Arr_copyOf_0 25 = .ok (.invokestatic 304, 3) := by decide +kernel
theorem d_Arr_copyOf_0_28 : decode b_Arr_copyOf_0 28 = .ok (.invokestatic 150, 3) := by decide +kernel
theorem d_Arr_copyOf_0_31 : decode b_Arr_copyOf_0 31 = .ok (.aload_n 2, 1) := by decide +kernel
theorem d_Arr_copyOf_0_32 : decode b_Arr_copyOf_0 32 = .ok (.areturn, 1) := by decide +kernel
theorem d_Arr_copyOf_1_0 : decode b_Arr_copyOf_1 0 = .ok (.iload_n 1, 1) := by decide +kernel
theorem d_Arr_copyOf_1_1 : decode b_Arr_copyOf_1 1 = .ok (.aload_n 0, 1) := by decide +kernel
theorem d_Arr_copyOf_1_2 : decode b_Arr_copyOf_1 2 = .ok (.arraylength, 1) := by decide +kernel
theorem d_Arr_copyOf_1_3 : decode b_Arr_copyOf_1 3 = .ok (.if_icmp .ne 11, 3) := by decide +kernel
theorem d_Arr_copyOf_1_14 : decode b_Arr_copyOf_1 14 = .ok (.iload_n 1, 1) := by decide +kernel
theorem d_Arr_copyOf_1_15 : decode b_Arr_copyOf_1 15 = .ok (.newarray .long, 2) := by decide +kernel
theorem d_Arr_copyOf_1_17 : decode b_Arr_copyOf_1 17 = .ok (.astore_n 2, 1) := by decide +kernel
theorem d_Arr_copyOf_1_18 : decode b_Arr_copyOf_1 18 = .ok (.aload_n 0, 1) := by decide +kernel
theorem d_Arr_copyOf_1_19 : decode b_Arr_copyOf_1 19 = .ok (.iconst 0, 1) := by decide +kernel
theorem d_Arr_copyOf_1_20 : decode b_Arr_copyOf_1 20 = .ok (.aload_n 2, 1) := by decide +kernel
theorem d_Arr_copyOf_1_21 : decode b_Arr_copyOf_1 21 = .ok (.iconst 0, 1) := by decide +kernel
theorem d_Arr_copyOf_1_22 : decode b_Arr_copyOf_1 22 = .ok (.aload_n 0, 1) := by decide +kernel
theorem d_Arr_copyOf_1_23 : decode b_Arr_copyOf_1 23 = .ok (.arraylength, 1) := by decide +kernel
theorem d_Arr_copyOf_1_24 : decode b_Arr_copyOf_1 24 = .ok (.iload_n 1, 1) := by decide +kernel
theorem d_Arr_copyOf_1_25 : decode b_Arr_copyOf_1 25 = .ok (.invokestatic 304, 3) := by decide +kernel
theorem d_Arr_copyOf_1_28 : decode b_Arr_copyOf_1 28 = .ok (.invokestatic 150, 3) := by decide +kernel
theorem d_Arr_copyOf_1_31 : decode b_Arr_copyOf_1 31 = .ok (.aload_n 2, 1) := by decide +kernel
theorem d_Arr_copyOf_1_32 : decode b_Arr_copyOf_1 32 = .ok (.areturn, 1) := by decide +kernel
