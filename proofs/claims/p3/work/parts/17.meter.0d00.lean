theorem d_Meter_fail_0 : decode b_Meter_fail 0 = .ok (.aload_n 0, 1) := by decide +kernel
theorem d_Meter_fail_1 : decode b_Meter_fail 1 = .ok (.iload_n 1, 1) := by decide +kernel
theorem d_Meter_fail_2 : decode b_Meter_fail 2 = .ok (.putfield 9, 3) := by decide +kernel
theorem d_Meter_fail_5 : decode b_Meter_fail 5 = .ok (.aload_n 0, 1) := by decide +kernel
theorem d_Meter_fail_6 : decode b_Meter_fail 6 = .ok (.aload_n 0, 1) := by decide +kernel
theorem d_Meter_fail_7 : decode b_Meter_fail 7 = .ok (.getfield 21, 3) := by decide +kernel
theorem d_Meter_fail_10 : decode b_Meter_fail 10 = .ok (.putfield 15, 3) := by decide +kernel
theorem d_Meter_fail_13 : decode b_Meter_fail 13 = .ok (.new 29, 3) := by decide +kernel
theorem d_Meter_fail_16 : decode b_Meter_fail 16 = .ok (.dup, 1) := by decide +kernel
theorem d_Meter_fail_17 : decode b_Meter_fail 17 = .ok (.invokespecial 31, 3) := by decide +kernel
theorem d_Meter_fail_20 : decode b_Meter_fail 20 = .ok (.athrow, 1) := by decide +kernel
theorem d_Meter_failAt_0 : decode b_Meter_failAt 0 = .ok (.aload_n 0, 1) := by decide +kernel
theorem d_Meter_failAt_1 : decode b_Meter_failAt 1 = .ok (.iload_n 1, 1) := by decide +kernel
theorem d_Meter_failAt_2 : decode b_Meter_failAt 2 = .ok (.putfield 9, 3) := by decide +kernel
theorem d_Meter_failAt_5 : decode b_Meter_failAt 5 = .ok (.aload_n 0, 1) := by decide +kernel
theorem d_Meter_failAt_6 : decode b_Meter_failAt 6 = .ok (.iload_n 2, 1) := by decide +kernel
theorem d_Meter_failAt_7 : decode b_Meter_failAt 7 = .ok (.putfield 15, 3) := by decide +kernel
theorem d_Meter_failAt_10 : decode b_Meter_failAt 10 = .ok (.new 29, 3) := by decide +kernel
theorem d_Meter_failAt_13 : decode b_Meter_failAt 13 = .ok (.dup, 1) := by decide +kernel
theorem d_Meter_failAt_14 : decode b_Meter_failAt 14 = .ok (.invokespecial 31, 3) := by decide +kernel
theorem d_Meter_failAt_17 : decode b_Meter_failAt 17 = .ok (.athrow, 1) := by decide +kernel
theorem d_Meter_charge_0 : decode b_Meter_charge 0 = .ok (.aload_n 0, 1) := by decide +kernel
theorem d_Meter_charge_1 : decode b_Meter_charge 1 = .ok (.dup, 1) := by decide +kernel
theorem d_Meter_charge_2 : decode b_Meter_charge 2 = .ok (.getfield 18, 3) := by decide +kernel
theorem d_Meter_charge_5 : decode b_Meter_charge 5 = .ok (.iload_n 1, 1) := by decide +kernel
theorem d_Meter_charge_6 : decode b_Meter_charge 6 = .ok (.iadd, 1) := by decide +kernel
theorem d_Meter_charge_7 : decode b_Meter_charge 7 = .ok (.putfield 18, 3) := by decide +kernel
theorem d_Meter_charge_10 : decode b_Meter_charge 10 = .ok (.aload_n 0, 1) := by decide +kernel
theorem d_Meter_charge_11 : decode b_Meter_charge 11 = .ok (.getfield 18, 3) := by decide +kernel
theorem d_Meter_charge_14 : decode b_Meter_charge 14 = .ok (.ldc 24, 2) := by decide +kernel
theorem d_Meter_charge_16 : decode b_Meter_charge 16 = .ok (.if_icmp .le 9, 3) := by decide +kernel
theorem d_Meter_charge_19 : decode b_Meter_charge 19 = .ok (.aload_n 0, 1) := by decide +kernel
theorem d_Meter_charge_20 : decode b_Meter_charge 20 = .ok (.bipush 10, 2) := by decide +kernel
theorem d_Meter_charge_22 : decode b_Meter_charge 22 = .ok (.invokevirtual 25, 3) := by decide +kernel
theorem d_Meter_charge_25 : decode b_Meter_charge 25 = .ok (.return_, 1) := by decide +kernel
theorem d_Fra_push_0 : decode b_Fra_push 0 = .ok (.aload_n 0, 1) := by decide +kernel
theorem d_Fra_push_1 : decode b_Fra_push 1 = .ok (.getfield 17, 3) := by decide +kernel
theorem d_Fra_push_4 : decode b_Fra_push 4 = .ok (.iload_n 1, 1) := by decide +kernel
theorem d_Fra_push_5 : decode b_Fra_push 5 = .ok (.invokevirtual 36, 3) := by decide +kernel
theorem d_Fra_push_8 : decode b_Fra_push 8 = .ok (.aload_n 0, 1) := by decide +kernel
theorem d_Fra_push_9 : decode b_Fra_push 9 = .ok (.getfield 17, 3) := by decide +kernel
theorem d_Fra_push_12 : decode b_Fra_push 12 = .ok (.iload_n 2, 1) := by decide +kernel
theorem d_Fra_push_13 : decode b_Fra_push 13 = .ok (.invokevirtual 36, 3) := by decide +kernel
theorem d_Fra_push_16 : decode b_Fra_push 16 = .ok (.aload_n 0, 1) := by decide +kernel
theorem d_Fra_push_17 : decode b_Fra_push 17 = .ok (.getfield 17, 3) := by decide +kernel
theorem d_Fra_push_20 : decode b_Fra_push 20 = .ok (.iload_n 3, 1) := by decide +kernel
theorem d_Fra_push_21 : decode b_Fra_push 21 = .ok (.invokevirtual 36, 3) := by decide +kernel
theorem d_Fra_push_24 : decode b_Fra_push 24 = .ok (.aload_n 0, 1) := by decide +kernel
theorem d_Fra_push_25 : decode b_Fra_push 25 = .ok (.getfield 17, 3) := by decide +kernel
theorem d_Fra_push_28 : decode b_Fra_push 28 = .ok (.iconst 0, 1) := by decide +kernel
theorem d_Fra_push_29 : decode b_Fra_push 29 = .ok (.invokevirtual 36, 3) := by decide +kernel
theorem d_Fra_push_32 : decode b_Fra_push 32 = .ok (.aload_n 0, 1) := by decide +kernel
theorem d_Fra_push_33 : decode b_Fra_push 33 = .ok (.getfield 17, 3) := by decide +kernel
theorem d_Fra_push_36 : decode b_Fra_push 36 = .ok (.iload 4, 2) := by decide +kernel
theorem d_Fra_push_38 : decode b_Fra_push 38 = .ok (.invokevirtual 36, 3) := by decide +kernel
theorem d_Fra_push_41 : decode b_Fra_push 41 = .ok (.return_, 1) := by decide +kernel
theorem d_Fra_begin_0 : decode b_Fra_begin 0 = .ok (.aload_n 0, 1) := by decide +kernel
theorem d_Fra_begin_1 : decode b_Fra_begin 1 = .ok (.getfield 17, 3) := by decide +kernel
theorem d_Fra_begin_4 : decode b_Fra_begin 4 = .ok (.iconst 0, 1) := by decide +kernel
theorem d_Fra_begin_5 : decode b_Fra_begin 5 = .ok (.invokevirtual 24, 3) := by decide +kernel
theorem d_Fra_begin_8 : decode b_Fra_begin 8 = .ok (.aload_n 0, 1) := by decide +kernel
theorem d_Fra_begin_9 : decode b_Fra_begin 9 = .ok (.getfield 21, 3) := by decide +kernel
theorem d_Fra_begin_12 : decode b_Fra_begin 12 = .ok (.iconst 0, 1) := by decide +kernel
theorem d_Fra_begin_13 : decode b_Fra_begin 13 = .ok (.invokevirtual 24, 3) := by decide +kernel
theorem d_Fra_begin_16 : decode b_Fra_begin 16 = .ok (.aload_n 0, 1) := by decide +kernel
theorem d_Fra_begin_17 : decode b_Fra_begin 17 = .ok (.iload_n 1, 1) := by decide +kernel
theorem d_Fra_begin_18 : decode b_Fra_begin 18 = .ok (.iload_n 2, 1) := by decide +kernel
theorem d_Fra_begin_19 : decode b_Fra_begin 19 = .ok (.iload_n 3, 1) := by decide +kernel
theorem d_Fra_begin_20 : decode b_Fra_begin 20 = .ok (.iconst 0, 1) := by decide +kernel
theorem d_Fra_begin_21 : decode b_Fra_begin 21 = .ok (.invokevirtual 28, 3) := by decide +kernel
theorem d_Fra_begin_24 : decode b_Fra_begin 24 = .ok (.return_, 1) := by decide +kernel
theorem d_Fra_isEmpty_0 : decode b_Fra_isEmpty 0 = .ok (.aload_n 0, 1) := by decide +kernel
theorem d_Fra_isEmpty_1 : decode b_Fra_isEmpty 1 = .ok (.getfield 17, 3) := by decide +kernel
theorem d_Fra_isEmpty_4 : decode b_Fra_isEmpty 4 = .ok (.invokevirtual 32, 3) := by decide +kernel
theorem d_Fra_isEmpty_7 : decode b_Fra_isEmpty 7 = .ok (.ifCond .ne 7, 3) := by decide +kernel
theorem d_Fra_isEmpty_10 : decode b_Fra_isEmpty 10 = .ok (.iconst 1, 1) := by decide +kernel
theorem d_Fra_isEmpty_11 : decode b_Fra_isEmpty 11 = .ok (.goto 4, 3) := by decide +kernel
theorem d_Fra_isEmpty_14 : decode b_Fra_isEmpty 14 = .ok (.iconst 0, 1) := by decide +kernel
theorem d_Fra_isEmpty_15 : decode b_Fra_isEmpty 15 = .ok (.ireturn, 1) := by decide +kernel
theorem d_Fra_newVariable_0 : decode b_Fra_newVariable 0 = .ok (.aload_n 0, 1) := by decide +kernel
theorem d_Fra_newVariable_1 : decode b_Fra_newVariable 1 = .ok (.getfield 21, 3) := by decide +kernel
theorem d_Fra_newVariable_4 : decode b_Fra_newVariable 4 = .ok (.iload_n 1, 1) := by decide +kernel
theorem d_Fra_newVariable_5 : decode b_Fra_newVariable 5 = .ok (.invokevirtual 36, 3) := by decide +kernel
theorem d_Fra_newVariable_8 : decode b_Fra_newVariable 8 = .ok (.aload_n 0, 1) := by decide +kernel
theorem d_Fra_newVariable_9 : decode b_Fra_newVariable 9 = .ok (.getfield 21, 3) := by decide +kernel
theorem d_Fra_newVariable_12 : decode b_Fra_newVariable 12 = .ok (.invokevirtual 32, 3) := by decide +kernel
theorem d_Fra_newVariable_15 : decode b_Fra_newVariable 15 = .ok (.iconst 1, 1) := by decide +kernel
theorem d_Fra_newVariable_16 : decode b_Fra_newVariable 16 = .ok (.isub, 1) := by decide +kernel
theorem d_Fra_newVariable_17 : decode b_Fra_newVariable 17 = .ok (.ireturn, 1) := by decide +kernel
theorem d_Fra_dropVariable_0 : decode b_Fra_dropVariable 0 = .ok (.aload_n 0, 1) := by decide +kernel
theorem d_Fra_dropVariable_1 : decode b_Fra_dropVariable 1 = .ok (.getfield 21, 3) := by decide +kernel
theorem d_Fra_dropVariable_4 : decode b_Fra_dropVariable 4 = .ok (.invokevirtual 52, 3) := by decide +kernel
theorem d_Fra_dropVariable_7 : decode b_Fra_dropVariable 7 = .ok (.pop, 1) := by decide +kernel
theorem d_Fra_dropVariable_8 : decode b_Fra_dropVariable 8 = .ok (.aload_n 0, 1) := by decide +kernel
theorem d_Fra_dropVariable_9 : decode b_Fra_dropVariable 9 = .ok (.getfield 21, 3) := by decide +kernel
theorem d_Fra_dropVariable_12 : decode b_Fra_dropVariable 12 = .ok (.invokevirtual 32, 3) := by decide +kernel
theorem d_Fra_dropVariable_15 : decode b_Fra_dropVariable 15 = .ok (.ireturn, 1) := by decide +kernel
