theorem d_Fra_begin_8 : decode b_Fra_begin 8 = .ok (.aload_n 0, 1) := by decide +kernel
theorem d_Fra_begin_9 : decode b_Fra_begin 9 = .ok (.getfield 21, 3) := by decide +kernel
theorem d_Fra_begin_12 : decode b_Fra_begin 12 = .ok (.iconst 0, 1) := by decide +kernel
theorem d_Fra_begin_13 : decode b_Fra_begin 13 = .ok (.invokevirtual 24, 3) := by decide +kernel
theorem d_Fra_begin_16 : decode b_Fra_begin 16 = .ok (.aload_n 0, 1) := by decide +kernel
theorem d_Fra_begin_17 : decode b_Fra_begin 17 = .ok (.iload_n 1, 1) := by decide +kernel
theorem d_Fra_begin_18 : decode b_Fra_begin 18 = .ok (.iload_n 2, 1) := by decide +kernel
theorem d_Fra_begin_19 : decode b_Fra_begin 19 = .ok (.iload_n 3, 1) := by decide +kernel
theorem d_Fra_begin_20 : decode b_Fra_begin 20 = .ok (.iconst 0, 1) := by decide +kernel
theorem d_Fra_begin_21 : decode b_Fra_begin 21 = .ok (.invokevirtual 28, 3) := by decide +kernel
theorem d_Fra_begin_24 : decode b_Fra_begin 24 = .ok (.return_, 1) := by decide +kernel
theorem d_Fra_isEmpty_0 : decode b_Fra_isEmpty 0 = .ok (.aload_n 0, 1) := by decide +kernel
theorem d_Fra_isEmpty_1 : decode b_Fra_isEmpty 1 = .ok (.getfield 17, 3) := by decide +kernel
theorem d_Fra_isEmpty_4 : decode b_Fra_isEmpty 4 = .ok (.invokevirtual 32, 3) := by decide +kernel
theorem d_Fra_isEmpty_7 : decode b_Fra_isEmpty 7 = .ok (.ifCond .ne 7, 3) := by decide +kernel
theorem d_Fra_isEmpty_10 : decode b_Fra_isEmpty 10 = .ok (.iconst 1, 1) := by decide +kernel
theorem d_Fra_isEmpty_11 : decode b_Fra_isEmpty 11 = .ok (.goto 4, 3) := by decide +kernel
theorem d_Fra_isEmpty_14 : decode b_Fra_isEmpty 14 = .ok (.iconst 0, 1) := by decide +kernel
theorem d_Fra_isEmpty_15 : decode b_Fra_isEmpty 15 = .ok (.ireturn, 1) := by decide +kernel
theorem d_Fra_newVariable_0 : decode b_Fra_newVariable 0 = .ok (.aload_n 0, 1) := by decide +kernel
theorem d_Fra_newVariable_1 : decode b_Fra_newVariable 1 = .ok (.getfield 21, 3) := by decide +kernel
theorem d_Fra_newVariable_4 : decode b_Fra_newVariable 4 = .ok (.iload_n 1, 1) := by decide +kernel
theorem d_Fra_newVariable_5 : decode b_Fra_newVariable 5 = .ok (.invokevirtual 36, 3) := by decide +kernel
theorem d_Fra_newVariable_8 : decode b_Fra_newVariable 8 = .ok (.aload_n 0, 1) := by decide +kernel
theorem d_Fra_newVariable_9 : decode b_Fra_newVariable 9 = .ok (.getfield 21, 3) := by decide +kernel
theorem d_Fra_newVariable_12 : decode b_Fra_newVariable 12 = .ok (.invokevirtual 32, 3) := by decide +kernel
theorem d_Fra_newVariable_15 : decode b_Fra_newVariable 15 = .ok (.iconst 1, 1) := by decide +kernel
theorem d_Fra_newVariable_16 : decode b_Fra_newVariable 16 = .ok (.isub, 1) := by decide +kernel
theorem d_Fra_newVariable_17 : decode b_Fra_newVariable 17 = .ok (.ireturn, 1) := by decide +kernel
theorem d_Fra_dropVariable_0 : decode b_Fra_dropVariable 0 = .ok (.aload_n 0, 1) := by decide +kernel
theorem d_Fra_dropVariable_1 : decode b_Fra_dropVariable 1 = .ok (.getfield 21, 3) := by decide +kernel
theorem d_Fra_dropVariable_4 : decode b_Fra_dropVariable 4 = .ok (.invokevirtual 52, 3) := by decide +kernel
theorem d_Fra_dropVariable_7 : decode b_Fra_dropVariable 7 = .ok (.pop, 1) := by decide +kernel
theorem d_Fra_dropVariable_8 : decode b_Fra_dropVariable 8 = .ok (.aload_n 0, 1) := by decide +kernel
theorem d_Fra_dropVariable_9 : decode b_Fra_dropVariable 9 = .ok (.getfield 21, 3) := by decide +kernel
theorem d_Fra_dropVariable_12 : decode b_Fra_dropVariable 12 = .ok (.invokevirtual 32, 3) := by decide +kernel
theorem d_Fra_dropVariable_15 : decode b_Fra_dropVariable 15 = .ok (.ireturn, 1) := by decide +kernel
