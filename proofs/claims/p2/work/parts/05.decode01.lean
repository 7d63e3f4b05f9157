theorem d_Fra_set_1 : decode b_Fra_set 1 = .ok (.getfield 17, 3) := by decide +kernel
theorem d_Fra_set_4 : decode b_Fra_set 4 = .ok (.aload_n 0, 1) := by decide +kernel
theorem d_Fra_set_5 : decode b_Fra_set 5 = .ok (.getfield 17, 3) := by decide +kernel
theorem d_Fra_set_8 : decode b_Fra_set 8 = .ok (.invokevirtual 32, 3) := by decide +kernel
theorem d_Fra_set_11 : decode b_Fra_set 11 = .ok (.iconst 5, 1) := by decide +kernel
theorem d_Fra_set_12 : decode b_Fra_set 12 = .ok (.isub, 1) := by decide +kernel
theorem d_Fra_set_13 : decode b_Fra_set 13 = .ok (.iload_n 1, 1) := by decide +kernel
theorem d_Fra_set_14 : decode b_Fra_set 14 = .ok (.iadd, 1) := by decide +kernel
theorem d_Fra_set_15 : decode b_Fra_set 15 = .ok (.iload_n 2, 1) := by decide +kernel
theorem d_Fra_set_16 : decode b_Fra_set 16 = .ok (.invokevirtual 42, 3) := by decide +kernel
theorem d_Fra_set_19 : decode b_Fra_set 19 = .ok (.return_, 1) := by decide +kernel
theorem d_Fra_top_0 : decode b_Fra_top 0 = .ok (.aload_n 0, 1) := by decide +kernel
theorem d_Fra_top_1 : decode b_Fra_top 1 = .ok (.getfield 17, 3) := by decide +kernel
theorem d_Fra_top_4 : decode b_Fra_top 4 = .ok (.aload_n 0, 1) := by decide +kernel
theorem d_Fra_top_5 : decode b_Fra_top 5 = .ok (.getfield 17, 3) := by decide +kernel
theorem d_Fra_top_8 : decode b_Fra_top 8 = .ok (.invokevirtual 32, 3) := by decide +kernel
theorem d_Fra_top_11 : decode b_Fra_top 11 = .ok (.iconst 5, 1) := by decide +kernel
theorem d_Fra_top_12 : decode b_Fra_top 12 = .ok (.isub, 1) := by decide +kernel
theorem d_Fra_top_13 : decode b_Fra_top 13 = .ok (.iload_n 1, 1) := by decide +kernel
theorem d_Fra_top_14 : decode b_Fra_top 14 = .ok (.iadd, 1) := by decide +kernel
theorem d_Fra_top_15 : decode b_Fra_top 15 = .ok (.invokevirtual 38, 3) := by decide +kernel
theorem d_Fra_top_18 : decode b_Fra_top 18 = .ok (.ireturn, 1) := by decide +kernel
theorem d_Fra_typeOf_0 : decode b_Fra_typeOf 0 = .ok (.aload_n 0, 1) := by decide +kernel
theorem d_Fra_typeOf_1 : decode b_Fra_typeOf 1 = .ok (.getfield 21, 3) := by decide +kernel
theorem d_Fra_typeOf_4 : decode b_Fra_typeOf 4 = .ok (.iload_n 1, 1) := by decide +kernel
theorem d_Fra_typeOf_5 : decode b_Fra_typeOf 5 = .ok (.invokevirtual 38, 3) := by decide +kernel
theorem d_Fra_typeOf_8 : decode b_Fra_typeOf 8 = .ok (.ireturn, 1) := by decide +kernel
theorem d_Meter_begin_0 : decode b_Meter_begin 0 = .ok (.aload_n 0, 1) := by decide +kernel
theorem d_Meter_begin_1 : decode b_Meter_begin 1 = .ok (.iconst 0, 1) := by decide +kernel
theorem d_Meter_begin_2 : decode b_Meter_begin 2 = .ok (.putfield 18, 3) := by decide +kernel
theorem d_Meter_begin_5 : decode b_Meter_begin 5 = .ok (.aload_n 0, 1) := by decide +kernel
theorem d_Meter_begin_6 : decode b_Meter_begin 6 = .ok (.iload_n 1, 1) := by decide +kernel
theorem d_Meter_begin_7 : decode b_Meter_begin 7 = .ok (.putfield 21, 3) := by decide +kernel
theorem d_Meter_begin_10 : decode b_Meter_begin 10 = .ok (.return_, 1) := by decide +kernel
theorem d_Meter_code_0 : decode b_Meter_code 0 = .ok (.aload_n 0, 1) := by decide +kernel
theorem d_Meter_code_1 : decode b_Meter_code 1 = .ok (.getfield 9, 3) := by decide +kernel
theorem d_Meter_code_4 : decode b_Meter_code 4 = .ok (.ireturn, 1) := by decide +kernel
theorem d_Meter_forget_0 : decode b_Meter_forget 0 = .ok (.aload_n 0, 1) := by decide +kernel
theorem d_Meter_forget_1 : decode b_Meter_forget 1 = .ok (.iconst 0, 1) := by decide +kernel
theorem d_Meter_forget_2 : decode b_Meter_forget 2 = .ok (.putfield 9, 3) := by decide +kernel
theorem d_Meter_forget_5 : decode b_Meter_forget 5 = .ok (.aload_n 0, 1) := by decide +kernel
theorem d_Meter_forget_6 : decode b_Meter_forget 6 = .ok (.iconst 0, 1) := by decide +kernel
theorem d_Meter_forget_7 : decode b_Meter_forget 7 = .ok (.putfield 15, 3) := by decide +kernel
theorem d_Meter_forget_10 : decode b_Meter_forget 10 = .ok (.return_, 1) := by decide +kernel
theorem d_Meter_place_0 : decode b_Meter_place 0 = .ok (.aload_n 0, 1) := by decide +kernel
theorem d_Meter_place_1 : decode b_Meter_place 1 = .ok (.getfield 15, 3) := by decide +kernel
theorem d_Meter_place_4 : decode b_Meter_place 4 = .ok (.ireturn, 1) := by decide +kernel
theorem d_Meter_work_0 : decode b_Meter_work 0 = .ok (.aload_n 0, 1) := by decide +kernel
theorem d_Meter_work_1 : decode b_Meter_work 1 = .ok (.getfield 18, 3) := by decide +kernel
theorem d_Meter_work_4 : decode b_Meter_work 4 = .ok (.ireturn, 1) := by decide +kernel
theorem d_Row_at_0 : decode b_Row_at 0 = .ok (.iload_n 1, 1) := by decide +kernel
theorem d_Row_at_1 : decode b_Row_at 1 = .ok (.ifCond .lt 20, 3) := by decide +kernel
theorem d_Row_at_4 : decode b_Row_at 4 = .ok (.iload_n 1, 1) := by decide +kernel
theorem d_Row_at_5 : decode b_Row_at 5 = .ok (.aload_n 0, 1) := by decide +kernel
theorem d_Row_at_6 : decode b_Row_at 6 = .ok (.getfield 17, 3) := by decide +kernel
theorem d_Row_at_9 : decode b_Row_at 9 = .ok (.if_icmp .ge 12, 3) := by decide +kernel
theorem d_Row_at_12 : decode b_Row_at 12 = .ok (.aload_n 0, 1) := by decide +kernel
theorem d_Row_at_13 : decode b_Row_at 13 = .ok (.getfield 7, 3) := by decide +kernel
theorem d_Row_at_16 : decode b_Row_at 16 = .ok (.iload_n 1, 1) := by decide +kernel
theorem d_Row_at_17 : decode b_Row_at 17 = .ok (.iaload, 1) := by decide +kernel
