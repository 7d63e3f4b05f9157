theorem d_Meter_work_0 : decode b_Meter_work 0 = .ok (.aload_n 0, 1) := by decide +kernel
theorem d_Meter_work_1 : decode b_Meter_work 1 = .ok (.getfield 18, 3) := by decide +kernel
theorem d_Meter_work_4 : decode b_Meter_work 4 = .ok (.ireturn, 1) := by decide +kernel
theorem d_Meter_code_0 : decode b_Meter_code 0 = .ok (.aload_n 0, 1) := by decide +kernel
theorem d_Meter_code_1 : decode b_Meter_code 1 = .ok (.getfield 9, 3) := by decide +kernel
theorem d_Meter_code_4 : decode b_Meter_code 4 = .ok (.ireturn, 1) := by decide +kernel
theorem d_Meter_place_0 : decode b_Meter_place 0 = .ok (.aload_n 0, 1) := by decide +kernel
theorem d_Meter_place_1 : decode b_Meter_place 1 = .ok (.getfield 15, 3) := by decide +kernel
theorem d_Meter_place_4 : decode b_Meter_place 4 = .ok (.ireturn, 1) := by decide +kernel
theorem d_Meter_forget_0 : decode b_Meter_forget 0 = .ok (.aload_n 0, 1) := by decide +kernel
theorem d_Meter_forget_1 : decode b_Meter_forget 1 = .ok (.iconst 0, 1) := by decide +kernel
theorem d_Meter_forget_2 : decode b_Meter_forget 2 = .ok (.putfield 9, 3) := by decide +kernel
theorem d_Meter_forget_5 : decode b_Meter_forget 5 = .ok (.aload_n 0, 1) := by decide +kernel
theorem d_Meter_forget_6 : decode b_Meter_forget 6 = .ok (.iconst 0, 1) := by decide +kernel
theorem d_Meter_forget_7 : decode b_Meter_forget 7 = .ok (.putfield 15, 3) := by decide +kernel
theorem d_Meter_forget_10 : decode b_Meter_forget 10 = .ok (.return_, 1) := by decide +kernel
theorem d_Meter_begin_0 : decode b_Meter_begin 0 = .ok (.aload_n 0, 1) := by decide +kernel
theorem d_Meter_begin_1 : decode b_Meter_begin 1 = .ok (.iconst 0, 1) := by decide +kernel
theorem d_Meter_begin_2 : decode b_Meter_begin 2 = .ok (.putfield 18, 3) := by decide +kernel
theorem d_Meter_begin_5 : decode b_Meter_begin 5 = .ok (.aload_n 0, 1) := by decide +kernel
theorem d_Meter_begin_6 : decode b_Meter_begin 6 = .ok (.iload_n 1, 1) := by decide +kernel
theorem d_Meter_begin_7 : decode b_Meter_begin 7 = .ok (.putfield 21, 3) := by decide +kernel
theorem d_Meter_begin_10 : decode b_Meter_begin 10 = .ok (.return_, 1) := by decide +kernel
