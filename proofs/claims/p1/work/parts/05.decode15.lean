theorem d_Meter_forget_0 : decode b_Meter_forget 0 = .ok (.aload_n 0, 1) := by decide +kernel
theorem d_Meter_forget_1 : decode b_Meter_forget 1 = .ok (.iconst 0, 1) := by decide +kernel
theorem d_Meter_forget_2 : decode b_Meter_forget 2 = .ok (.putfield 9, 3) := by decide +kernel
theorem d_Meter_forget_5 : decode b_Meter_forget 5 = .ok (.aload_n 0, 1) := by decide +kernel
theorem d_Meter_forget_6 : decode b_Meter_forget 6 = .ok (.iconst 0, 1) := by decide +kernel
theorem d_Meter_forget_7 : decode b_Meter_forget 7 = .ok (.putfield 15, 3) := by decide +kernel
theorem d_Meter_forget_10 : decode b_Meter_forget 10 = .ok (.return_, 1) := by decide +kernel
theorem d_Meter_init_0 : decode b_Meter_init 0 = .ok (.aload_n 0, 1) := by decide +kernel
theorem d_Meter_init_1 : decode b_Meter_init 1 = .ok (.invokespecial 3, 3) := by decide +kernel
theorem d_Meter_init_4 : decode b_Meter_init 4 = .ok (.return_, 1) := by decide +kernel
theorem d_Meter_place_0 : decode b_Meter_place 0 = .ok (.aload_n 0, 1) := by decide +kernel
theorem d_Meter_place_1 : decode b_Meter_place 1 = .ok (.getfield 15, 3) := by decide +kernel
theorem d_Meter_place_4 : decode b_Meter_place 4 = .ok (.ireturn, 1) := by decide +kernel
theorem d_Mod_constant_0 : decode b_Mod_constant 0 = .ok (.aload_n 0, 1) := by decide +kernel
theorem d_Mod_constant_1 : decode b_Mod_constant 1 = .ok (.iload_n 1, 1) := by decide +kernel
theorem d_Mod_constant_2 : decode b_Mod_constant 2 = .ok (.invokevirtual 577, 3) := by decide +kernel
theorem d_Mod_constant_5 : decode b_Mod_constant 5 = .ok (.ifCond .eq 5, 3) := by decide +kernel
theorem d_Mod_constant_8 : decode b_Mod_constant 8 = .ok (.iconst 0, 1) := by decide +kernel
theorem d_Mod_constant_9 : decode b_Mod_constant 9 = .ok (.ireturn, 1) := by decide +kernel
theorem d_Mod_count_0 : decode b_Mod_count 0 = .ok (.aload_n 0, 1) := by decide +kernel
theorem d_Mod_count_1 : decode b_Mod_count 1 = .ok (.iconst 0, 1) := by decide +kernel
theorem d_Mod_count_2 : decode b_Mod_count 2 = .ok (.putfield 29, 3) := by decide +kernel
theorem d_Mod_count_5 : decode b_Mod_count 5 = .ok (.iload_n 1, 1) := by decide +kernel
theorem d_Mod_count_6 : decode b_Mod_count 6 = .ok (.tableswitch 68 0 5 #[38, 43, 48, 53, 58, 63], 38) := by decide +kernel
theorem d_Mod_count_44 : decode b_Mod_count 44 = .ok (.aload_n 0, 1) := by decide +kernel
theorem d_Mod_count_45 : decode b_Mod_count 45 = .ok (.getfield 104, 3) := by decide +kernel
theorem d_Mod_count_48 : decode b_Mod_count 48 = .ok (.ireturn, 1) := by decide +kernel
theorem d_Mod_count_49 : decode b_Mod_count 49 = .ok (.aload_n 0, 1) := by decide +kernel
theorem d_Mod_count_50 : decode b_Mod_count 50 = .ok (.getfield 199, 3) := by decide +kernel
theorem d_Mod_count_53 : decode b_Mod_count 53 = .ok (.ireturn, 1) := by decide +kernel
theorem d_Mod_count_54 : decode b_Mod_count 54 = .ok (.aload_n 0, 1) := by decide +kernel
theorem d_Mod_count_55 : decode b_Mod_count 55 = .ok (.getfield 202, 3) := by decide +kernel
theorem d_Mod_count_58 : decode b_Mod_count 58 = .ok (.ireturn, 1) := by decide +kernel
theorem d_Mod_count_59 : decode b_Mod_count 59 = .ok (.aload_n 0, 1) := by decide +kernel
theorem d_Mod_count_60 : decode b_Mod_count 60 = .ok (.getfield 150, 3) := by decide +kernel
theorem d_Mod_count_63 : decode b_Mod_count 63 = .ok (.ireturn, 1) := by decide +kernel
theorem d_Mod_count_64 : decode b_Mod_count 64 = .ok (.aload_n 0, 1) := by decide +kernel
theorem d_Mod_count_65 : decode b_Mod_count 65 = .ok (.getfield 22, 3) := by decide +kernel
theorem d_Mod_count_68 : decode b_Mod_count 68 = .ok (.ireturn, 1) := by decide +kernel
theorem d_Mod_count_69 : decode b_Mod_count 69 = .ok (.aload_n 0, 1) := by decide +kernel
theorem d_Mod_count_70 : decode b_Mod_count 70 = .ok (.getfield 26, 3) := by decide +kernel
theorem d_Mod_count_73 : decode b_Mod_count 73 = .ok (.ireturn, 1) := by decide +kernel
theorem d_Mod_count_74 : decode b_Mod_count 74 = .ok (.iconst (-1), 1) := by decide +kernel
theorem d_Mod_count_75 : decode b_Mod_count 75 = .ok (.ireturn, 1) := by decide +kernel
theorem d_Mod_end_0 : decode b_Mod_end 0 = .ok (.aload_n 0, 1) := by decide +kernel
theorem d_Mod_end_1 : decode b_Mod_end 1 = .ok (.iconst 0, 1) := by decide +kernel
theorem d_Mod_end_2 : decode b_Mod_end 2 = .ok (.putfield 29, 3) := by decide +kernel
theorem d_Mod_end_5 : decode b_Mod_end 5 = .ok (.aload_n 0, 1) := by decide +kernel
theorem d_Mod_end_6 : decode b_Mod_end 6 = .ok (.iconst 1, 1) := by decide +kernel
theorem d_Mod_end_7 : decode b_Mod_end 7 = .ok (.iload_n 1, 1) := by decide +kernel
theorem d_Mod_end_8 : decode b_Mod_end 8 = .ok (.ifCond .lt 11, 3) := by decide +kernel
theorem d_Mod_end_11 : decode b_Mod_end 11 = .ok (.iload_n 1, 1) := by decide +kernel
theorem d_Mod_end_12 : decode b_Mod_end 12 = .ok (.aload_n 0, 1) := by decide +kernel
theorem d_Mod_end_13 : decode b_Mod_end 13 = .ok (.getfield 22, 3) := by decide +kernel
theorem d_Mod_end_16 : decode b_Mod_end 16 = .ok (.if_icmp .le 7, 3) := by decide +kernel
theorem d_Mod_end_19 : decode b_Mod_end 19 = .ok (.iconst 1, 1) := by decide +kernel
theorem d_Mod_end_20 : decode b_Mod_end 20 = .ok (.goto 4, 3) := by decide +kernel
theorem d_Mod_end_23 : decode b_Mod_end 23 = .ok (.iconst 0, 1) := by decide +kernel
theorem d_Mod_end_24 : decode b_Mod_end 24 = .ok (.invokevirtual 251, 3) := by decide +kernel
theorem d_Mod_end_27 : decode b_Mod_end 27 = .ok (.ifCond .eq 5, 3) := by decide +kernel
