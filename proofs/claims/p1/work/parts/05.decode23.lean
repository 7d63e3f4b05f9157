theorem d_Mod_peek_43 : decode b_Mod_peek 43 = .ok (.getfield 38, 3) := by decide +kernel
theorem d_Mod_peek_46 : decode b_Mod_peek 46 = .ok (.aload_n 0, 1) := by decide +kernel
theorem d_Mod_peek_47 : decode b_Mod_peek 47 = .ok (.getfield 22, 3) := by decide +kernel
theorem d_Mod_peek_50 : decode b_Mod_peek 50 = .ok (.if_icmp .ne 5, 3) := by decide +kernel
theorem d_Mod_peek_53 : decode b_Mod_peek 53 = .ok (.iconst 0, 1) := by decide +kernel
theorem d_Mod_peek_54 : decode b_Mod_peek 54 = .ok (.ireturn, 1) := by decide +kernel
theorem d_Mod_read_0 : decode b_Mod_read 0 = .ok (.aload_n 0, 1) := by decide +kernel
theorem d_Mod_read_1 : decode b_Mod_read 1 = .ok (.iconst 0, 1) := by decide +kernel
theorem d_Mod_read_2 : decode b_Mod_read 2 = .ok (.putfield 29, 3) := by decide +kernel
theorem d_Mod_read_5 : decode b_Mod_read 5 = .ok (.aload_n 0, 1) := by decide +kernel
theorem d_Mod_read_6 : decode b_Mod_read 6 = .ok (.iconst 0, 1) := by decide +kernel
theorem d_Mod_read_7 : decode b_Mod_read 7 = .ok (.putfield 38, 3) := by decide +kernel
theorem d_Mod_read_10 : decode b_Mod_read 10 = .ok (.aload_n 0, 1) := by decide +kernel
theorem d_Mod_read_11 : decode b_Mod_read 11 = .ok (.iconst 0, 1) := by decide +kernel
theorem d_Mod_read_12 : decode b_Mod_read 12 = .ok (.putfield 50, 3) := by decide +kernel
theorem d_Mod_read_15 : decode b_Mod_read 15 = .ok (.aload_n 0, 1) := by decide +kernel
theorem d_Mod_read_16 : decode b_Mod_read 16 = .ok (.iconst 0, 1) := by decide +kernel
theorem d_Mod_read_17 : decode b_Mod_read 17 = .ok (.putfield 32, 3) := by decide +kernel
theorem d_Mod_read_20 : decode b_Mod_read 20 = .ok (.aload_n 0, 1) := by decide +kernel
theorem d_Mod_read_21 : decode b_Mod_read 21 = .ok (.iconst 0, 1) := by decide +kernel
theorem d_Mod_read_22 : decode b_Mod_read 22 = .ok (.putfield 35, 3) := by decide +kernel
theorem d_Mod_read_25 : decode b_Mod_read 25 = .ok (.iconst 0, 1) := by decide +kernel
theorem d_Mod_read_26 : decode b_Mod_read 26 = .ok (.istore_n 1, 1) := by decide +kernel
theorem d_Mod_read_27 : decode b_Mod_read 27 = .ok (.aload_n 0, 1) := by decide +kernel
theorem d_Mod_read_28 : decode b_Mod_read 28 = .ok (.getfield 104, 3) := by decide +kernel
theorem d_Mod_read_31 : decode b_Mod_read 31 = .ok (.istore_n 2, 1) := by decide +kernel
theorem d_Mod_read_32 : decode b_Mod_read 32 = .ok (.aload_n 0, 1) := by decide +kernel
theorem d_Mod_read_33 : decode b_Mod_read 33 = .ok (.getfield 101, 3) := by decide +kernel
theorem d_Mod_read_36 : decode b_Mod_read 36 = .ok (.istore_n 3, 1) := by decide +kernel
theorem d_Mod_read_37 : decode b_Mod_read 37 = .ok (.aload_n 0, 1) := by decide +kernel
theorem d_Mod_read_38 : decode b_Mod_read 38 = .ok (.getfield 147, 3) := by decide +kernel
theorem d_Mod_read_41 : decode b_Mod_read 41 = .ok (.istore 4, 2) := by decide +kernel
theorem d_Mod_read_43 : decode b_Mod_read 43 = .ok (.aload_n 0, 1) := by decide +kernel
theorem d_Mod_read_44 : decode b_Mod_read 44 = .ok (.getfield 150, 3) := by decide +kernel
theorem d_Mod_read_47 : decode b_Mod_read 47 = .ok (.istore 5, 2) := by decide +kernel
theorem d_Mod_read_49 : decode b_Mod_read 49 = .ok (.aload_n 0, 1) := by decide +kernel
theorem d_Mod_read_50 : decode b_Mod_read 50 = .ok (.invokevirtual 273, 3) := by decide +kernel
theorem d_Mod_read_53 : decode b_Mod_read 53 = .ok (.ifCond .eq 61, 3) := by decide +kernel
theorem d_Mod_read_114 : decode b_Mod_read 114 = .ok (.goto 60, 3) := by decide +kernel
theorem d_Mod_read_174 : decode b_Mod_read 174 = .ok (.aload_n 0, 1) := by decide +kernel
theorem d_Mod_read_175 : decode b_Mod_read 175 = .ok (.iconst 0, 1) := by decide +kernel
theorem d_Mod_read_176 : decode b_Mod_read 176 = .ok (.putfield 22, 3) := by decide +kernel
theorem d_Mod_read_179 : decode b_Mod_read 179 = .ok (.iload_n 1, 1) := by decide +kernel
theorem d_Mod_read_180 : decode b_Mod_read 180 = .ok (.ireturn, 1) := by decide +kernel
theorem d_Mod_refuse_0 : decode b_Mod_refuse 0 = .ok (.iload_n 2, 1) := by decide +kernel
theorem d_Mod_refuse_1 : decode b_Mod_refuse 1 = .ok (.ifCond .eq 8, 3) := by decide +kernel
theorem d_Mod_refuse_4 : decode b_Mod_refuse 4 = .ok (.aload_n 0, 1) := by decide +kernel
theorem d_Mod_refuse_5 : decode b_Mod_refuse 5 = .ok (.iload_n 1, 1) := by decide +kernel
theorem d_Mod_refuse_6 : decode b_Mod_refuse 6 = .ok (.putfield 29, 3) := by decide +kernel
theorem d_Mod_refuse_9 : decode b_Mod_refuse 9 = .ok (.iload_n 2, 1) := by decide +kernel
theorem d_Mod_refuse_10 : decode b_Mod_refuse 10 = .ok (.ireturn, 1) := by decide +kernel
theorem d_Mod_reset_0 : decode b_Mod_reset 0 = .ok (.aload_n 0, 1) := by decide +kernel
theorem d_Mod_reset_1 : decode b_Mod_reset 1 = .ok (.iconst 0, 1) := by decide +kernel
theorem d_Mod_reset_2 : decode b_Mod_reset 2 = .ok (.putfield 29, 3) := by decide +kernel
theorem d_Mod_reset_5 : decode b_Mod_reset 5 = .ok (.aload_n 0, 1) := by decide +kernel
theorem d_Mod_reset_6 : decode b_Mod_reset 6 = .ok (.getfield 104, 3) := by decide +kernel
theorem d_Mod_reset_9 : decode b_Mod_reset 9 = .ok (.istore_n 1, 1) := by decide +kernel
theorem d_Mod_reset_10 : decode b_Mod_reset 10 = .ok (.aload_n 0, 1) := by decide +kernel
theorem d_Mod_reset_11 : decode b_Mod_reset 11 = .ok (.iconst 0, 1) := by decide +kernel
theorem d_Mod_reset_12 : decode b_Mod_reset 12 = .ok (.putfield 199, 3) := by decide +kernel
