theorem d_Mod_init_550 : decode b_Mod_init 550 = .ok (.putfield 247, 3) := by decide +kernel
theorem d_Mod_init_553 : decode b_Mod_init 553 = .ok (.return_, 1) := by decide +kernel
theorem d_Mod_none_0 : decode b_Mod_none 0 = .ok (.aload_n 0, 1) := by decide +kernel
theorem d_Mod_none_1 : decode b_Mod_none 1 = .ok (.iconst 0, 1) := by decide +kernel
theorem d_Mod_none_2 : decode b_Mod_none 2 = .ok (.putfield 29, 3) := by decide +kernel
theorem d_Mod_none_5 : decode b_Mod_none 5 = .ok (.aload_n 0, 1) := by decide +kernel
theorem d_Mod_none_6 : decode b_Mod_none 6 = .ok (.iconst 1, 1) := by decide +kernel
theorem d_Mod_none_7 : decode b_Mod_none 7 = .ok (.iload_n 1, 1) := by decide +kernel
theorem d_Mod_none_8 : decode b_Mod_none 8 = .ok (.ifCond .lt 11, 3) := by decide +kernel
theorem d_Mod_none_11 : decode b_Mod_none 11 = .ok (.iload_n 1, 1) := by decide +kernel
theorem d_Mod_none_12 : decode b_Mod_none 12 = .ok (.aload_n 0, 1) := by decide +kernel
theorem d_Mod_none_13 : decode b_Mod_none 13 = .ok (.getfield 104, 3) := by decide +kernel
theorem d_Mod_none_16 : decode b_Mod_none 16 = .ok (.if_icmp .lt 7, 3) := by decide +kernel
theorem d_Mod_none_19 : decode b_Mod_none 19 = .ok (.iconst 1, 1) := by decide +kernel
theorem d_Mod_none_20 : decode b_Mod_none 20 = .ok (.goto 4, 3) := by decide +kernel
theorem d_Mod_none_24 : decode b_Mod_none 24 = .ok (.invokevirtual 251, 3) := by decide +kernel
theorem d_Mod_none_27 : decode b_Mod_none 27 = .ok (.ireturn, 1) := by decide +kernel
theorem d_Mod_out_0 : decode b_Mod_out 0 = .ok (.aload_n 0, 1) := by decide +kernel
theorem d_Mod_out_1 : decode b_Mod_out 1 = .ok (.iconst 0, 1) := by decide +kernel
theorem d_Mod_out_2 : decode b_Mod_out 2 = .ok (.putfield 29, 3) := by decide +kernel
theorem d_Mod_out_5 : decode b_Mod_out 5 = .ok (.aload_n 0, 1) := by decide +kernel
theorem d_Mod_out_6 : decode b_Mod_out 6 = .ok (.iconst 1, 1) := by decide +kernel
theorem d_Mod_out_7 : decode b_Mod_out 7 = .ok (.iload_n 1, 1) := by decide +kernel
theorem d_Mod_out_8 : decode b_Mod_out 8 = .ok (.ifCond .lt 11, 3) := by decide +kernel
theorem d_Mod_out_11 : decode b_Mod_out 11 = .ok (.iload_n 1, 1) := by decide +kernel
theorem d_Mod_out_12 : decode b_Mod_out 12 = .ok (.aload_n 0, 1) := by decide +kernel
theorem d_Mod_out_13 : decode b_Mod_out 13 = .ok (.getfield 26, 3) := by decide +kernel
theorem d_Mod_out_16 : decode b_Mod_out 16 = .ok (.if_icmp .lt 7, 3) := by decide +kernel
theorem d_Mod_out_19 : decode b_Mod_out 19 = .ok (.iconst 1, 1) := by decide +kernel
theorem d_Mod_out_20 : decode b_Mod_out 20 = .ok (.goto 4, 3) := by decide +kernel
theorem d_Mod_out_24 : decode b_Mod_out 24 = .ok (.invokevirtual 251, 3) := by decide +kernel
theorem d_Mod_out_27 : decode b_Mod_out 27 = .ok (.ifCond .eq 5, 3) := by decide +kernel
theorem d_Mod_out_30 : decode b_Mod_out 30 = .ok (.iconst 0, 1) := by decide +kernel
theorem d_Mod_out_31 : decode b_Mod_out 31 = .ok (.ireturn, 1) := by decide +kernel
theorem d_Mod_parts_0 : decode b_Mod_parts 0 = .ok (.aload_n 0, 1) := by decide +kernel
theorem d_Mod_parts_1 : decode b_Mod_parts 1 = .ok (.getfield 38, 3) := by decide +kernel
theorem d_Mod_parts_4 : decode b_Mod_parts 4 = .ok (.aload_n 0, 1) := by decide +kernel
theorem d_Mod_parts_5 : decode b_Mod_parts 5 = .ok (.getfield 22, 3) := by decide +kernel
theorem d_Mod_parts_8 : decode b_Mod_parts 8 = .ok (.if_icmp .ge 98, 3) := by decide +kernel
theorem d_Mod_parts_106 : decode b_Mod_parts 106 = .ok (.return_, 1) := by decide +kernel
theorem d_Mod_peek_0 : decode b_Mod_peek 0 = .ok (.aload_n 0, 1) := by decide +kernel
theorem d_Mod_peek_1 : decode b_Mod_peek 1 = .ok (.getfield 50, 3) := by decide +kernel
theorem d_Mod_peek_4 : decode b_Mod_peek 4 = .ok (.ifCond .eq 8, 3) := by decide +kernel
theorem d_Mod_peek_12 : decode b_Mod_peek 12 = .ok (.aload_n 0, 1) := by decide +kernel
theorem d_Mod_peek_13 : decode b_Mod_peek 13 = .ok (.invokevirtual 255, 3) := by decide +kernel
theorem d_Mod_peek_16 : decode b_Mod_peek 16 = .ok (.aload_n 0, 1) := by decide +kernel
theorem d_Mod_peek_17 : decode b_Mod_peek 17 = .ok (.iconst 1, 1) := by decide +kernel
theorem d_Mod_peek_18 : decode b_Mod_peek 18 = .ok (.putfield 50, 3) := by decide +kernel
theorem d_Mod_peek_21 : decode b_Mod_peek 21 = .ok (.aload_n 0, 1) := by decide +kernel
theorem d_Mod_peek_22 : decode b_Mod_peek 22 = .ok (.aload_n 0, 1) := by decide +kernel
theorem d_Mod_peek_23 : decode b_Mod_peek 23 = .ok (.getfield 38, 3) := by decide +kernel
theorem d_Mod_peek_26 : decode b_Mod_peek 26 = .ok (.putfield 44, 3) := by decide +kernel
theorem d_Mod_peek_29 : decode b_Mod_peek 29 = .ok (.aload_n 0, 1) := by decide +kernel
theorem d_Mod_peek_30 : decode b_Mod_peek 30 = .ok (.aload_n 0, 1) := by decide +kernel
theorem d_Mod_peek_31 : decode b_Mod_peek 31 = .ok (.getfield 38, 3) := by decide +kernel
theorem d_Mod_peek_34 : decode b_Mod_peek 34 = .ok (.putfield 47, 3) := by decide +kernel
theorem d_Mod_peek_37 : decode b_Mod_peek 37 = .ok (.aload_n 0, 1) := by decide +kernel
theorem d_Mod_peek_38 : decode b_Mod_peek 38 = .ok (.iconst 0, 1) := by decide +kernel
theorem d_Mod_peek_39 : decode b_Mod_peek 39 = .ok (.putfield 41, 3) := by decide +kernel
theorem d_Mod_peek_42 : decode b_Mod_peek 42 = .ok (.aload_n 0, 1) := by decide +kernel
