theorem d_Ker_reset_19 : decode b_Ker_reset 19 = .ok (.iconst 0, 1) := by decide +kernel
theorem d_Ker_reset_20 : decode b_Ker_reset 20 = .ok (.invokevirtual 158, 3) := by decide +kernel
theorem d_Ker_reset_23 : decode b_Ker_reset 23 = .ok (.aload_n 0, 1) := by decide +kernel
theorem d_Ker_reset_24 : decode b_Ker_reset 24 = .ok (.iconst 0, 1) := by decide +kernel
theorem d_Ker_reset_25 : decode b_Ker_reset 25 = .ok (.putfield 161, 3) := by decide +kernel
theorem d_Ker_reset_28 : decode b_Ker_reset 28 = .ok (.iload_n 1, 1) := by decide +kernel
theorem d_Ker_reset_29 : decode b_Ker_reset 29 = .ok (.ireturn, 1) := by decide +kernel
theorem d_Ker_show_0 : decode b_Ker_show 0 = .ok (.iload_n 1, 1) := by decide +kernel
theorem d_Ker_show_1 : decode b_Ker_show 1 = .ok (.ifCond .lt 14, 3) := by decide +kernel
theorem d_Ker_show_4 : decode b_Ker_show 4 = .ok (.iload_n 1, 1) := by decide +kernel
theorem d_Ker_show_5 : decode b_Ker_show 5 = .ok (.aload_n 0, 1) := by decide +kernel
theorem d_Ker_show_6 : decode b_Ker_show 6 = .ok (.getfield 41, 3) := by decide +kernel
theorem d_Ker_show_9 : decode b_Ker_show 9 = .ok (.invokevirtual 133, 3) := by decide +kernel
theorem d_Ker_show_12 : decode b_Ker_show 12 = .ok (.if_icmp .lt 11, 3) := by decide +kernel
theorem d_Ker_show_15 : decode b_Ker_show 15 = .ok (.new 336, 3) := by decide +kernel
theorem d_Ker_show_18 : decode b_Ker_show 18 = .ok (.dup, 1) := by decide +kernel
theorem d_Ker_show_19 : decode b_Ker_show 19 = .ok (.invokespecial 338, 3) := by decide +kernel
theorem d_Ker_show_22 : decode b_Ker_show 22 = .ok (.athrow, 1) := by decide +kernel
theorem d_Ker_showRec_0 : decode b_Ker_showRec 0 = .ok (.iload_n 1, 1) := by decide +kernel
theorem d_Ker_showRec_1 : decode b_Ker_showRec 1 = .ok (.ifCond .lt 31, 3) := by decide +kernel
theorem d_Ker_showRec_4 : decode b_Ker_showRec 4 = .ok (.iload_n 1, 1) := by decide +kernel
theorem d_Ker_showRec_5 : decode b_Ker_showRec 5 = .ok (.aload_n 0, 1) := by decide +kernel
theorem d_Ker_showRec_6 : decode b_Ker_showRec 6 = .ok (.getfield 41, 3) := by decide +kernel
theorem d_Ker_showRec_9 : decode b_Ker_showRec 9 = .ok (.invokevirtual 133, 3) := by decide +kernel
theorem d_Ker_showRec_12 : decode b_Ker_showRec 12 = .ok (.if_icmp .ge 20, 3) := by decide +kernel
theorem d_Ker_showRec_32 : decode b_Ker_showRec 32 = .ok (.iconst 0, 1) := by decide +kernel
theorem d_Ker_showRec_33 : decode b_Ker_showRec 33 = .ok (.istore_n 3, 1) := by decide +kernel
theorem d_Ker_showRec_34 : decode b_Ker_showRec 34 = .ok (.iload_n 3, 1) := by decide +kernel
theorem d_Ker_showRec_35 : decode b_Ker_showRec 35 = .ok (.ifCond .eq 25, 3) := by decide +kernel
theorem d_Ker_showRec_60 : decode b_Ker_showRec 60 = .ok (.new 336, 3) := by decide +kernel
theorem d_Ker_showRec_63 : decode b_Ker_showRec 63 = .ok (.dup, 1) := by decide +kernel
theorem d_Ker_showRec_64 : decode b_Ker_showRec 64 = .ok (.invokespecial 338, 3) := by decide +kernel
theorem d_Ker_showRec_67 : decode b_Ker_showRec 67 = .ok (.athrow, 1) := by decide +kernel
theorem d_Ker_takeBytes_0 : decode b_Ker_takeBytes 0 = .ok (.bipush 24, 2) := by decide +kernel
theorem d_Ker_takeBytes_2 : decode b_Ker_takeBytes 2 = .ok (.istore_n 2, 1) := by decide +kernel
theorem d_Ker_takeBytes_3 : decode b_Ker_takeBytes 3 = .ok (.iload_n 2, 1) := by decide +kernel
theorem d_Ker_takeBytes_4 : decode b_Ker_takeBytes 4 = .ok (.ifCond .lt 23, 3) := by decide +kernel
theorem d_Ker_takeBytes_7 : decode b_Ker_takeBytes 7 = .ok (.aload_n 0, 1) := by decide +kernel
theorem d_Ker_takeBytes_8 : decode b_Ker_takeBytes 8 = .ok (.getfield 15, 3) := by decide +kernel
theorem d_Ker_takeBytes_11 : decode b_Ker_takeBytes 11 = .ok (.iload_n 1, 1) := by decide +kernel
theorem d_Ker_takeBytes_12 : decode b_Ker_takeBytes 12 = .ok (.iload_n 2, 1) := by decide +kernel
theorem d_Ker_takeBytes_13 : decode b_Ker_takeBytes 13 = .ok (.iushr, 1) := by decide +kernel
theorem d_Ker_takeBytes_14 : decode b_Ker_takeBytes 14 = .ok (.sipush 255, 3) := by decide +kernel
theorem d_Ker_takeBytes_17 : decode b_Ker_takeBytes 17 = .ok (.iand, 1) := by decide +kernel
theorem d_Ker_takeBytes_18 : decode b_Ker_takeBytes 18 = .ok (.invokevirtual 115, 3) := by decide +kernel
theorem d_Ker_takeBytes_21 : decode b_Ker_takeBytes 21 = .ok (.iinc 2 (-8), 3) := by decide +kernel
theorem d_Ker_takeBytes_24 : decode b_Ker_takeBytes 24 = .ok (.goto (-21), 3) := by decide +kernel
theorem d_Ker_takeBytes_27 : decode b_Ker_takeBytes 27 = .ok (.return_, 1) := by decide +kernel
theorem d_Law_constant_0 : decode b_Law_constant 0 = .ok (.aload_n 3, 1) := by decide +kernel
theorem d_Law_constant_1 : decode b_Law_constant 1 = .ok (.iconst 0, 1) := by decide +kernel
theorem d_Law_constant_2 : decode b_Law_constant 2 = .ok (.aload_n 0, 1) := by decide +kernel
theorem d_Law_constant_3 : decode b_Law_constant 3 = .ok (.iload_n 1, 1) := by decide +kernel
theorem d_Law_constant_4 : decode b_Law_constant 4 = .ok (.iload_n 2, 1) := by decide +kernel
theorem d_Law_constant_5 : decode b_Law_constant 5 = .ok (.invokevirtual 21, 3) := by decide +kernel
theorem d_Law_constant_13 : decode b_Law_constant 13 = .ok (.astore 4, 2) := by decide +kernel
theorem d_Law_constant_15 : decode b_Law_constant 15 = .ok (.iconst 1, 1) := by decide +kernel
theorem d_Law_constant_16 : decode b_Law_constant 16 = .ok (.ireturn, 1) := by decide +kernel
theorem d_Law_end_0 : decode b_Law_end 0 = .ok (.aload_n 2, 1) := by decide +kernel
theorem d_Law_end_1 : decode b_Law_end 1 = .ok (.iconst 0, 1) := by decide +kernel
theorem d_Law_end_2 : decode b_Law_end 2 = .ok (.aload_n 0, 1) := by decide +kernel
