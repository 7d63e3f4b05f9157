theorem d_Ker_feed_0 : decode b_Ker_feed 0 = .ok (.aload_n 0, 1) := by decide +kernel
theorem d_Ker_feed_1 : decode b_Ker_feed 1 = .ok (.getfield 15, 3) := by decide +kernel
theorem d_Ker_feed_4 : decode b_Ker_feed 4 = .ok (.invokevirtual 104, 3) := by decide +kernel
theorem d_Ker_feed_7 : decode b_Ker_feed 7 = .ok (.bipush 20, 2) := by decide +kernel
theorem d_Ker_feed_9 : decode b_Ker_feed 9 = .ok (.iadd, 1) := by decide +kernel
theorem d_Ker_feed_10 : decode b_Ker_feed 10 = .ok (.ldc 11, 2) := by decide +kernel
theorem d_Ker_feed_12 : decode b_Ker_feed 12 = .ok (.if_icmp .le 11, 3) := by decide +kernel
theorem d_Ker_feed_15 : decode b_Ker_feed 15 = .ok (.new 108, 3) := by decide +kernel
theorem d_Ker_feed_18 : decode b_Ker_feed 18 = .ok (.dup, 1) := by decide +kernel
theorem d_Ker_feed_19 : decode b_Ker_feed 19 = .ok (.invokespecial 110, 3) := by decide +kernel
theorem d_Ker_feed_22 : decode b_Ker_feed 22 = .ok (.athrow, 1) := by decide +kernel
theorem d_Ker_feed_23 : decode b_Ker_feed 23 = .ok (.aload_n 0, 1) := by decide +kernel
theorem d_Ker_feed_24 : decode b_Ker_feed 24 = .ok (.iload_n 1, 1) := by decide +kernel
theorem d_Ker_feed_25 : decode b_Ker_feed 25 = .ok (.invokevirtual 111, 3) := by decide +kernel
theorem d_Ker_feed_28 : decode b_Ker_feed 28 = .ok (.aload_n 0, 1) := by decide +kernel
theorem d_Ker_feed_29 : decode b_Ker_feed 29 = .ok (.iload_n 2, 1) := by decide +kernel
theorem d_Ker_feed_30 : decode b_Ker_feed 30 = .ok (.invokevirtual 111, 3) := by decide +kernel
theorem d_Ker_feed_33 : decode b_Ker_feed 33 = .ok (.aload_n 0, 1) := by decide +kernel
theorem d_Ker_feed_34 : decode b_Ker_feed 34 = .ok (.iload_n 3, 1) := by decide +kernel
theorem d_Ker_feed_35 : decode b_Ker_feed 35 = .ok (.invokevirtual 111, 3) := by decide +kernel
theorem d_Ker_feed_38 : decode b_Ker_feed 38 = .ok (.aload_n 0, 1) := by decide +kernel
theorem d_Ker_feed_39 : decode b_Ker_feed 39 = .ok (.iload 4, 2) := by decide +kernel
theorem d_Ker_feed_41 : decode b_Ker_feed 41 = .ok (.invokevirtual 111, 3) := by decide +kernel
theorem d_Ker_feed_44 : decode b_Ker_feed 44 = .ok (.aload_n 0, 1) := by decide +kernel
theorem d_Ker_feed_45 : decode b_Ker_feed 45 = .ok (.iload 5, 2) := by decide +kernel
theorem d_Ker_feed_47 : decode b_Ker_feed 47 = .ok (.invokevirtual 111, 3) := by decide +kernel
theorem d_Ker_feed_50 : decode b_Ker_feed 50 = .ok (.aload_n 0, 1) := by decide +kernel
theorem d_Ker_feed_51 : decode b_Ker_feed 51 = .ok (.getfield 15, 3) := by decide +kernel
theorem d_Ker_feed_54 : decode b_Ker_feed 54 = .ok (.invokevirtual 104, 3) := by decide +kernel
theorem d_Ker_feed_57 : decode b_Ker_feed 57 = .ok (.ireturn, 1) := by decide +kernel
theorem d_Ker_end_0 : decode b_Ker_end 0 = .ok (.iload_n 1, 1) := by decide +kernel
theorem d_Ker_end_1 : decode b_Ker_end 1 = .ok (.ifCond .lt 14, 3) := by decide +kernel
theorem d_Ker_end_4 : decode b_Ker_end 4 = .ok (.iload_n 1, 1) := by decide +kernel
theorem d_Ker_end_5 : decode b_Ker_end 5 = .ok (.aload_n 0, 1) := by decide +kernel
theorem d_Ker_end_6 : decode b_Ker_end 6 = .ok (.getfield 15, 3) := by decide +kernel
theorem d_Ker_end_9 : decode b_Ker_end 9 = .ok (.invokevirtual 104, 3) := by decide +kernel
theorem d_Ker_end_12 : decode b_Ker_end 12 = .ok (.if_icmp .le 11, 3) := by decide +kernel
theorem d_Ker_end_15 : decode b_Ker_end 15 = .ok (.new 118, 3) := by decide +kernel
theorem d_Ker_end_23 : decode b_Ker_end 23 = .ok (.aload_n 0, 1) := by decide +kernel
theorem d_Ker_end_24 : decode b_Ker_end 24 = .ok (.getfield 15, 3) := by decide +kernel
theorem d_Ker_end_27 : decode b_Ker_end 27 = .ok (.iload_n 1, 1) := by decide +kernel
theorem d_Ker_end_28 : decode b_Ker_end 28 = .ok (.invokevirtual 121, 3) := by decide +kernel
theorem d_Ker_end_31 : decode b_Ker_end 31 = .ok (.iload_n 1, 1) := by decide +kernel
theorem d_Ker_end_32 : decode b_Ker_end 32 = .ok (.ireturn, 1) := by decide +kernel
theorem d_Ker_fault_0 : decode b_Ker_fault 0 = .ok (.iload_n 1, 1) := by decide +kernel
theorem d_Ker_fault_1 : decode b_Ker_fault 1 = .ok (.ifCond .ne 11, 3) := by decide +kernel
theorem d_Ker_fault_4 : decode b_Ker_fault 4 = .ok (.aload_n 0, 1) := by decide +kernel
theorem d_Ker_fault_5 : decode b_Ker_fault 5 = .ok (.getfield 25, 3) := by decide +kernel
theorem d_Ker_fault_8 : decode b_Ker_fault 8 = .ok (.invokevirtual 327, 3) := by decide +kernel
theorem d_Ker_fault_11 : decode b_Ker_fault 11 = .ok (.ireturn, 1) := by decide +kernel
theorem d_Ker_fault_12 : decode b_Ker_fault 12 = .ok (.iload_n 1, 1) := by decide +kernel
theorem d_Ker_fault_13 : decode b_Ker_fault 13 = .ok (.iconst 1, 1) := by decide +kernel
theorem d_Ker_fault_14 : decode b_Ker_fault 14 = .ok (.if_icmp .ne 13, 3) := by decide +kernel
theorem d_Ker_fault_17 : decode b_Ker_fault 17 = .ok (.aload_n 0, 1) := by decide +kernel
theorem d_Ker_fault_18 : decode b_Ker_fault 18 = .ok (.getfield 25, 3) := by decide +kernel
theorem d_Ker_fault_21 : decode b_Ker_fault 21 = .ok (.invokevirtual 330, 3) := by decide +kernel
theorem d_Ker_fault_24 : decode b_Ker_fault 24 = .ok (.goto 4, 3) := by decide +kernel
theorem d_Ker_fault_27 : decode b_Ker_fault 27 = .ok (.iconst (-1), 1) := by decide +kernel
theorem d_Ker_fault_28 : decode b_Ker_fault 28 = .ok (.ireturn, 1) := by decide +kernel
theorem d_Ker_reset_0 : decode b_Ker_reset 0 = .ok (.aload_n 0, 1) := by decide +kernel
theorem d_Ker_reset_1 : decode b_Ker_reset 1 = .ok (.getfield 41, 3) := by decide +kernel
theorem d_Ker_reset_4 : decode b_Ker_reset 4 = .ok (.invokevirtual 133, 3) := by decide +kernel
theorem d_Ker_reset_7 : decode b_Ker_reset 7 = .ok (.istore_n 1, 1) := by decide +kernel
theorem d_Ker_reset_8 : decode b_Ker_reset 8 = .ok (.aload_n 0, 1) := by decide +kernel
theorem d_Ker_reset_9 : decode b_Ker_reset 9 = .ok (.getfield 41, 3) := by decide +kernel
theorem d_Ker_reset_12 : decode b_Ker_reset 12 = .ok (.invokevirtual 333, 3) := by decide +kernel
theorem d_Ker_reset_15 : decode b_Ker_reset 15 = .ok (.aload_n 0, 1) := by decide +kernel
theorem d_Ker_reset_16 : decode b_Ker_reset 16 = .ok (.getfield 34, 3) := by decide +kernel
theorem d_Ker_reset_19 : decode b_Ker_reset 19 = .ok (.iconst 0, 1) := by decide +kernel
theorem d_Ker_reset_20 : decode b_Ker_reset 20 = .ok (.invokevirtual 158, 3) := by decide +kernel
theorem d_Ker_reset_23 : decode b_Ker_reset 23 = .ok (.aload_n 0, 1) := by decide +kernel
theorem d_Ker_reset_24 : decode b_Ker_reset 24 = .ok (.iconst 0, 1) := by decide +kernel
theorem d_Ker_reset_25 : decode b_Ker_reset 25 = .ok (.putfield 161, 3) := by decide +kernel
theorem d_Ker_reset_28 : decode b_Ker_reset 28 = .ok (.iload_n 1, 1) := by decide +kernel
theorem d_Ker_reset_29 : decode b_Ker_reset 29 = .ok (.ireturn, 1) := by decide +kernel
theorem d_Ker_constant_0 : decode b_Ker_constant 0 = .ok (.iload_n 1, 1) := by decide +kernel
theorem d_Ker_constant_1 : decode b_Ker_constant 1 = .ok (.ifCond .lt 14, 3) := by decide +kernel
theorem d_Ker_constant_4 : decode b_Ker_constant 4 = .ok (.iload_n 1, 1) := by decide +kernel
theorem d_Ker_constant_5 : decode b_Ker_constant 5 = .ok (.aload_n 0, 1) := by decide +kernel
theorem d_Ker_constant_6 : decode b_Ker_constant 6 = .ok (.getfield 41, 3) := by decide +kernel
theorem d_Ker_constant_9 : decode b_Ker_constant 9 = .ok (.invokevirtual 133, 3) := by decide +kernel
theorem d_Ker_constant_12 : decode b_Ker_constant 12 = .ok (.if_icmp .lt 11, 3) := by decide +kernel
theorem d_Ker_constant_15 : decode b_Ker_constant 15 = .ok (.new 336, 3) := by decide +kernel
theorem d_Ker_constant_23 : decode b_Ker_constant 23 = .ok (.iload_n 2, 1) := by decide +kernel
theorem d_Ker_constant_24 : decode b_Ker_constant 24 = .ok (.ifCond .lt 9, 3) := by decide +kernel
theorem d_Ker_constant_27 : decode b_Ker_constant 27 = .ok (.iload_n 2, 1) := by decide +kernel
theorem d_Ker_constant_28 : decode b_Ker_constant 28 = .ok (.bipush 7, 2) := by decide +kernel
theorem d_Ker_constant_30 : decode b_Ker_constant 30 = .ok (.if_icmp .le 11, 3) := by decide +kernel
theorem d_Ker_constant_33 : decode b_Ker_constant 33 = .ok (.new 118, 3) := by decide +kernel
theorem d_Ker_constant_41 : decode b_Ker_constant 41 = .ok (.aload_n 0, 1) := by decide +kernel
theorem d_Ker_constant_42 : decode b_Ker_constant 42 = .ok (.getfield 41, 3) := by decide +kernel
theorem d_Ker_constant_45 : decode b_Ker_constant 45 = .ok (.iload_n 1, 1) := by decide +kernel
theorem d_Ker_constant_46 : decode b_Ker_constant 46 = .ok (.iload_n 2, 1) := by decide +kernel
theorem d_Ker_constant_47 : decode b_Ker_constant 47 = .ok (.invokevirtual 339, 3) := by decide +kernel
theorem d_Ker_constant_50 : decode b_Ker_constant 50 = .ok (.istore_n 3, 1) := by decide +kernel
theorem d_Ker_constant_51 : decode b_Ker_constant 51 = .ok (.iload_n 2, 1) := by decide +kernel
theorem d_Ker_constant_52 : decode b_Ker_constant 52 = .ok (.iconst 1, 1) := by decide +kernel
theorem d_Ker_constant_53 : decode b_Ker_constant 53 = .ok (.if_icmp .eq 8, 3) := by decide +kernel
theorem d_Ker_constant_56 : decode b_Ker_constant 56 = .ok (.iload_n 2, 1) := by decide +kernel
theorem d_Ker_constant_57 : decode b_Ker_constant 57 = .ok (.iconst 2, 1) := by decide +kernel
theorem d_Ker_constant_58 : decode b_Ker_constant 58 = .ok (.if_icmp .ne 21, 3) := by decide +kernel
theorem d_Ker_constant_61 : decode b_Ker_constant 61 = .ok (.iload_n 3, 1) := by decide +kernel
theorem d_Ker_constant_62 : decode b_Ker_constant 62 = .ok (.iconst (-1), 1) := by decide +kernel
theorem d_Ker_constant_63 : decode b_Ker_constant 63 = .ok (.if_icmp .ne 7, 3) := by decide +kernel
theorem d_Ker_constant_66 : decode b_Ker_constant 66 = .ok (.iconst 0, 1) := by decide +kernel
theorem d_Ker_constant_67 : decode b_Ker_constant 67 = .ok (.goto 11, 3) := by decide +kernel
theorem d_Ker_constant_70 : decode b_Ker_constant 70 = .ok (.aload_n 0, 1) := by decide +kernel
theorem d_Ker_constant_71 : decode b_Ker_constant 71 = .ok (.getfield 34, 3) := by decide +kernel
theorem d_Ker_constant_74 : decode b_Ker_constant 74 = .ok (.iload_n 3, 1) := by decide +kernel
theorem d_Ker_constant_75 : decode b_Ker_constant 75 = .ok (.invokevirtual 313, 3) := by decide +kernel
theorem d_Ker_constant_78 : decode b_Ker_constant 78 = .ok (.ireturn, 1) := by decide +kernel
theorem d_Ker_constant_79 : decode b_Ker_constant 79 = .ok (.iload_n 3, 1) := by decide +kernel
theorem d_Ker_constant_80 : decode b_Ker_constant 80 = .ok (.ireturn, 1) := by decide +kernel
theorem d_Ker_show_0 : decode b_Ker_show 0 = .ok (.iload_n 1, 1) := by decide +kernel
theorem d_Ker_show_1 : decode b_Ker_show 1 = .ok (.ifCond .lt 14, 3) := by decide +kernel
theorem d_Ker_show_4 : decode b_Ker_show 4 = .ok (.iload_n 1, 1) := by decide +kernel
theorem d_Ker_show_5 : decode b_Ker_show 5 = .ok (.aload_n 0, 1) := by decide +kernel
theorem d_Ker_show_6 : decode b_Ker_show 6 = .ok (.getfield 41, 3) := by decide +kernel
theorem d_Ker_show_9 : decode b_Ker_show 9 = .ok (.invokevirtual 133, 3) := by decide +kernel
theorem d_Ker_show_12 : decode b_Ker_show 12 = .ok (.if_icmp .lt 11, 3) := by decide +kernel
theorem d_Ker_show_15 : decode b_Ker_show 15 = .ok (.new 336, 3) := by decide +kernel
theorem d_Ker_show_23 : decode b_Ker_show 23 = .ok (.iload_n 2, 1) := by decide +kernel
theorem d_Ker_show_24 : decode b_Ker_show 24 = .ok (.iconst 2, 1) := by decide +kernel
theorem d_Ker_show_25 : decode b_Ker_show 25 = .ok (.if_icmp .ne 24, 3) := by decide +kernel
theorem d_Ker_show_28 : decode b_Ker_show 28 = .ok (.aload_n 0, 1) := by decide +kernel
theorem d_Ker_show_29 : decode b_Ker_show 29 = .ok (.getfield 41, 3) := by decide +kernel
theorem d_Ker_show_32 : decode b_Ker_show 32 = .ok (.iload_n 1, 1) := by decide +kernel
theorem d_Ker_show_33 : decode b_Ker_show 33 = .ok (.iconst 2, 1) := by decide +kernel
theorem d_Ker_show_34 : decode b_Ker_show 34 = .ok (.invokevirtual 339, 3) := by decide +kernel
theorem d_Ker_show_37 : decode b_Ker_show 37 = .ok (.iconst (-1), 1) := by decide +kernel
theorem d_Ker_show_38 : decode b_Ker_show 38 = .ok (.if_icmp .ne 11, 3) := by decide +kernel
theorem d_Ker_show_41 : decode b_Ker_show 41 = .ok (.new 336, 3) := by decide +kernel
theorem d_Ker_show_49 : decode b_Ker_show 49 = .ok (.iload_n 2, 1) := by decide +kernel
theorem d_Ker_show_50 : decode b_Ker_show 50 = .ok (.ifCond .lt 8, 3) := by decide +kernel
theorem d_Ker_show_53 : decode b_Ker_show 53 = .ok (.iload_n 2, 1) := by decide +kernel
theorem d_Ker_show_54 : decode b_Ker_show 54 = .ok (.iconst 2, 1) := by decide +kernel
theorem d_Ker_show_55 : decode b_Ker_show 55 = .ok (.if_icmp .le 11, 3) := by decide +kernel
theorem d_Ker_show_58 : decode b_Ker_show 58 = .ok (.new 118, 3) := by decide +kernel
theorem d_Ker_show_66 : decode b_Ker_show 66 = .ok (.iload_n 2, 1) := by decide +kernel
theorem d_Ker_show_67 : decode b_Ker_show 67 = .ok (.ifCond .ne 14, 3) := by decide +kernel
theorem d_Ker_show_70 : decode b_Ker_show 70 = .ok (.aload_n 0, 1) := by decide +kernel
theorem d_Ker_show_71 : decode b_Ker_show 71 = .ok (.getfield 100, 3) := by decide +kernel
theorem d_Ker_show_74 : decode b_Ker_show 74 = .ok (.iload_n 1, 1) := by decide +kernel
theorem d_Ker_show_75 : decode b_Ker_show 75 = .ok (.invokevirtual 343, 3) := by decide +kernel
theorem d_Ker_show_78 : decode b_Ker_show 78 = .ok (.goto 20, 3) := by decide +kernel
theorem d_Ker_show_81 : decode b_Ker_show 81 = .ok (.aload_n 0, 1) := by decide +kernel
theorem d_Ker_show_82 : decode b_Ker_show 82 = .ok (.getfield 100, 3) := by decide +kernel
theorem d_Ker_show_85 : decode b_Ker_show 85 = .ok (.aload_n 0, 1) := by decide +kernel
theorem d_Ker_show_86 : decode b_Ker_show 86 = .ok (.getfield 41, 3) := by decide +kernel
theorem d_Ker_show_89 : decode b_Ker_show 89 = .ok (.iload_n 1, 1) := by decide +kernel
theorem d_Ker_show_90 : decode b_Ker_show 90 = .ok (.iload_n 2, 1) := by decide +kernel
theorem d_Ker_show_91 : decode b_Ker_show 91 = .ok (.invokevirtual 339, 3) := by decide +kernel
theorem d_Ker_show_94 : decode b_Ker_show 94 = .ok (.iconst 0, 1) := by decide +kernel
theorem d_Ker_show_95 : decode b_Ker_show 95 = .ok (.invokevirtual 305, 3) := by decide +kernel
theorem d_Ker_show_98 : decode b_Ker_show 98 = .ok (.aload_n 0, 1) := by decide +kernel
theorem d_Ker_show_99 : decode b_Ker_show 99 = .ok (.getfield 19, 3) := by decide +kernel
theorem d_Ker_show_102 : decode b_Ker_show 102 = .ok (.invokevirtual 104, 3) := by decide +kernel
theorem d_Ker_show_105 : decode b_Ker_show 105 = .ok (.ireturn, 1) := by decide +kernel
theorem d_Ker_showRec_0 : decode b_Ker_showRec 0 = .ok (.iload_n 1, 1) := by decide +kernel
theorem d_Ker_showRec_1 : decode b_Ker_showRec 1 = .ok (.ifCond .lt 31, 3) := by decide +kernel
theorem d_Ker_showRec_4 : decode b_Ker_showRec 4 = .ok (.iload_n 1, 1) := by decide +kernel
theorem d_Ker_showRec_5 : decode b_Ker_showRec 5 = .ok (.aload_n 0, 1) := by decide +kernel
theorem d_Ker_showRec_6 : decode b_Ker_showRec 6 = .ok (.getfield 41, 3) := by decide +kernel
theorem d_Ker_showRec_9 : decode b_Ker_showRec 9 = .ok (.invokevirtual 133, 3) := by decide +kernel
theorem d_Ker_showRec_12 : decode b_Ker_showRec 12 = .ok (.if_icmp .ge 20, 3) := by decide +kernel
theorem d_Ker_showRec_15 : decode b_Ker_showRec 15 = .ok (.aload_n 0, 1) := by decide +kernel
theorem d_Ker_showRec_16 : decode b_Ker_showRec 16 = .ok (.getfield 41, 3) := by decide +kernel
theorem d_Ker_showRec_19 : decode b_Ker_showRec 19 = .ok (.iload_n 1, 1) := by decide +kernel
theorem d_Ker_showRec_20 : decode b_Ker_showRec 20 = .ok (.iconst 0, 1) := by decide +kernel
theorem d_Ker_showRec_21 : decode b_Ker_showRec 21 = .ok (.invokevirtual 339, 3) := by decide +kernel
theorem d_Ker_showRec_24 : decode b_Ker_showRec 24 = .ok (.iconst 3, 1) := by decide +kernel
theorem d_Ker_showRec_25 : decode b_Ker_showRec 25 = .ok (.if_icmp .ne 7, 3) := by decide +kernel
theorem d_Ker_showRec_28 : decode b_Ker_showRec 28 = .ok (.iconst 1, 1) := by decide +kernel
theorem d_Ker_showRec_29 : decode b_Ker_showRec 29 = .ok (.goto 4, 3) := by decide +kernel
theorem d_Ker_showRec_32 : decode b_Ker_showRec 32 = .ok (.iconst 0, 1) := by decide +kernel
theorem d_Ker_showRec_33 : decode b_Ker_showRec 33 = .ok (.istore_n 3, 1) := by decide +kernel
theorem d_Ker_showRec_34 : decode b_Ker_showRec 34 = .ok (.iload_n 3, 1) := by decide +kernel
theorem d_Ker_showRec_35 : decode b_Ker_showRec 35 = .ok (.ifCond .eq 25, 3) := by decide +kernel
theorem d_Ker_showRec_38 : decode b_Ker_showRec 38 = .ok (.iload_n 2, 1) := by decide +kernel
theorem d_Ker_showRec_39 : decode b_Ker_showRec 39 = .ok (.ifCond .lt 21, 3) := by decide +kernel
theorem d_Ker_showRec_42 : decode b_Ker_showRec 42 = .ok (.iload_n 2, 1) := by decide +kernel
theorem d_Ker_showRec_43 : decode b_Ker_showRec 43 = .ok (.bipush 100, 2) := by decide +kernel
theorem d_Ker_showRec_45 : decode b_Ker_showRec 45 = .ok (.if_icmp .gt 15, 3) := by decide +kernel
theorem d_Ker_showRec_48 : decode b_Ker_showRec 48 = .ok (.aload_n 0, 1) := by decide +kernel
theorem d_Ker_showRec_49 : decode b_Ker_showRec 49 = .ok (.getfield 41, 3) := by decide +kernel
theorem d_Ker_showRec_52 : decode b_Ker_showRec 52 = .ok (.iload_n 1, 1) := by decide +kernel
theorem d_Ker_showRec_53 : decode b_Ker_showRec 53 = .ok (.iload_n 2, 1) := by decide +kernel
theorem d_Ker_showRec_54 : decode b_Ker_showRec 54 = .ok (.invokevirtual 346, 3) := by decide +kernel
theorem d_Ker_showRec_57 : decode b_Ker_showRec 57 = .ok (.ifCond .ne 11, 3) := by decide +kernel
theorem d_Ker_showRec_60 : decode b_Ker_showRec 60 = .ok (.new 336, 3) := by decide +kernel
theorem d_Ker_showRec_68 : decode b_Ker_showRec 68 = .ok (.aload_n 0, 1) := by decide +kernel
theorem d_Ker_showRec_69 : decode b_Ker_showRec 69 = .ok (.getfield 100, 3) := by decide +kernel
theorem d_Ker_showRec_72 : decode b_Ker_showRec 72 = .ok (.aload_n 0, 1) := by decide +kernel
theorem d_Ker_showRec_73 : decode b_Ker_showRec 73 = .ok (.getfield 41, 3) := by decide +kernel
theorem d_Ker_showRec_76 : decode b_Ker_showRec 76 = .ok (.iload_n 1, 1) := by decide +kernel
theorem d_Ker_showRec_77 : decode b_Ker_showRec 77 = .ok (.bipush 10, 2) := by decide +kernel
theorem d_Ker_showRec_79 : decode b_Ker_showRec 79 = .ok (.invokevirtual 339, 3) := by decide +kernel
theorem d_Ker_showRec_82 : decode b_Ker_showRec 82 = .ok (.iload_n 2, 1) := by decide +kernel
theorem d_Ker_showRec_83 : decode b_Ker_showRec 83 = .ok (.invokevirtual 305, 3) := by decide +kernel
theorem d_Ker_showRec_86 : decode b_Ker_showRec 86 = .ok (.aload_n 0, 1) := by decide +kernel
theorem d_Ker_showRec_87 : decode b_Ker_showRec 87 = .ok (.getfield 19, 3) := by decide +kernel
theorem d_Ker_showRec_90 : decode b_Ker_showRec 90 = .ok (.invokevirtual 104, 3) := by decide +kernel
theorem d_Ker_showRec_93 : decode b_Ker_showRec 93 = .ok (.ireturn, 1) := by decide +kernel
theorem d_Ker_out_0 : decode b_Ker_out 0 = .ok (.iload_n 1, 1) := by decide +kernel
theorem d_Ker_out_1 : decode b_Ker_out 1 = .ok (.ifCond .lt 14, 3) := by decide +kernel
theorem d_Ker_out_4 : decode b_Ker_out 4 = .ok (.iload_n 1, 1) := by decide +kernel
theorem d_Ker_out_5 : decode b_Ker_out 5 = .ok (.aload_n 0, 1) := by decide +kernel
theorem d_Ker_out_6 : decode b_Ker_out 6 = .ok (.getfield 19, 3) := by decide +kernel
theorem d_Ker_out_9 : decode b_Ker_out 9 = .ok (.invokevirtual 104, 3) := by decide +kernel
theorem d_Ker_out_12 : decode b_Ker_out 12 = .ok (.if_icmp .lt 11, 3) := by decide +kernel
theorem d_Ker_out_15 : decode b_Ker_out 15 = .ok (.new 350, 3) := by decide +kernel
theorem d_Ker_out_23 : decode b_Ker_out 23 = .ok (.aload_n 0, 1) := by decide +kernel
theorem d_Ker_out_24 : decode b_Ker_out 24 = .ok (.getfield 19, 3) := by decide +kernel
theorem d_Ker_out_27 : decode b_Ker_out 27 = .ok (.iload_n 1, 1) := by decide +kernel
theorem d_Ker_out_28 : decode b_Ker_out 28 = .ok (.invokevirtual 353, 3) := by decide +kernel
theorem d_Ker_out_31 : decode b_Ker_out 31 = .ok (.ireturn, 1) := by decide +kernel
theorem d_Ker_count_0 : decode b_Ker_count 0 = .ok (.iload_n 1, 1) := by decide +kernel
theorem d_Ker_count_1 : decode b_Ker_count 1 = .ok (.tableswitch 81 0 5 #[39, 47, 52, 57, 65, 73], 39) := by decide +kernel
theorem d_Ker_count_40 : decode b_Ker_count 40 = .ok (.aload_n 0, 1) := by decide +kernel
theorem d_Ker_count_41 : decode b_Ker_count 41 = .ok (.getfield 41, 3) := by decide +kernel
theorem d_Ker_count_44 : decode b_Ker_count 44 = .ok (.invokevirtual 133, 3) := by decide +kernel
theorem d_Ker_count_47 : decode b_Ker_count 47 = .ok (.ireturn, 1) := by decide +kernel
theorem d_Ker_count_48 : decode b_Ker_count 48 = .ok (.aload_n 0, 1) := by decide +kernel
theorem d_Ker_count_49 : decode b_Ker_count 49 = .ok (.getfield 161, 3) := by decide +kernel
theorem d_Ker_count_52 : decode b_Ker_count 52 = .ok (.ireturn, 1) := by decide +kernel
theorem d_Ker_count_53 : decode b_Ker_count 53 = .ok (.aload_n 0, 1) := by decide +kernel
theorem d_Ker_count_54 : decode b_Ker_count 54 = .ok (.getfield 167, 3) := by decide +kernel
theorem d_Ker_count_57 : decode b_Ker_count 57 = .ok (.ireturn, 1) := by decide +kernel
theorem d_Ker_count_58 : decode b_Ker_count 58 = .ok (.aload_n 0, 1) := by decide +kernel
theorem d_Ker_count_59 : decode b_Ker_count 59 = .ok (.getfield 41, 3) := by decide +kernel
theorem d_Ker_count_62 : decode b_Ker_count 62 = .ok (.invokevirtual 315, 3) := by decide +kernel
theorem d_Ker_count_65 : decode b_Ker_count 65 = .ok (.ireturn, 1) := by decide +kernel
theorem d_Ker_count_66 : decode b_Ker_count 66 = .ok (.aload_n 0, 1) := by decide +kernel
theorem d_Ker_count_67 : decode b_Ker_count 67 = .ok (.getfield 15, 3) := by decide +kernel
theorem d_Ker_count_70 : decode b_Ker_count 70 = .ok (.invokevirtual 104, 3) := by decide +kernel
theorem d_Ker_count_73 : decode b_Ker_count 73 = .ok (.ireturn, 1) := by decide +kernel
theorem d_Ker_count_74 : decode b_Ker_count 74 = .ok (.aload_n 0, 1) := by decide +kernel
theorem d_Ker_count_75 : decode b_Ker_count 75 = .ok (.getfield 19, 3) := by decide +kernel
theorem d_Ker_count_78 : decode b_Ker_count 78 = .ok (.invokevirtual 104, 3) := by decide +kernel
theorem d_Ker_count_81 : decode b_Ker_count 81 = .ok (.ireturn, 1) := by decide +kernel
theorem d_Ker_count_82 : decode b_Ker_count 82 = .ok (.iconst (-1), 1) := by decide +kernel
theorem d_Ker_count_83 : decode b_Ker_count 83 = .ok (.ireturn, 1) := by decide +kernel
theorem d_Ker_end_18 : decode b_Ker_end 18 = .ok (.dup, 1) := by decide +kernel
theorem d_Ker_end_19 : decode b_Ker_end 19 = .ok (.invokespecial 120, 3) := by decide +kernel
theorem d_Ker_end_22 : decode b_Ker_end 22 = .ok (.athrow, 1) := by decide +kernel
theorem d_Ker_constant_18 : decode b_Ker_constant 18 = .ok (.dup, 1) := by decide +kernel
theorem d_Ker_constant_19 : decode b_Ker_constant 19 = .ok (.invokespecial 338, 3) := by decide +kernel
theorem d_Ker_constant_22 : decode b_Ker_constant 22 = .ok (.athrow, 1) := by decide +kernel
theorem d_Ker_constant_36 : decode b_Ker_constant 36 = .ok (.dup, 1) := by decide +kernel
theorem d_Ker_constant_37 : decode b_Ker_constant 37 = .ok (.invokespecial 120, 3) := by decide +kernel
theorem d_Ker_constant_40 : decode b_Ker_constant 40 = .ok (.athrow, 1) := by decide +kernel
theorem d_Ker_show_18 : decode b_Ker_show 18 = .ok (.dup, 1) := by decide +kernel
theorem d_Ker_show_19 : decode b_Ker_show 19 = .ok (.invokespecial 338, 3) := by decide +kernel
theorem d_Ker_show_22 : decode b_Ker_show 22 = .ok (.athrow, 1) := by decide +kernel
theorem d_Ker_show_44 : decode b_Ker_show 44 = .ok (.dup, 1) := by decide +kernel
theorem d_Ker_show_45 : decode b_Ker_show 45 = .ok (.invokespecial 338, 3) := by decide +kernel
theorem d_Ker_show_48 : decode b_Ker_show 48 = .ok (.athrow, 1) := by decide +kernel
theorem d_Ker_show_61 : decode b_Ker_show 61 = .ok (.dup, 1) := by decide +kernel
theorem d_Ker_show_62 : decode b_Ker_show 62 = .ok (.invokespecial 120, 3) := by decide +kernel
theorem d_Ker_show_65 : decode b_Ker_show 65 = .ok (.athrow, 1) := by decide +kernel
theorem d_Ker_showRec_63 : decode b_Ker_showRec 63 = .ok (.dup, 1) := by decide +kernel
theorem d_Ker_showRec_64 : decode b_Ker_showRec 64 = .ok (.invokespecial 338, 3) := by decide +kernel
theorem d_Ker_showRec_67 : decode b_Ker_showRec 67 = .ok (.athrow, 1) := by decide +kernel
theorem d_Ker_out_18 : decode b_Ker_out 18 = .ok (.dup, 1) := by decide +kernel
theorem d_Ker_out_19 : decode b_Ker_out 19 = .ok (.invokespecial 352, 3) := by decide +kernel
theorem d_Ker_out_22 : decode b_Ker_out 22 = .ok (.athrow, 1) := by decide +kernel
