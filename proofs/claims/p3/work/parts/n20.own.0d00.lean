theorem d_Law_feed_0 : decode b_Law_feed 0 = .ok (.aload 6, 2) := by decide +kernel
theorem d_Law_feed_2 : decode b_Law_feed 2 = .ok (.iconst 0, 1) := by decide +kernel
theorem d_Law_feed_3 : decode b_Law_feed 3 = .ok (.aload_n 0, 1) := by decide +kernel
theorem d_Law_feed_4 : decode b_Law_feed 4 = .ok (.iload_n 1, 1) := by decide +kernel
theorem d_Law_feed_5 : decode b_Law_feed 5 = .ok (.iload_n 2, 1) := by decide +kernel
theorem d_Law_feed_6 : decode b_Law_feed 6 = .ok (.iload_n 3, 1) := by decide +kernel
theorem d_Law_feed_7 : decode b_Law_feed 7 = .ok (.iload 4, 2) := by decide +kernel
theorem d_Law_feed_9 : decode b_Law_feed 9 = .ok (.iload 5, 2) := by decide +kernel
theorem d_Law_feed_11 : decode b_Law_feed 11 = .ok (.invokevirtual 7, 3) := by decide +kernel
theorem d_Law_feed_14 : decode b_Law_feed 14 = .ok (.i2l, 1) := by decide +kernel
theorem d_Law_feed_15 : decode b_Law_feed 15 = .ok (.lastore, 1) := by decide +kernel
theorem d_Law_feed_16 : decode b_Law_feed 16 = .ok (.goto 7, 3) := by decide +kernel
theorem d_Law_feed_23 : decode b_Law_feed 23 = .ok (.iconst 0, 1) := by decide +kernel
theorem d_Law_feed_24 : decode b_Law_feed 24 = .ok (.ireturn, 1) := by decide +kernel
theorem d_Law_end_0 : decode b_Law_end 0 = .ok (.aload_n 2, 1) := by decide +kernel
theorem d_Law_end_1 : decode b_Law_end 1 = .ok (.iconst 0, 1) := by decide +kernel
theorem d_Law_end_2 : decode b_Law_end 2 = .ok (.aload_n 0, 1) := by decide +kernel
theorem d_Law_end_3 : decode b_Law_end 3 = .ok (.iload_n 1, 1) := by decide +kernel
theorem d_Law_end_4 : decode b_Law_end 4 = .ok (.invokevirtual 15, 3) := by decide +kernel
theorem d_Law_end_7 : decode b_Law_end 7 = .ok (.i2l, 1) := by decide +kernel
theorem d_Law_end_8 : decode b_Law_end 8 = .ok (.lastore, 1) := by decide +kernel
theorem d_Law_end_9 : decode b_Law_end 9 = .ok (.goto 6, 3) := by decide +kernel
theorem d_Law_end_15 : decode b_Law_end 15 = .ok (.iconst 0, 1) := by decide +kernel
theorem d_Law_end_16 : decode b_Law_end 16 = .ok (.ireturn, 1) := by decide +kernel
theorem d_Law_end_12 : decode b_Law_end 12 = .ok (.astore_n 3, 1) := by decide +kernel
theorem d_Law_end_13 : decode b_Law_end 13 = .ok (.iconst 1, 1) := by decide +kernel
theorem d_Law_end_14 : decode b_Law_end 14 = .ok (.ireturn, 1) := by decide +kernel
theorem d_Law_constant_0 : decode b_Law_constant 0 = .ok (.aload_n 3, 1) := by decide +kernel
theorem d_Law_constant_1 : decode b_Law_constant 1 = .ok (.iconst 0, 1) := by decide +kernel
theorem d_Law_constant_2 : decode b_Law_constant 2 = .ok (.aload_n 0, 1) := by decide +kernel
theorem d_Law_constant_3 : decode b_Law_constant 3 = .ok (.iload_n 1, 1) := by decide +kernel
theorem d_Law_constant_4 : decode b_Law_constant 4 = .ok (.iload_n 2, 1) := by decide +kernel
theorem d_Law_constant_5 : decode b_Law_constant 5 = .ok (.invokevirtual 21, 3) := by decide +kernel
theorem d_Law_constant_8 : decode b_Law_constant 8 = .ok (.i2l, 1) := by decide +kernel
theorem d_Law_constant_9 : decode b_Law_constant 9 = .ok (.lastore, 1) := by decide +kernel
theorem d_Law_constant_10 : decode b_Law_constant 10 = .ok (.goto 11, 3) := by decide +kernel
theorem d_Law_constant_21 : decode b_Law_constant 21 = .ok (.iconst 0, 1) := by decide +kernel
theorem d_Law_constant_22 : decode b_Law_constant 22 = .ok (.ireturn, 1) := by decide +kernel
theorem d_Law_constant_13 : decode b_Law_constant 13 = .ok (.astore 4, 2) := by decide +kernel
theorem d_Law_constant_15 : decode b_Law_constant 15 = .ok (.iconst 1, 1) := by decide +kernel
theorem d_Law_constant_16 : decode b_Law_constant 16 = .ok (.ireturn, 1) := by decide +kernel
theorem d_Law_constant_17 : decode b_Law_constant 17 = .ok (.astore 4, 2) := by decide +kernel
theorem d_Law_constant_19 : decode b_Law_constant 19 = .ok (.iconst 2, 1) := by decide +kernel
theorem d_Law_constant_20 : decode b_Law_constant 20 = .ok (.ireturn, 1) := by decide +kernel
theorem d_Law_show_0 : decode b_Law_show 0 = .ok (.aload_n 3, 1) := by decide +kernel
theorem d_Law_show_1 : decode b_Law_show 1 = .ok (.iconst 0, 1) := by decide +kernel
theorem d_Law_show_2 : decode b_Law_show 2 = .ok (.aload_n 0, 1) := by decide +kernel
theorem d_Law_show_3 : decode b_Law_show 3 = .ok (.iload_n 1, 1) := by decide +kernel
theorem d_Law_show_4 : decode b_Law_show 4 = .ok (.iload_n 2, 1) := by decide +kernel
theorem d_Law_show_5 : decode b_Law_show 5 = .ok (.invokevirtual 27, 3) := by decide +kernel
theorem d_Law_show_8 : decode b_Law_show 8 = .ok (.i2l, 1) := by decide +kernel
theorem d_Law_show_9 : decode b_Law_show 9 = .ok (.lastore, 1) := by decide +kernel
theorem d_Law_show_10 : decode b_Law_show 10 = .ok (.goto 11, 3) := by decide +kernel
theorem d_Law_show_21 : decode b_Law_show 21 = .ok (.iconst 0, 1) := by decide +kernel
theorem d_Law_show_22 : decode b_Law_show 22 = .ok (.ireturn, 1) := by decide +kernel
theorem d_Law_show_13 : decode b_Law_show 13 = .ok (.astore 4, 2) := by decide +kernel
theorem d_Law_show_15 : decode b_Law_show 15 = .ok (.iconst 1, 1) := by decide +kernel
theorem d_Law_show_16 : decode b_Law_show 16 = .ok (.ireturn, 1) := by decide +kernel
theorem d_Law_show_17 : decode b_Law_show 17 = .ok (.astore 4, 2) := by decide +kernel
theorem d_Law_show_19 : decode b_Law_show 19 = .ok (.iconst 2, 1) := by decide +kernel
theorem d_Law_show_20 : decode b_Law_show 20 = .ok (.ireturn, 1) := by decide +kernel
theorem d_Law_showRec_0 : decode b_Law_showRec 0 = .ok (.aload_n 3, 1) := by decide +kernel
theorem d_Law_showRec_1 : decode b_Law_showRec 1 = .ok (.iconst 0, 1) := by decide +kernel
theorem d_Law_showRec_2 : decode b_Law_showRec 2 = .ok (.aload_n 0, 1) := by decide +kernel
theorem d_Law_showRec_3 : decode b_Law_showRec 3 = .ok (.iload_n 1, 1) := by decide +kernel
theorem d_Law_showRec_4 : decode b_Law_showRec 4 = .ok (.iload_n 2, 1) := by decide +kernel
theorem d_Law_showRec_5 : decode b_Law_showRec 5 = .ok (.invokevirtual 30, 3) := by decide +kernel
theorem d_Law_showRec_8 : decode b_Law_showRec 8 = .ok (.i2l, 1) := by decide +kernel
theorem d_Law_showRec_9 : decode b_Law_showRec 9 = .ok (.lastore, 1) := by decide +kernel
theorem d_Law_showRec_10 : decode b_Law_showRec 10 = .ok (.goto 7, 3) := by decide +kernel
theorem d_Law_showRec_17 : decode b_Law_showRec 17 = .ok (.iconst 0, 1) := by decide +kernel
theorem d_Law_showRec_18 : decode b_Law_showRec 18 = .ok (.ireturn, 1) := by decide +kernel
theorem d_Law_showRec_13 : decode b_Law_showRec 13 = .ok (.astore 4, 2) := by decide +kernel
theorem d_Law_showRec_15 : decode b_Law_showRec 15 = .ok (.iconst 1, 1) := by decide +kernel
theorem d_Law_showRec_16 : decode b_Law_showRec 16 = .ok (.ireturn, 1) := by decide +kernel
theorem d_Law_out_0 : decode b_Law_out 0 = .ok (.aload_n 2, 1) := by decide +kernel
theorem d_Law_out_1 : decode b_Law_out 1 = .ok (.iconst 0, 1) := by decide +kernel
theorem d_Law_out_2 : decode b_Law_out 2 = .ok (.aload_n 0, 1) := by decide +kernel
theorem d_Law_out_3 : decode b_Law_out 3 = .ok (.iload_n 1, 1) := by decide +kernel
theorem d_Law_out_4 : decode b_Law_out 4 = .ok (.invokevirtual 33, 3) := by decide +kernel
theorem d_Law_out_7 : decode b_Law_out 7 = .ok (.i2l, 1) := by decide +kernel
theorem d_Law_out_8 : decode b_Law_out 8 = .ok (.lastore, 1) := by decide +kernel
theorem d_Law_out_9 : decode b_Law_out 9 = .ok (.goto 6, 3) := by decide +kernel
theorem d_Law_out_15 : decode b_Law_out 15 = .ok (.iconst 0, 1) := by decide +kernel
theorem d_Law_out_16 : decode b_Law_out 16 = .ok (.ireturn, 1) := by decide +kernel
theorem d_Law_out_12 : decode b_Law_out 12 = .ok (.astore_n 3, 1) := by decide +kernel
theorem d_Law_out_13 : decode b_Law_out 13 = .ok (.iconst 1, 1) := by decide +kernel
theorem d_Law_out_14 : decode b_Law_out 14 = .ok (.ireturn, 1) := by decide +kernel
