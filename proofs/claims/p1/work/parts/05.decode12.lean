theorem d_Law_law_549 : decode b_Law_law 549 = .ok (.ifCond .ne 15, 3) := by decide +kernel
theorem d_Law_law_564 : decode b_Law_law 564 = .ok (.goto 28, 3) := by decide +kernel
theorem d_Law_law_567 : decode b_Law_law 567 = .ok (.aload_n 1, 1) := by decide +kernel
theorem d_Law_law_568 : decode b_Law_law 568 = .ok (.aload_n 0, 1) := by decide +kernel
theorem d_Law_law_569 : decode b_Law_law 569 = .ok (.iload 4, 2) := by decide +kernel
theorem d_Law_law_571 : decode b_Law_law 571 = .ok (.iconst 1, 1) := by decide +kernel
theorem d_Law_law_572 : decode b_Law_law 572 = .ok (.iadd, 1) := by decide +kernel
theorem d_Law_law_573 : decode b_Law_law 573 = .ok (.iaload, 1) := by decide +kernel
theorem d_Law_law_574 : decode b_Law_law 574 = .ok (.invokevirtual 81, 3) := by decide +kernel
theorem d_Law_law_577 : decode b_Law_law 577 = .ok (.aload_n 2, 1) := by decide +kernel
theorem d_Law_law_578 : decode b_Law_law 578 = .ok (.aload_n 0, 1) := by decide +kernel
theorem d_Law_law_579 : decode b_Law_law 579 = .ok (.iload 4, 2) := by decide +kernel
theorem d_Law_law_581 : decode b_Law_law 581 = .ok (.iconst 1, 1) := by decide +kernel
theorem d_Law_law_582 : decode b_Law_law 582 = .ok (.iadd, 1) := by decide +kernel
theorem d_Law_law_583 : decode b_Law_law 583 = .ok (.iaload, 1) := by decide +kernel
theorem d_Law_law_584 : decode b_Law_law 584 = .ok (.invokevirtual 84, 3) := by decide +kernel
theorem d_Law_law_587 : decode b_Law_law 587 = .ok (.if_icmp .eq 5, 3) := by decide +kernel
theorem d_Law_law_592 : decode b_Law_law 592 = .ok (.iinc 4 6, 3) := by decide +kernel
theorem d_Law_law_595 : decode b_Law_law 595 = .ok (.goto (-572), 3) := by decide +kernel
theorem d_Law_law_598 : decode b_Law_law 598 = .ok (.iconst 1, 1) := by decide +kernel
theorem d_Law_law_599 : decode b_Law_law 599 = .ok (.ireturn, 1) := by decide +kernel
theorem d_Law_out_0 : decode b_Law_out 0 = .ok (.aload_n 2, 1) := by decide +kernel
theorem d_Law_out_1 : decode b_Law_out 1 = .ok (.iconst 0, 1) := by decide +kernel
theorem d_Law_out_2 : decode b_Law_out 2 = .ok (.aload_n 0, 1) := by decide +kernel
theorem d_Law_out_3 : decode b_Law_out 3 = .ok (.iload_n 1, 1) := by decide +kernel
theorem d_Law_out_4 : decode b_Law_out 4 = .ok (.invokevirtual 33, 3) := by decide +kernel
theorem d_Law_out_12 : decode b_Law_out 12 = .ok (.astore_n 3, 1) := by decide +kernel
theorem d_Law_out_13 : decode b_Law_out 13 = .ok (.iconst 1, 1) := by decide +kernel
theorem d_Law_out_14 : decode b_Law_out 14 = .ok (.ireturn, 1) := by decide +kernel
theorem d_Law_show_0 : decode b_Law_show 0 = .ok (.aload_n 3, 1) := by decide +kernel
theorem d_Law_show_1 : decode b_Law_show 1 = .ok (.iconst 0, 1) := by decide +kernel
theorem d_Law_show_2 : decode b_Law_show 2 = .ok (.aload_n 0, 1) := by decide +kernel
theorem d_Law_show_3 : decode b_Law_show 3 = .ok (.iload_n 1, 1) := by decide +kernel
theorem d_Law_show_4 : decode b_Law_show 4 = .ok (.iload_n 2, 1) := by decide +kernel
theorem d_Law_show_5 : decode b_Law_show 5 = .ok (.invokevirtual 27, 3) := by decide +kernel
theorem d_Law_show_13 : decode b_Law_show 13 = .ok (.astore 4, 2) := by decide +kernel
theorem d_Law_show_15 : decode b_Law_show 15 = .ok (.iconst 1, 1) := by decide +kernel
theorem d_Law_show_16 : decode b_Law_show 16 = .ok (.ireturn, 1) := by decide +kernel
theorem d_Law_showRec_0 : decode b_Law_showRec 0 = .ok (.aload_n 3, 1) := by decide +kernel
theorem d_Law_showRec_1 : decode b_Law_showRec 1 = .ok (.iconst 0, 1) := by decide +kernel
theorem d_Law_showRec_2 : decode b_Law_showRec 2 = .ok (.aload_n 0, 1) := by decide +kernel
theorem d_Law_showRec_3 : decode b_Law_showRec 3 = .ok (.iload_n 1, 1) := by decide +kernel
theorem d_Law_showRec_4 : decode b_Law_showRec 4 = .ok (.iload_n 2, 1) := by decide +kernel
theorem d_Law_showRec_5 : decode b_Law_showRec 5 = .ok (.invokevirtual 30, 3) := by decide +kernel
theorem d_Law_showRec_13 : decode b_Law_showRec 13 = .ok (.astore 4, 2) := by decide +kernel
theorem d_Law_showRec_15 : decode b_Law_showRec 15 = .ok (.iconst 1, 1) := by decide +kernel
theorem d_Law_showRec_16 : decode b_Law_showRec 16 = .ok (.ireturn, 1) := by decide +kernel
theorem d_Lex_advance_0 : decode b_Lex_advance 0 = .ok (.aload_n 0, 1) := by decide +kernel
theorem d_Lex_advance_1 : decode b_Lex_advance 1 = .ok (.dup, 1) := by decide +kernel
theorem d_Lex_advance_2 : decode b_Lex_advance 2 = .ok (.getfield 52, 3) := by decide +kernel
theorem d_Lex_advance_5 : decode b_Lex_advance 5 = .ok (.iconst 1, 1) := by decide +kernel
theorem d_Lex_advance_6 : decode b_Lex_advance 6 = .ok (.iadd, 1) := by decide +kernel
theorem d_Lex_advance_7 : decode b_Lex_advance 7 = .ok (.putfield 52, 3) := by decide +kernel
theorem d_Lex_advance_10 : decode b_Lex_advance 10 = .ok (.aload_n 0, 1) := by decide +kernel
theorem d_Lex_advance_11 : decode b_Lex_advance 11 = .ok (.getfield 21, 3) := by decide +kernel
theorem d_Lex_advance_14 : decode b_Lex_advance 14 = .ok (.aload_n 0, 1) := by decide +kernel
theorem d_Lex_advance_15 : decode b_Lex_advance 15 = .ok (.getfield 52, 3) := by decide +kernel
theorem d_Lex_advance_18 : decode b_Lex_advance 18 = .ok (.invokevirtual 58, 3) := by decide +kernel
theorem d_Lex_advance_21 : decode b_Lex_advance 21 = .ok (.istore_n 1, 1) := by decide +kernel
theorem d_Lex_advance_22 : decode b_Lex_advance 22 = .ok (.aload_n 0, 1) := by decide +kernel
