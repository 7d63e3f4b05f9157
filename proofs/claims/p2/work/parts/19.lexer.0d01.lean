theorem d_Lex_isLetter_28 : decode b_Lex_isLetter 28 = .ok (.iconst 0, 1) := by decide +kernel
theorem d_Lex_isLetter_29 : decode b_Lex_isLetter 29 = .ok (.ireturn, 1) := by decide +kernel
theorem d_Lex_isDigit_0 : decode b_Lex_isDigit 0 = .ok (.iload_n 0, 1) := by decide +kernel
theorem d_Lex_isDigit_1 : decode b_Lex_isDigit 1 = .ok (.bipush 48, 2) := by decide +kernel
theorem d_Lex_isDigit_3 : decode b_Lex_isDigit 3 = .ok (.if_icmp .lt 13, 3) := by decide +kernel
theorem d_Lex_isDigit_6 : decode b_Lex_isDigit 6 = .ok (.iload_n 0, 1) := by decide +kernel
theorem d_Lex_isDigit_7 : decode b_Lex_isDigit 7 = .ok (.bipush 57, 2) := by decide +kernel
theorem d_Lex_isDigit_9 : decode b_Lex_isDigit 9 = .ok (.if_icmp .gt 7, 3) := by decide +kernel
theorem d_Lex_isDigit_12 : decode b_Lex_isDigit 12 = .ok (.iconst 1, 1) := by decide +kernel
theorem d_Lex_isDigit_13 : decode b_Lex_isDigit 13 = .ok (.goto 4, 3) := by decide +kernel
theorem d_Lex_isDigit_16 : decode b_Lex_isDigit 16 = .ok (.iconst 0, 1) := by decide +kernel
theorem d_Lex_isDigit_17 : decode b_Lex_isDigit 17 = .ok (.ireturn, 1) := by decide +kernel
theorem d_Lex_isInWord_0 : decode b_Lex_isInWord 0 = .ok (.iload_n 0, 1) := by decide +kernel
theorem d_Lex_isInWord_1 : decode b_Lex_isInWord 1 = .ok (.invokestatic 77, 3) := by decide +kernel
theorem d_Lex_isInWord_4 : decode b_Lex_isInWord 4 = .ok (.ifCond .ne 22, 3) := by decide +kernel
theorem d_Lex_isInWord_7 : decode b_Lex_isInWord 7 = .ok (.iload_n 0, 1) := by decide +kernel
theorem d_Lex_isInWord_8 : decode b_Lex_isInWord 8 = .ok (.invokestatic 84, 3) := by decide +kernel
theorem d_Lex_isInWord_11 : decode b_Lex_isInWord 11 = .ok (.ifCond .ne 15, 3) := by decide +kernel
theorem d_Lex_isInWord_14 : decode b_Lex_isInWord 14 = .ok (.iload_n 0, 1) := by decide +kernel
theorem d_Lex_isInWord_15 : decode b_Lex_isInWord 15 = .ok (.bipush 95, 2) := by decide +kernel
theorem d_Lex_isInWord_17 : decode b_Lex_isInWord 17 = .ok (.if_icmp .eq 9, 3) := by decide +kernel
theorem d_Lex_isInWord_20 : decode b_Lex_isInWord 20 = .ok (.iload_n 0, 1) := by decide +kernel
theorem d_Lex_isInWord_21 : decode b_Lex_isInWord 21 = .ok (.bipush 39, 2) := by decide +kernel
theorem d_Lex_isInWord_23 : decode b_Lex_isInWord 23 = .ok (.if_icmp .ne 7, 3) := by decide +kernel
theorem d_Lex_isInWord_26 : decode b_Lex_isInWord 26 = .ok (.iconst 1, 1) := by decide +kernel
theorem d_Lex_isInWord_27 : decode b_Lex_isInWord 27 = .ok (.goto 4, 3) := by decide +kernel
theorem d_Lex_isInWord_30 : decode b_Lex_isInWord 30 = .ok (.iconst 0, 1) := by decide +kernel
theorem d_Lex_isInWord_31 : decode b_Lex_isInWord 31 = .ok (.ireturn, 1) := by decide +kernel
theorem d_Lex_reads_0 : decode b_Lex_reads 0 = .ok (.aload_n 1, 1) := by decide +kernel
theorem d_Lex_reads_1 : decode b_Lex_reads 1 = .ok (.invokevirtual 129, 3) := by decide +kernel
theorem d_Lex_reads_4 : decode b_Lex_reads 4 = .ok (.aload_n 0, 1) := by decide +kernel
theorem d_Lex_reads_5 : decode b_Lex_reads 5 = .ok (.getfield 42, 3) := by decide +kernel
theorem d_Lex_reads_8 : decode b_Lex_reads 8 = .ok (.if_icmp .ne 7, 3) := by decide +kernel
theorem d_Lex_reads_11 : decode b_Lex_reads 11 = .ok (.iconst 1, 1) := by decide +kernel
theorem d_Lex_reads_12 : decode b_Lex_reads 12 = .ok (.goto 4, 3) := by decide +kernel
theorem d_Lex_reads_15 : decode b_Lex_reads 15 = .ok (.iconst 0, 1) := by decide +kernel
theorem d_Lex_reads_16 : decode b_Lex_reads 16 = .ok (.istore_n 2, 1) := by decide +kernel
theorem d_Lex_reads_17 : decode b_Lex_reads 17 = .ok (.iconst 0, 1) := by decide +kernel
theorem d_Lex_reads_18 : decode b_Lex_reads 18 = .ok (.istore_n 3, 1) := by decide +kernel
theorem d_Lex_reads_19 : decode b_Lex_reads 19 = .ok (.iload_n 2, 1) := by decide +kernel
theorem d_Lex_reads_20 : decode b_Lex_reads 20 = .ok (.ifCond .eq 44, 3) := by decide +kernel
theorem d_Lex_reads_23 : decode b_Lex_reads 23 = .ok (.iload_n 3, 1) := by decide +kernel
theorem d_Lex_reads_24 : decode b_Lex_reads 24 = .ok (.aload_n 0, 1) := by decide +kernel
theorem d_Lex_reads_25 : decode b_Lex_reads 25 = .ok (.getfield 42, 3) := by decide +kernel
theorem d_Lex_reads_28 : decode b_Lex_reads 28 = .ok (.if_icmp .ge 36, 3) := by decide +kernel
theorem d_Lex_reads_31 : decode b_Lex_reads 31 = .ok (.aload_n 0, 1) := by decide +kernel
theorem d_Lex_reads_32 : decode b_Lex_reads 32 = .ok (.getfield 9, 3) := by decide +kernel
theorem d_Lex_reads_35 : decode b_Lex_reads 35 = .ok (.aload_n 0, 1) := by decide +kernel
theorem d_Lex_reads_36 : decode b_Lex_reads 36 = .ok (.getfield 39, 3) := by decide +kernel
theorem d_Lex_reads_39 : decode b_Lex_reads 39 = .ok (.iload_n 3, 1) := by decide +kernel
theorem d_Lex_reads_40 : decode b_Lex_reads 40 = .ok (.iadd, 1) := by decide +kernel
theorem d_Lex_reads_41 : decode b_Lex_reads 41 = .ok (.invokevirtual 58, 3) := by decide +kernel
theorem d_Lex_reads_44 : decode b_Lex_reads 44 = .ok (.aload_n 1, 1) := by decide +kernel
theorem d_Lex_reads_45 : decode b_Lex_reads 45 = .ok (.iload_n 3, 1) := by decide +kernel
theorem d_Lex_reads_46 : decode b_Lex_reads 46 = .ok (.invokevirtual 133, 3) := by decide +kernel
theorem d_Lex_reads_49 : decode b_Lex_reads 49 = .ok (.if_icmp .ne 7, 3) := by decide +kernel
theorem d_Lex_reads_52 : decode b_Lex_reads 52 = .ok (.iconst 1, 1) := by decide +kernel
theorem d_Lex_reads_53 : decode b_Lex_reads 53 = .ok (.goto 4, 3) := by decide +kernel
theorem d_Lex_reads_56 : decode b_Lex_reads 56 = .ok (.iconst 0, 1) := by decide +kernel
theorem d_Lex_reads_57 : decode b_Lex_reads 57 = .ok (.istore_n 2, 1) := by decide +kernel
