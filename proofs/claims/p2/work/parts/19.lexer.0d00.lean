theorem d_Lex_skip_0 : decode b_Lex_skip 0 = .ok (.iconst 0, 1) := by decide +kernel
theorem d_Lex_skip_1 : decode b_Lex_skip 1 = .ok (.istore_n 1, 1) := by decide +kernel
theorem d_Lex_skip_2 : decode b_Lex_skip 2 = .ok (.aload_n 0, 1) := by decide +kernel
theorem d_Lex_skip_3 : decode b_Lex_skip 3 = .ok (.getfield 28, 3) := by decide +kernel
theorem d_Lex_skip_6 : decode b_Lex_skip 6 = .ok (.aload_n 0, 1) := by decide +kernel
theorem d_Lex_skip_7 : decode b_Lex_skip 7 = .ok (.getfield 9, 3) := by decide +kernel
theorem d_Lex_skip_10 : decode b_Lex_skip 10 = .ok (.invokevirtual 73, 3) := by decide +kernel
theorem d_Lex_skip_13 : decode b_Lex_skip 13 = .ok (.if_icmp .ge 73, 3) := by decide +kernel
theorem d_Lex_skip_16 : decode b_Lex_skip 16 = .ok (.aload_n 0, 1) := by decide +kernel
theorem d_Lex_skip_17 : decode b_Lex_skip 17 = .ok (.getfield 9, 3) := by decide +kernel
theorem d_Lex_skip_20 : decode b_Lex_skip 20 = .ok (.aload_n 0, 1) := by decide +kernel
theorem d_Lex_skip_21 : decode b_Lex_skip 21 = .ok (.getfield 28, 3) := by decide +kernel
theorem d_Lex_skip_24 : decode b_Lex_skip 24 = .ok (.invokevirtual 58, 3) := by decide +kernel
theorem d_Lex_skip_27 : decode b_Lex_skip 27 = .ok (.istore_n 2, 1) := by decide +kernel
theorem d_Lex_skip_28 : decode b_Lex_skip 28 = .ok (.iload_n 2, 1) := by decide +kernel
theorem d_Lex_skip_29 : decode b_Lex_skip 29 = .ok (.bipush 37, 2) := by decide +kernel
theorem d_Lex_skip_31 : decode b_Lex_skip 31 = .ok (.if_icmp .ne 8, 3) := by decide +kernel
theorem d_Lex_skip_34 : decode b_Lex_skip 34 = .ok (.iconst 1, 1) := by decide +kernel
theorem d_Lex_skip_35 : decode b_Lex_skip 35 = .ok (.istore_n 1, 1) := by decide +kernel
theorem d_Lex_skip_36 : decode b_Lex_skip 36 = .ok (.goto 37, 3) := by decide +kernel
theorem d_Lex_skip_39 : decode b_Lex_skip 39 = .ok (.iload_n 2, 1) := by decide +kernel
theorem d_Lex_skip_40 : decode b_Lex_skip 40 = .ok (.bipush 10, 2) := by decide +kernel
theorem d_Lex_skip_42 : decode b_Lex_skip 42 = .ok (.if_icmp .ne 8, 3) := by decide +kernel
theorem d_Lex_skip_45 : decode b_Lex_skip 45 = .ok (.iconst 0, 1) := by decide +kernel
theorem d_Lex_skip_46 : decode b_Lex_skip 46 = .ok (.istore_n 1, 1) := by decide +kernel
theorem d_Lex_skip_47 : decode b_Lex_skip 47 = .ok (.goto 26, 3) := by decide +kernel
theorem d_Lex_skip_50 : decode b_Lex_skip 50 = .ok (.iload_n 1, 1) := by decide +kernel
theorem d_Lex_skip_51 : decode b_Lex_skip 51 = .ok (.ifCond .ne 22, 3) := by decide +kernel
theorem d_Lex_skip_54 : decode b_Lex_skip 54 = .ok (.iload_n 2, 1) := by decide +kernel
theorem d_Lex_skip_55 : decode b_Lex_skip 55 = .ok (.bipush 32, 2) := by decide +kernel
theorem d_Lex_skip_57 : decode b_Lex_skip 57 = .ok (.if_icmp .eq 16, 3) := by decide +kernel
theorem d_Lex_skip_60 : decode b_Lex_skip 60 = .ok (.iload_n 2, 1) := by decide +kernel
theorem d_Lex_skip_61 : decode b_Lex_skip 61 = .ok (.bipush 9, 2) := by decide +kernel
theorem d_Lex_skip_63 : decode b_Lex_skip 63 = .ok (.if_icmp .eq 10, 3) := by decide +kernel
theorem d_Lex_skip_66 : decode b_Lex_skip 66 = .ok (.iload_n 2, 1) := by decide +kernel
theorem d_Lex_skip_67 : decode b_Lex_skip 67 = .ok (.bipush 13, 2) := by decide +kernel
theorem d_Lex_skip_69 : decode b_Lex_skip 69 = .ok (.if_icmp .eq 4, 3) := by decide +kernel
theorem d_Lex_skip_72 : decode b_Lex_skip 72 = .ok (.return_, 1) := by decide +kernel
theorem d_Lex_skip_73 : decode b_Lex_skip 73 = .ok (.aload_n 0, 1) := by decide +kernel
theorem d_Lex_skip_74 : decode b_Lex_skip 74 = .ok (.dup, 1) := by decide +kernel
theorem d_Lex_skip_75 : decode b_Lex_skip 75 = .ok (.getfield 28, 3) := by decide +kernel
theorem d_Lex_skip_78 : decode b_Lex_skip 78 = .ok (.iconst 1, 1) := by decide +kernel
theorem d_Lex_skip_79 : decode b_Lex_skip 79 = .ok (.iadd, 1) := by decide +kernel
theorem d_Lex_skip_80 : decode b_Lex_skip 80 = .ok (.putfield 28, 3) := by decide +kernel
theorem d_Lex_skip_83 : decode b_Lex_skip 83 = .ok (.goto (-81), 3) := by decide +kernel
theorem d_Lex_skip_86 : decode b_Lex_skip 86 = .ok (.return_, 1) := by decide +kernel
theorem d_Lex_isLetter_0 : decode b_Lex_isLetter 0 = .ok (.iload_n 0, 1) := by decide +kernel
theorem d_Lex_isLetter_1 : decode b_Lex_isLetter 1 = .ok (.bipush 97, 2) := by decide +kernel
theorem d_Lex_isLetter_3 : decode b_Lex_isLetter 3 = .ok (.if_icmp .lt 9, 3) := by decide +kernel
theorem d_Lex_isLetter_6 : decode b_Lex_isLetter 6 = .ok (.iload_n 0, 1) := by decide +kernel
theorem d_Lex_isLetter_7 : decode b_Lex_isLetter 7 = .ok (.bipush 122, 2) := by decide +kernel
theorem d_Lex_isLetter_9 : decode b_Lex_isLetter 9 = .ok (.if_icmp .le 15, 3) := by decide +kernel
theorem d_Lex_isLetter_12 : decode b_Lex_isLetter 12 = .ok (.iload_n 0, 1) := by decide +kernel
theorem d_Lex_isLetter_13 : decode b_Lex_isLetter 13 = .ok (.bipush 65, 2) := by decide +kernel
theorem d_Lex_isLetter_15 : decode b_Lex_isLetter 15 = .ok (.if_icmp .lt 13, 3) := by decide +kernel
theorem d_Lex_isLetter_18 : decode b_Lex_isLetter 18 = .ok (.iload_n 0, 1) := by decide +kernel
theorem d_Lex_isLetter_19 : decode b_Lex_isLetter 19 = .ok (.bipush 90, 2) := by decide +kernel
theorem d_Lex_isLetter_21 : decode b_Lex_isLetter 21 = .ok (.if_icmp .gt 7, 3) := by decide +kernel
theorem d_Lex_isLetter_24 : decode b_Lex_isLetter 24 = .ok (.iconst 1, 1) := by decide +kernel
theorem d_Lex_isLetter_25 : decode b_Lex_isLetter 25 = .ok (.goto 4, 3) := by decide +kernel
