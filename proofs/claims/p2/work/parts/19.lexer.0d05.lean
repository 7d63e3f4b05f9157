theorem d_Lex_scanNumber_37 : decode b_Lex_scanNumber 37 = .ok (.iadd, 1) := by decide +kernel
theorem d_Lex_scanNumber_38 : decode b_Lex_scanNumber 38 = .ok (.putfield 28, 3) := by decide +kernel
theorem d_Lex_scanNumber_41 : decode b_Lex_scanNumber 41 = .ok (.goto (-41), 3) := by decide +kernel
theorem d_Lex_scanNumber_44 : decode b_Lex_scanNumber 44 = .ok (.aload_n 0, 1) := by decide +kernel
theorem d_Lex_scanNumber_45 : decode b_Lex_scanNumber 45 = .ok (.getfield 28, 3) := by decide +kernel
theorem d_Lex_scanNumber_48 : decode b_Lex_scanNumber 48 = .ok (.aload_n 0, 1) := by decide +kernel
theorem d_Lex_scanNumber_49 : decode b_Lex_scanNumber 49 = .ok (.getfield 39, 3) := by decide +kernel
theorem d_Lex_scanNumber_52 : decode b_Lex_scanNumber 52 = .ok (.isub, 1) := by decide +kernel
theorem d_Lex_scanNumber_53 : decode b_Lex_scanNumber 53 = .ok (.iconst 4, 1) := by decide +kernel
theorem d_Lex_scanNumber_54 : decode b_Lex_scanNumber 54 = .ok (.if_icmp .gt 7, 3) := by decide +kernel
theorem d_Lex_scanNumber_57 : decode b_Lex_scanNumber 57 = .ok (.iconst 1, 1) := by decide +kernel
theorem d_Lex_scanNumber_58 : decode b_Lex_scanNumber 58 = .ok (.goto 4, 3) := by decide +kernel
theorem d_Lex_scanNumber_61 : decode b_Lex_scanNumber 61 = .ok (.iconst 0, 1) := by decide +kernel
theorem d_Lex_scanNumber_62 : decode b_Lex_scanNumber 62 = .ok (.istore_n 1, 1) := by decide +kernel
theorem d_Lex_scanNumber_63 : decode b_Lex_scanNumber 63 = .ok (.aload_n 0, 1) := by decide +kernel
theorem d_Lex_scanNumber_64 : decode b_Lex_scanNumber 64 = .ok (.iload_n 1, 1) := by decide +kernel
theorem d_Lex_scanNumber_65 : decode b_Lex_scanNumber 65 = .ok (.ifCond .eq 15, 3) := by decide +kernel
theorem d_Lex_scanNumber_68 : decode b_Lex_scanNumber 68 = .ok (.aload_n 0, 1) := by decide +kernel
theorem d_Lex_scanNumber_69 : decode b_Lex_scanNumber 69 = .ok (.getfield 28, 3) := by decide +kernel
theorem d_Lex_scanNumber_72 : decode b_Lex_scanNumber 72 = .ok (.aload_n 0, 1) := by decide +kernel
theorem d_Lex_scanNumber_73 : decode b_Lex_scanNumber 73 = .ok (.getfield 39, 3) := by decide +kernel
theorem d_Lex_scanNumber_76 : decode b_Lex_scanNumber 76 = .ok (.isub, 1) := by decide +kernel
theorem d_Lex_scanNumber_77 : decode b_Lex_scanNumber 77 = .ok (.goto 4, 3) := by decide +kernel
theorem d_Lex_scanNumber_80 : decode b_Lex_scanNumber 80 = .ok (.iconst 0, 1) := by decide +kernel
theorem d_Lex_scanNumber_81 : decode b_Lex_scanNumber 81 = .ok (.putfield 42, 3) := by decide +kernel
theorem d_Lex_scanNumber_84 : decode b_Lex_scanNumber 84 = .ok (.aload_n 0, 1) := by decide +kernel
theorem d_Lex_scanNumber_85 : decode b_Lex_scanNumber 85 = .ok (.iload_n 1, 1) := by decide +kernel
theorem d_Lex_scanNumber_86 : decode b_Lex_scanNumber 86 = .ok (.ifCond .eq 7, 3) := by decide +kernel
theorem d_Lex_scanNumber_89 : decode b_Lex_scanNumber 89 = .ok (.iconst 3, 1) := by decide +kernel
theorem d_Lex_scanNumber_90 : decode b_Lex_scanNumber 90 = .ok (.goto 4, 3) := by decide +kernel
theorem d_Lex_scanNumber_93 : decode b_Lex_scanNumber 93 = .ok (.iconst 1, 1) := by decide +kernel
theorem d_Lex_scanNumber_94 : decode b_Lex_scanNumber 94 = .ok (.putfield 32, 3) := by decide +kernel
theorem d_Lex_scanNumber_97 : decode b_Lex_scanNumber 97 = .ok (.return_, 1) := by decide +kernel
theorem d_Lex_scanSign_0 : decode b_Lex_scanSign 0 = .ok (.iload_n 1, 1) := by decide +kernel
theorem d_Lex_scanSign_1 : decode b_Lex_scanSign 1 = .ok (.bipush 58, 2) := by decide +kernel
theorem d_Lex_scanSign_3 : decode b_Lex_scanSign 3 = .ok (.if_icmp .ne 9, 3) := by decide +kernel
theorem d_Lex_scanSign_6 : decode b_Lex_scanSign 6 = .ok (.iload_n 2, 1) := by decide +kernel
theorem d_Lex_scanSign_7 : decode b_Lex_scanSign 7 = .ok (.bipush 61, 2) := by decide +kernel
theorem d_Lex_scanSign_9 : decode b_Lex_scanSign 9 = .ok (.if_icmp .eq 27, 3) := by decide +kernel
theorem d_Lex_scanSign_12 : decode b_Lex_scanSign 12 = .ok (.iload_n 1, 1) := by decide +kernel
theorem d_Lex_scanSign_13 : decode b_Lex_scanSign 13 = .ok (.bipush 61, 2) := by decide +kernel
theorem d_Lex_scanSign_15 : decode b_Lex_scanSign 15 = .ok (.if_icmp .ne 9, 3) := by decide +kernel
theorem d_Lex_scanSign_18 : decode b_Lex_scanSign 18 = .ok (.iload_n 2, 1) := by decide +kernel
theorem d_Lex_scanSign_19 : decode b_Lex_scanSign 19 = .ok (.bipush 62, 2) := by decide +kernel
theorem d_Lex_scanSign_21 : decode b_Lex_scanSign 21 = .ok (.if_icmp .eq 15, 3) := by decide +kernel
theorem d_Lex_scanSign_24 : decode b_Lex_scanSign 24 = .ok (.iload_n 1, 1) := by decide +kernel
theorem d_Lex_scanSign_25 : decode b_Lex_scanSign 25 = .ok (.bipush 45, 2) := by decide +kernel
theorem d_Lex_scanSign_27 : decode b_Lex_scanSign 27 = .ok (.if_icmp .ne 13, 3) := by decide +kernel
theorem d_Lex_scanSign_30 : decode b_Lex_scanSign 30 = .ok (.iload_n 2, 1) := by decide +kernel
theorem d_Lex_scanSign_31 : decode b_Lex_scanSign 31 = .ok (.bipush 62, 2) := by decide +kernel
theorem d_Lex_scanSign_33 : decode b_Lex_scanSign 33 = .ok (.if_icmp .ne 7, 3) := by decide +kernel
theorem d_Lex_scanSign_36 : decode b_Lex_scanSign 36 = .ok (.iconst 1, 1) := by decide +kernel
theorem d_Lex_scanSign_37 : decode b_Lex_scanSign 37 = .ok (.goto 4, 3) := by decide +kernel
theorem d_Lex_scanSign_40 : decode b_Lex_scanSign 40 = .ok (.iconst 0, 1) := by decide +kernel
theorem d_Lex_scanSign_41 : decode b_Lex_scanSign 41 = .ok (.istore_n 3, 1) := by decide +kernel
theorem d_Lex_scanSign_42 : decode b_Lex_scanSign 42 = .ok (.aload_n 0, 1) := by decide +kernel
theorem d_Lex_scanSign_43 : decode b_Lex_scanSign 43 = .ok (.dup, 1) := by decide +kernel
theorem d_Lex_scanSign_44 : decode b_Lex_scanSign 44 = .ok (.getfield 28, 3) := by decide +kernel
theorem d_Lex_scanSign_47 : decode b_Lex_scanSign 47 = .ok (.iload_n 3, 1) := by decide +kernel
theorem d_Lex_scanSign_48 : decode b_Lex_scanSign 48 = .ok (.ifCond .eq 7, 3) := by decide +kernel
