theorem d_Lex_standsAt_70 : decode b_Lex_standsAt 70 = .ok (.goto (-50), 3) := by decide +kernel
theorem d_Lex_standsAt_73 : decode b_Lex_standsAt 73 = .ok (.iload_n 3, 1) := by decide +kernel
theorem d_Lex_standsAt_74 : decode b_Lex_standsAt 74 = .ok (.ireturn, 1) := by decide +kernel
theorem d_Lex_length_0 : decode b_Lex_length 0 = .ok (.aload_n 0, 1) := by decide +kernel
theorem d_Lex_length_1 : decode b_Lex_length 1 = .ok (.getfield 42, 3) := by decide +kernel
theorem d_Lex_length_4 : decode b_Lex_length 4 = .ok (.ireturn, 1) := by decide +kernel
theorem d_Lex_sign_0 : decode b_Lex_sign 0 = .ok (.aload_n 0, 1) := by decide +kernel
theorem d_Lex_sign_1 : decode b_Lex_sign 1 = .ok (.getfield 9, 3) := by decide +kernel
theorem d_Lex_sign_4 : decode b_Lex_sign 4 = .ok (.aload_n 0, 1) := by decide +kernel
theorem d_Lex_sign_5 : decode b_Lex_sign 5 = .ok (.getfield 39, 3) := by decide +kernel
theorem d_Lex_sign_8 : decode b_Lex_sign 8 = .ok (.iload_n 1, 1) := by decide +kernel
theorem d_Lex_sign_9 : decode b_Lex_sign 9 = .ok (.iadd, 1) := by decide +kernel
theorem d_Lex_sign_10 : decode b_Lex_sign 10 = .ok (.invokevirtual 58, 3) := by decide +kernel
theorem d_Lex_sign_13 : decode b_Lex_sign 13 = .ok (.ireturn, 1) := by decide +kernel
theorem d_Lex_word_0 : decode b_Lex_word 0 = .ok (.aload_n 0, 1) := by decide +kernel
theorem d_Lex_word_1 : decode b_Lex_word 1 = .ok (.getfield 39, 3) := by decide +kernel
theorem d_Lex_word_4 : decode b_Lex_word 4 = .ok (.aload_n 0, 1) := by decide +kernel
theorem d_Lex_word_5 : decode b_Lex_word 5 = .ok (.getfield 42, 3) := by decide +kernel
theorem d_Lex_word_8 : decode b_Lex_word 8 = .ok (.invokestatic 45, 3) := by decide +kernel
theorem d_Lex_word_11 : decode b_Lex_word 11 = .ok (.ireturn, 1) := by decide +kernel
theorem d_Lex_value_0 : decode b_Lex_value 0 = .ok (.iconst 0, 1) := by decide +kernel
theorem d_Lex_value_1 : decode b_Lex_value 1 = .ok (.istore_n 1, 1) := by decide +kernel
theorem d_Lex_value_2 : decode b_Lex_value 2 = .ok (.iconst 0, 1) := by decide +kernel
theorem d_Lex_value_3 : decode b_Lex_value 3 = .ok (.istore_n 2, 1) := by decide +kernel
theorem d_Lex_value_4 : decode b_Lex_value 4 = .ok (.iload_n 2, 1) := by decide +kernel
theorem d_Lex_value_5 : decode b_Lex_value 5 = .ok (.aload_n 0, 1) := by decide +kernel
theorem d_Lex_value_6 : decode b_Lex_value 6 = .ok (.getfield 42, 3) := by decide +kernel
theorem d_Lex_value_9 : decode b_Lex_value 9 = .ok (.if_icmp .ge 23, 3) := by decide +kernel
theorem d_Lex_value_12 : decode b_Lex_value 12 = .ok (.bipush 10, 2) := by decide +kernel
theorem d_Lex_value_14 : decode b_Lex_value 14 = .ok (.iload_n 1, 1) := by decide +kernel
theorem d_Lex_value_15 : decode b_Lex_value 15 = .ok (.imul, 1) := by decide +kernel
theorem d_Lex_value_16 : decode b_Lex_value 16 = .ok (.aload_n 0, 1) := by decide +kernel
theorem d_Lex_value_17 : decode b_Lex_value 17 = .ok (.iload_n 2, 1) := by decide +kernel
theorem d_Lex_value_18 : decode b_Lex_value 18 = .ok (.invokevirtual 61, 3) := by decide +kernel
theorem d_Lex_value_21 : decode b_Lex_value 21 = .ok (.iadd, 1) := by decide +kernel
theorem d_Lex_value_22 : decode b_Lex_value 22 = .ok (.bipush 48, 2) := by decide +kernel
theorem d_Lex_value_24 : decode b_Lex_value 24 = .ok (.isub, 1) := by decide +kernel
theorem d_Lex_value_25 : decode b_Lex_value 25 = .ok (.istore_n 1, 1) := by decide +kernel
theorem d_Lex_value_26 : decode b_Lex_value 26 = .ok (.iinc 2 1, 3) := by decide +kernel
theorem d_Lex_value_29 : decode b_Lex_value 29 = .ok (.goto (-25), 3) := by decide +kernel
theorem d_Lex_value_32 : decode b_Lex_value 32 = .ok (.iload_n 1, 1) := by decide +kernel
theorem d_Lex_value_33 : decode b_Lex_value 33 = .ok (.ireturn, 1) := by decide +kernel
