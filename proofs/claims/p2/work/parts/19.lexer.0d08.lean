theorem d_Lex_advance_5 : decode b_Lex_advance 5 = .ok (.iconst 1, 1) := by decide +kernel
theorem d_Lex_advance_6 : decode b_Lex_advance 6 = .ok (.iadd, 1) := by decide +kernel
theorem d_Lex_advance_7 : decode b_Lex_advance 7 = .ok (.putfield 52, 3) := by decide +kernel
theorem d_Lex_advance_10 : decode b_Lex_advance 10 = .ok (.aload_n 0, 1) := by decide +kernel
theorem d_Lex_advance_11 : decode b_Lex_advance 11 = .ok (.getfield 21, 3) := by decide +kernel
theorem d_Lex_advance_14 : decode b_Lex_advance 14 = .ok (.aload_n 0, 1) := by decide +kernel
theorem d_Lex_advance_15 : decode b_Lex_advance 15 = .ok (.getfield 52, 3) := by decide +kernel
theorem d_Lex_advance_18 : decode b_Lex_advance 18 = .ok (.invokevirtual 58, 3) := by decide +kernel
theorem d_Lex_advance_21 : decode b_Lex_advance 21 = .ok (.istore_n 1, 1) := by decide +kernel
theorem d_Lex_advance_22 : decode b_Lex_advance 22 = .ok (.aload_n 0, 1) := by decide +kernel
theorem d_Lex_advance_23 : decode b_Lex_advance 23 = .ok (.iload_n 1, 1) := by decide +kernel
theorem d_Lex_advance_24 : decode b_Lex_advance 24 = .ok (.bipush 32, 2) := by decide +kernel
theorem d_Lex_advance_26 : decode b_Lex_advance 26 = .ok (.irem, 1) := by decide +kernel
theorem d_Lex_advance_27 : decode b_Lex_advance 27 = .ok (.putfield 32, 3) := by decide +kernel
theorem d_Lex_advance_30 : decode b_Lex_advance 30 = .ok (.aload_n 0, 1) := by decide +kernel
theorem d_Lex_advance_31 : decode b_Lex_advance 31 = .ok (.iload_n 1, 1) := by decide +kernel
theorem d_Lex_advance_32 : decode b_Lex_advance 32 = .ok (.bipush 32, 2) := by decide +kernel
theorem d_Lex_advance_34 : decode b_Lex_advance 34 = .ok (.idiv, 1) := by decide +kernel
theorem d_Lex_advance_35 : decode b_Lex_advance 35 = .ok (.bipush 32, 2) := by decide +kernel
theorem d_Lex_advance_37 : decode b_Lex_advance 37 = .ok (.irem, 1) := by decide +kernel
theorem d_Lex_advance_38 : decode b_Lex_advance 38 = .ok (.putfield 42, 3) := by decide +kernel
theorem d_Lex_advance_41 : decode b_Lex_advance 41 = .ok (.aload_n 0, 1) := by decide +kernel
theorem d_Lex_advance_42 : decode b_Lex_advance 42 = .ok (.iload_n 1, 1) := by decide +kernel
theorem d_Lex_advance_43 : decode b_Lex_advance 43 = .ok (.bipush 32, 2) := by decide +kernel
theorem d_Lex_advance_45 : decode b_Lex_advance 45 = .ok (.idiv, 1) := by decide +kernel
theorem d_Lex_advance_46 : decode b_Lex_advance 46 = .ok (.bipush 32, 2) := by decide +kernel
theorem d_Lex_advance_48 : decode b_Lex_advance 48 = .ok (.idiv, 1) := by decide +kernel
theorem d_Lex_advance_49 : decode b_Lex_advance 49 = .ok (.putfield 39, 3) := by decide +kernel
theorem d_Lex_advance_52 : decode b_Lex_advance 52 = .ok (.return_, 1) := by decide +kernel
theorem d_Lex_begin_0 : decode b_Lex_begin 0 = .ok (.aload_n 0, 1) := by decide +kernel
theorem d_Lex_begin_1 : decode b_Lex_begin 1 = .ok (.getfield 21, 3) := by decide +kernel
theorem d_Lex_begin_4 : decode b_Lex_begin 4 = .ok (.iconst 0, 1) := by decide +kernel
theorem d_Lex_begin_5 : decode b_Lex_begin 5 = .ok (.invokevirtual 24, 3) := by decide +kernel
theorem d_Lex_begin_8 : decode b_Lex_begin 8 = .ok (.aload_n 0, 1) := by decide +kernel
theorem d_Lex_begin_9 : decode b_Lex_begin 9 = .ok (.iconst 0, 1) := by decide +kernel
theorem d_Lex_begin_10 : decode b_Lex_begin 10 = .ok (.putfield 28, 3) := by decide +kernel
theorem d_Lex_begin_13 : decode b_Lex_begin 13 = .ok (.aload_n 0, 1) := by decide +kernel
theorem d_Lex_begin_14 : decode b_Lex_begin 14 = .ok (.iconst 1, 1) := by decide +kernel
theorem d_Lex_begin_15 : decode b_Lex_begin 15 = .ok (.putfield 32, 3) := by decide +kernel
theorem d_Lex_begin_18 : decode b_Lex_begin 18 = .ok (.iconst 0, 1) := by decide +kernel
theorem d_Lex_begin_19 : decode b_Lex_begin 19 = .ok (.istore_n 1, 1) := by decide +kernel
theorem d_Lex_begin_20 : decode b_Lex_begin 20 = .ok (.iload_n 1, 1) := by decide +kernel
theorem d_Lex_begin_21 : decode b_Lex_begin 21 = .ok (.ldc 35, 2) := by decide +kernel
theorem d_Lex_begin_23 : decode b_Lex_begin 23 = .ok (.if_icmp .gt 46, 3) := by decide +kernel
theorem d_Lex_begin_26 : decode b_Lex_begin 26 = .ok (.aload_n 0, 1) := by decide +kernel
theorem d_Lex_begin_27 : decode b_Lex_begin 27 = .ok (.getfield 32, 3) := by decide +kernel
theorem d_Lex_begin_30 : decode b_Lex_begin 30 = .ok (.ifCond .eq 39, 3) := by decide +kernel
theorem d_Lex_begin_33 : decode b_Lex_begin 33 = .ok (.aload_n 0, 1) := by decide +kernel
theorem d_Lex_begin_34 : decode b_Lex_begin 34 = .ok (.invokevirtual 36, 3) := by decide +kernel
theorem d_Lex_begin_37 : decode b_Lex_begin 37 = .ok (.aload_n 0, 1) := by decide +kernel
theorem d_Lex_begin_38 : decode b_Lex_begin 38 = .ok (.getfield 21, 3) := by decide +kernel
theorem d_Lex_begin_41 : decode b_Lex_begin 41 = .ok (.aload_n 0, 1) := by decide +kernel
theorem d_Lex_begin_42 : decode b_Lex_begin 42 = .ok (.getfield 39, 3) := by decide +kernel
theorem d_Lex_begin_45 : decode b_Lex_begin 45 = .ok (.aload_n 0, 1) := by decide +kernel
theorem d_Lex_begin_46 : decode b_Lex_begin 46 = .ok (.getfield 42, 3) := by decide +kernel
theorem d_Lex_begin_49 : decode b_Lex_begin 49 = .ok (.invokestatic 45, 3) := by decide +kernel
theorem d_Lex_begin_52 : decode b_Lex_begin 52 = .ok (.bipush 32, 2) := by decide +kernel
theorem d_Lex_begin_54 : decode b_Lex_begin 54 = .ok (.imul, 1) := by decide +kernel
theorem d_Lex_begin_55 : decode b_Lex_begin 55 = .ok (.aload_n 0, 1) := by decide +kernel
theorem d_Lex_begin_56 : decode b_Lex_begin 56 = .ok (.getfield 32, 3) := by decide +kernel
