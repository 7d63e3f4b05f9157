theorem d_Lex_begin_59 : decode b_Lex_begin 59 = .ok (.iadd, 1) := by decide +kernel
theorem d_Lex_begin_60 : decode b_Lex_begin 60 = .ok (.invokevirtual 49, 3) := by decide +kernel
theorem d_Lex_begin_63 : decode b_Lex_begin 63 = .ok (.iinc 1 1, 3) := by decide +kernel
theorem d_Lex_begin_66 : decode b_Lex_begin 66 = .ok (.goto (-46), 3) := by decide +kernel
theorem d_Lex_begin_69 : decode b_Lex_begin 69 = .ok (.aload_n 0, 1) := by decide +kernel
theorem d_Lex_begin_70 : decode b_Lex_begin 70 = .ok (.iconst (-1), 1) := by decide +kernel
theorem d_Lex_begin_71 : decode b_Lex_begin 71 = .ok (.putfield 52, 3) := by decide +kernel
theorem d_Lex_begin_74 : decode b_Lex_begin 74 = .ok (.aload_n 0, 1) := by decide +kernel
theorem d_Lex_begin_75 : decode b_Lex_begin 75 = .ok (.invokevirtual 55, 3) := by decide +kernel
theorem d_Lex_begin_78 : decode b_Lex_begin 78 = .ok (.return_, 1) := by decide +kernel
theorem d_Lex_kind_0 : decode b_Lex_kind 0 = .ok (.aload_n 0, 1) := by decide +kernel
theorem d_Lex_kind_1 : decode b_Lex_kind 1 = .ok (.getfield 32, 3) := by decide +kernel
theorem d_Lex_kind_4 : decode b_Lex_kind 4 = .ok (.ireturn, 1) := by decide +kernel
theorem d_Lex_start_0 : decode b_Lex_start 0 = .ok (.aload_n 0, 1) := by decide +kernel
theorem d_Lex_start_1 : decode b_Lex_start 1 = .ok (.getfield 39, 3) := by decide +kernel
theorem d_Lex_start_4 : decode b_Lex_start 4 = .ok (.ireturn, 1) := by decide +kernel
theorem d_Lex_lengthOf_0 : decode b_Lex_lengthOf 0 = .ok (.iload_n 0, 1) := by decide +kernel
theorem d_Lex_lengthOf_1 : decode b_Lex_lengthOf 1 = .ok (.bipush 32, 2) := by decide +kernel
theorem d_Lex_lengthOf_3 : decode b_Lex_lengthOf 3 = .ok (.irem, 1) := by decide +kernel
theorem d_Lex_lengthOf_4 : decode b_Lex_lengthOf 4 = .ok (.ireturn, 1) := by decide +kernel
theorem d_Lex_startOf_0 : decode b_Lex_startOf 0 = .ok (.iload_n 0, 1) := by decide +kernel
theorem d_Lex_startOf_1 : decode b_Lex_startOf 1 = .ok (.bipush 32, 2) := by decide +kernel
theorem d_Lex_startOf_3 : decode b_Lex_startOf 3 = .ok (.idiv, 1) := by decide +kernel
theorem d_Lex_startOf_4 : decode b_Lex_startOf 4 = .ok (.ireturn, 1) := by decide +kernel
theorem d_Lex_standsAt_0 : decode b_Lex_standsAt 0 = .ok (.iload_n 2, 1) := by decide +kernel
theorem d_Lex_standsAt_1 : decode b_Lex_standsAt 1 = .ok (.invokestatic 64, 3) := by decide +kernel
theorem d_Lex_standsAt_4 : decode b_Lex_standsAt 4 = .ok (.aload_n 0, 1) := by decide +kernel
theorem d_Lex_standsAt_5 : decode b_Lex_standsAt 5 = .ok (.getfield 42, 3) := by decide +kernel
theorem d_Lex_standsAt_8 : decode b_Lex_standsAt 8 = .ok (.if_icmp .ne 7, 3) := by decide +kernel
theorem d_Lex_standsAt_11 : decode b_Lex_standsAt 11 = .ok (.iconst 1, 1) := by decide +kernel
theorem d_Lex_standsAt_12 : decode b_Lex_standsAt 12 = .ok (.goto 4, 3) := by decide +kernel
theorem d_Lex_standsAt_15 : decode b_Lex_standsAt 15 = .ok (.iconst 0, 1) := by decide +kernel
theorem d_Lex_standsAt_16 : decode b_Lex_standsAt 16 = .ok (.istore_n 3, 1) := by decide +kernel
theorem d_Lex_standsAt_17 : decode b_Lex_standsAt 17 = .ok (.iconst 0, 1) := by decide +kernel
theorem d_Lex_standsAt_18 : decode b_Lex_standsAt 18 = .ok (.istore 4, 2) := by decide +kernel
theorem d_Lex_standsAt_20 : decode b_Lex_standsAt 20 = .ok (.iload_n 3, 1) := by decide +kernel
theorem d_Lex_standsAt_21 : decode b_Lex_standsAt 21 = .ok (.ifCond .eq 52, 3) := by decide +kernel
theorem d_Lex_standsAt_24 : decode b_Lex_standsAt 24 = .ok (.iload 4, 2) := by decide +kernel
theorem d_Lex_standsAt_26 : decode b_Lex_standsAt 26 = .ok (.aload_n 0, 1) := by decide +kernel
theorem d_Lex_standsAt_27 : decode b_Lex_standsAt 27 = .ok (.getfield 42, 3) := by decide +kernel
theorem d_Lex_standsAt_30 : decode b_Lex_standsAt 30 = .ok (.if_icmp .ge 43, 3) := by decide +kernel
theorem d_Lex_standsAt_33 : decode b_Lex_standsAt 33 = .ok (.aload_n 1, 1) := by decide +kernel
theorem d_Lex_standsAt_34 : decode b_Lex_standsAt 34 = .ok (.iload_n 2, 1) := by decide +kernel
theorem d_Lex_standsAt_35 : decode b_Lex_standsAt 35 = .ok (.invokestatic 67, 3) := by decide +kernel
theorem d_Lex_standsAt_38 : decode b_Lex_standsAt 38 = .ok (.iload 4, 2) := by decide +kernel
theorem d_Lex_standsAt_40 : decode b_Lex_standsAt 40 = .ok (.iadd, 1) := by decide +kernel
theorem d_Lex_standsAt_41 : decode b_Lex_standsAt 41 = .ok (.invokevirtual 58, 3) := by decide +kernel
theorem d_Lex_standsAt_44 : decode b_Lex_standsAt 44 = .ok (.aload_n 0, 1) := by decide +kernel
theorem d_Lex_standsAt_45 : decode b_Lex_standsAt 45 = .ok (.getfield 9, 3) := by decide +kernel
theorem d_Lex_standsAt_48 : decode b_Lex_standsAt 48 = .ok (.aload_n 0, 1) := by decide +kernel
theorem d_Lex_standsAt_49 : decode b_Lex_standsAt 49 = .ok (.getfield 39, 3) := by decide +kernel
theorem d_Lex_standsAt_52 : decode b_Lex_standsAt 52 = .ok (.iload 4, 2) := by decide +kernel
theorem d_Lex_standsAt_54 : decode b_Lex_standsAt 54 = .ok (.iadd, 1) := by decide +kernel
theorem d_Lex_standsAt_55 : decode b_Lex_standsAt 55 = .ok (.invokevirtual 58, 3) := by decide +kernel
theorem d_Lex_standsAt_58 : decode b_Lex_standsAt 58 = .ok (.if_icmp .ne 7, 3) := by decide +kernel
theorem d_Lex_standsAt_61 : decode b_Lex_standsAt 61 = .ok (.iconst 1, 1) := by decide +kernel
theorem d_Lex_standsAt_62 : decode b_Lex_standsAt 62 = .ok (.goto 4, 3) := by decide +kernel
theorem d_Lex_standsAt_65 : decode b_Lex_standsAt 65 = .ok (.iconst 0, 1) := by decide +kernel
theorem d_Lex_standsAt_66 : decode b_Lex_standsAt 66 = .ok (.istore_n 3, 1) := by decide +kernel
theorem d_Lex_standsAt_67 : decode b_Lex_standsAt 67 = .ok (.iinc 4 1, 3) := by decide +kernel
