theorem d_Par_refuse_0 : decode b_Par_refuse 0 = .ok (.aload_n 0, 1) := by decide +kernel
theorem d_Par_refuse_1 : decode b_Par_refuse 1 = .ok (.getfield 19, 3) := by decide +kernel
theorem d_Par_refuse_4 : decode b_Par_refuse 4 = .ok (.iconst 1, 1) := by decide +kernel
theorem d_Par_refuse_5 : decode b_Par_refuse 5 = .ok (.aload_n 0, 1) := by decide +kernel
theorem d_Par_refuse_6 : decode b_Par_refuse 6 = .ok (.getfield 15, 3) := by decide +kernel
theorem d_Par_refuse_9 : decode b_Par_refuse 9 = .ok (.invokevirtual 190, 3) := by decide +kernel
theorem d_Par_refuse_12 : decode b_Par_refuse 12 = .ok (.invokevirtual 193, 3) := by decide +kernel
theorem d_Par_refuse_15 : decode b_Par_refuse 15 = .ok (.return_, 1) := by decide +kernel
theorem d_Par_takeNewName_0 : decode b_Par_takeNewName 0 = .ok (.aload_n 0, 1) := by decide +kernel
theorem d_Par_takeNewName_1 : decode b_Par_takeNewName 1 = .ok (.getfield 15, 3) := by decide +kernel
theorem d_Par_takeNewName_4 : decode b_Par_takeNewName 4 = .ok (.invokevirtual 160, 3) := by decide +kernel
theorem d_Par_takeNewName_7 : decode b_Par_takeNewName 7 = .ok (.iconst 2, 1) := by decide +kernel
theorem d_Par_takeNewName_8 : decode b_Par_takeNewName 8 = .ok (.if_icmp .eq 7, 3) := by decide +kernel
theorem d_Par_takeNewName_11 : decode b_Par_takeNewName 11 = .ok (.aload_n 0, 1) := by decide +kernel
theorem d_Par_takeNewName_12 : decode b_Par_takeNewName 12 = .ok (.invokevirtual 165, 3) := by decide +kernel
theorem d_Par_takeNewName_15 : decode b_Par_takeNewName 15 = .ok (.aload_n 0, 1) := by decide +kernel
theorem d_Par_takeNewName_16 : decode b_Par_takeNewName 16 = .ok (.getfield 27, 3) := by decide +kernel
theorem d_Par_takeNewName_19 : decode b_Par_takeNewName 19 = .ok (.aload_n 0, 1) := by decide +kernel
theorem d_Par_takeNewName_20 : decode b_Par_takeNewName 20 = .ok (.getfield 15, 3) := by decide +kernel
theorem d_Par_takeNewName_23 : decode b_Par_takeNewName 23 = .ok (.sipush 300, 3) := by decide +kernel
theorem d_Par_takeNewName_26 : decode b_Par_takeNewName 26 = .ok (.invokevirtual 196, 3) := by decide +kernel
theorem d_Par_takeNewName_29 : decode b_Par_takeNewName 29 = .ok (.iconst (-1), 1) := by decide +kernel
theorem d_Par_takeNewName_30 : decode b_Par_takeNewName 30 = .ok (.if_icmp .eq 18, 3) := by decide +kernel
theorem d_Par_takeNewName_33 : decode b_Par_takeNewName 33 = .ok (.aload_n 0, 1) := by decide +kernel
theorem d_Par_takeNewName_34 : decode b_Par_takeNewName 34 = .ok (.getfield 19, 3) := by decide +kernel
theorem d_Par_takeNewName_37 : decode b_Par_takeNewName 37 = .ok (.iconst 2, 1) := by decide +kernel
theorem d_Par_takeNewName_38 : decode b_Par_takeNewName 38 = .ok (.aload_n 0, 1) := by decide +kernel
theorem d_Par_takeNewName_39 : decode b_Par_takeNewName 39 = .ok (.getfield 15, 3) := by decide +kernel
theorem d_Par_takeNewName_42 : decode b_Par_takeNewName 42 = .ok (.invokevirtual 190, 3) := by decide +kernel
theorem d_Par_takeNewName_45 : decode b_Par_takeNewName 45 = .ok (.invokevirtual 193, 3) := by decide +kernel
theorem d_Par_takeNewName_48 : decode b_Par_takeNewName 48 = .ok (.aload_n 0, 1) := by decide +kernel
theorem d_Par_takeNewName_49 : decode b_Par_takeNewName 49 = .ok (.getfield 27, 3) := by decide +kernel
theorem d_Par_takeNewName_52 : decode b_Par_takeNewName 52 = .ok (.invokevirtual 92, 3) := by decide +kernel
theorem d_Par_takeNewName_55 : decode b_Par_takeNewName 55 = .ok (.sipush 300, 3) := by decide +kernel
theorem d_Par_takeNewName_58 : decode b_Par_takeNewName 58 = .ok (.if_icmp .lt 12, 3) := by decide +kernel
theorem d_Par_takeNewName_61 : decode b_Par_takeNewName 61 = .ok (.aload_n 0, 1) := by decide +kernel
theorem d_Par_takeNewName_62 : decode b_Par_takeNewName 62 = .ok (.getfield 19, 3) := by decide +kernel
theorem d_Par_takeNewName_65 : decode b_Par_takeNewName 65 = .ok (.bipush 10, 2) := by decide +kernel
theorem d_Par_takeNewName_67 : decode b_Par_takeNewName 67 = .ok (.invokevirtual 154, 3) := by decide +kernel
theorem d_Par_takeNewName_70 : decode b_Par_takeNewName 70 = .ok (.aload_n 0, 1) := by decide +kernel
theorem d_Par_takeNewName_71 : decode b_Par_takeNewName 71 = .ok (.getfield 27, 3) := by decide +kernel
theorem d_Par_takeNewName_74 : decode b_Par_takeNewName 74 = .ok (.iload_n 1, 1) := by decide +kernel
theorem d_Par_takeNewName_75 : decode b_Par_takeNewName 75 = .ok (.aload_n 0, 1) := by decide +kernel
theorem d_Par_takeNewName_76 : decode b_Par_takeNewName 76 = .ok (.getfield 15, 3) := by decide +kernel
theorem d_Par_takeNewName_79 : decode b_Par_takeNewName 79 = .ok (.invokevirtual 200, 3) := by decide +kernel
theorem d_Par_takeNewName_82 : decode b_Par_takeNewName 82 = .ok (.istore_n 2, 1) := by decide +kernel
theorem d_Par_takeNewName_83 : decode b_Par_takeNewName 83 = .ok (.aload_n 0, 1) := by decide +kernel
theorem d_Par_takeNewName_84 : decode b_Par_takeNewName 84 = .ok (.getfield 15, 3) := by decide +kernel
theorem d_Par_takeNewName_87 : decode b_Par_takeNewName 87 = .ok (.invokevirtual 168, 3) := by decide +kernel
theorem d_Par_takeNewName_90 : decode b_Par_takeNewName 90 = .ok (.iload_n 2, 1) := by decide +kernel
theorem d_Par_takeNewName_91 : decode b_Par_takeNewName 91 = .ok (.ireturn, 1) := by decide +kernel
theorem d_Par_expect_0 : decode b_Par_expect 0 = .ok (.aload_n 0, 1) := by decide +kernel
theorem d_Par_expect_1 : decode b_Par_expect 1 = .ok (.getfield 15, 3) := by decide +kernel
theorem d_Par_expect_4 : decode b_Par_expect 4 = .ok (.invokevirtual 160, 3) := by decide +kernel
theorem d_Par_expect_7 : decode b_Par_expect 7 = .ok (.iload_n 1, 1) := by decide +kernel
theorem d_Par_expect_8 : decode b_Par_expect 8 = .ok (.if_icmp .eq 7, 3) := by decide +kernel
theorem d_Par_expect_11 : decode b_Par_expect 11 = .ok (.aload_n 0, 1) := by decide +kernel
theorem d_Par_expect_12 : decode b_Par_expect 12 = .ok (.invokevirtual 165, 3) := by decide +kernel
theorem d_Par_expect_15 : decode b_Par_expect 15 = .ok (.aload_n 0, 1) := by decide +kernel
theorem d_Par_expect_16 : decode b_Par_expect 16 = .ok (.getfield 15, 3) := by decide +kernel
theorem d_Par_expect_19 : decode b_Par_expect 19 = .ok (.invokevirtual 168, 3) := by decide +kernel
theorem d_Par_expect_22 : decode b_Par_expect 22 = .ok (.return_, 1) := by decide +kernel
theorem d_Par_hold_0 : decode b_Par_hold 0 = .ok (.aload_n 0, 1) := by decide +kernel
theorem d_Par_hold_1 : decode b_Par_hold 1 = .ok (.getfield 37, 3) := by decide +kernel
theorem d_Par_hold_4 : decode b_Par_hold 4 = .ok (.iload_n 1, 1) := by decide +kernel
theorem d_Par_hold_5 : decode b_Par_hold 5 = .ok (.invokevirtual 204, 3) := by decide +kernel
theorem d_Par_hold_8 : decode b_Par_hold 8 = .ok (.aload_n 0, 1) := by decide +kernel
theorem d_Par_hold_9 : decode b_Par_hold 9 = .ok (.getfield 37, 3) := by decide +kernel
theorem d_Par_hold_12 : decode b_Par_hold 12 = .ok (.iload_n 2, 1) := by decide +kernel
theorem d_Par_hold_13 : decode b_Par_hold 13 = .ok (.invokevirtual 204, 3) := by decide +kernel
theorem d_Par_hold_16 : decode b_Par_hold 16 = .ok (.aload_n 0, 1) := by decide +kernel
theorem d_Par_hold_17 : decode b_Par_hold 17 = .ok (.getfield 37, 3) := by decide +kernel
theorem d_Par_hold_20 : decode b_Par_hold 20 = .ok (.iload_n 3, 1) := by decide +kernel
theorem d_Par_hold_21 : decode b_Par_hold 21 = .ok (.invokevirtual 204, 3) := by decide +kernel
theorem d_Par_hold_24 : decode b_Par_hold 24 = .ok (.return_, 1) := by decide +kernel
theorem d_Par_await_0 : decode b_Par_await 0 = .ok (.aload_n 0, 1) := by decide +kernel
theorem d_Par_await_1 : decode b_Par_await 1 = .ok (.iload_n 1, 1) := by decide +kernel
theorem d_Par_await_2 : decode b_Par_await 2 = .ok (.iload_n 2, 1) := by decide +kernel
theorem d_Par_await_3 : decode b_Par_await 3 = .ok (.iload_n 3, 1) := by decide +kernel
theorem d_Par_await_4 : decode b_Par_await 4 = .ok (.invokevirtual 187, 3) := by decide +kernel
theorem d_Par_await_7 : decode b_Par_await 7 = .ok (.aload_n 0, 1) := by decide +kernel
theorem d_Par_await_8 : decode b_Par_await 8 = .ok (.iconst 1, 1) := by decide +kernel
theorem d_Par_await_9 : decode b_Par_await 9 = .ok (.putfield 103, 3) := by decide +kernel
theorem d_Par_await_12 : decode b_Par_await 12 = .ok (.return_, 1) := by decide +kernel
theorem d_Par_beginConstant_0 : decode b_Par_beginConstant 0 = .ok (.aload_n 0, 1) := by decide +kernel
theorem d_Par_beginConstant_1 : decode b_Par_beginConstant 1 = .ok (.aload_n 0, 1) := by decide +kernel
theorem d_Par_beginConstant_2 : decode b_Par_beginConstant 2 = .ok (.iload_n 1, 1) := by decide +kernel
theorem d_Par_beginConstant_3 : decode b_Par_beginConstant 3 = .ok (.invokevirtual 181, 3) := by decide +kernel
theorem d_Par_beginConstant_6 : decode b_Par_beginConstant 6 = .ok (.putfield 53, 3) := by decide +kernel
theorem d_Par_beginConstant_9 : decode b_Par_beginConstant 9 = .ok (.aload_n 0, 1) := by decide +kernel
theorem d_Par_beginConstant_10 : decode b_Par_beginConstant 10 = .ok (.bipush 21, 2) := by decide +kernel
theorem d_Par_beginConstant_12 : decode b_Par_beginConstant 12 = .ok (.invokevirtual 184, 3) := by decide +kernel
theorem d_Par_beginConstant_15 : decode b_Par_beginConstant 15 = .ok (.aload_n 0, 1) := by decide +kernel
theorem d_Par_beginConstant_16 : decode b_Par_beginConstant 16 = .ok (.bipush 12, 2) := by decide +kernel
theorem d_Par_beginConstant_18 : decode b_Par_beginConstant 18 = .ok (.iload_n 1, 1) := by decide +kernel
theorem d_Par_beginConstant_19 : decode b_Par_beginConstant 19 = .ok (.iconst 0, 1) := by decide +kernel
theorem d_Par_beginConstant_20 : decode b_Par_beginConstant 20 = .ok (.invokevirtual 177, 3) := by decide +kernel
theorem d_Par_beginConstant_23 : decode b_Par_beginConstant 23 = .ok (.return_, 1) := by decide +kernel
theorem d_Par_beginFamily_0 : decode b_Par_beginFamily 0 = .ok (.aload_n 0, 1) := by decide +kernel
theorem d_Par_beginFamily_1 : decode b_Par_beginFamily 1 = .ok (.bipush 32, 2) := by decide +kernel
theorem d_Par_beginFamily_3 : decode b_Par_beginFamily 3 = .ok (.putfield 49, 3) := by decide +kernel
theorem d_Par_beginFamily_6 : decode b_Par_beginFamily 6 = .ok (.aload_n 0, 1) := by decide +kernel
theorem d_Par_beginFamily_7 : decode b_Par_beginFamily 7 = .ok (.aload_n 0, 1) := by decide +kernel
theorem d_Par_beginFamily_8 : decode b_Par_beginFamily 8 = .ok (.iconst 3, 1) := by decide +kernel
theorem d_Par_beginFamily_9 : decode b_Par_beginFamily 9 = .ok (.invokevirtual 181, 3) := by decide +kernel
theorem d_Par_beginFamily_12 : decode b_Par_beginFamily 12 = .ok (.putfield 53, 3) := by decide +kernel
theorem d_Par_beginFamily_15 : decode b_Par_beginFamily 15 = .ok (.aload_n 0, 1) := by decide +kernel
theorem d_Par_beginFamily_16 : decode b_Par_beginFamily 16 = .ok (.getfield 15, 3) := by decide +kernel
theorem d_Par_beginFamily_19 : decode b_Par_beginFamily 19 = .ok (.invokevirtual 160, 3) := by decide +kernel
theorem d_Par_beginFamily_22 : decode b_Par_beginFamily 22 = .ok (.bipush 17, 2) := by decide +kernel
theorem d_Par_beginFamily_24 : decode b_Par_beginFamily 24 = .ok (.if_icmp .ne 19, 3) := by decide +kernel
theorem d_Par_beginFamily_27 : decode b_Par_beginFamily 27 = .ok (.aload_n 0, 1) := by decide +kernel
theorem d_Par_beginFamily_28 : decode b_Par_beginFamily 28 = .ok (.bipush 8, 2) := by decide +kernel
theorem d_Par_beginFamily_30 : decode b_Par_beginFamily 30 = .ok (.iconst 0, 1) := by decide +kernel
theorem d_Par_beginFamily_31 : decode b_Par_beginFamily 31 = .ok (.iconst 0, 1) := by decide +kernel
theorem d_Par_beginFamily_32 : decode b_Par_beginFamily 32 = .ok (.invokevirtual 187, 3) := by decide +kernel
theorem d_Par_beginFamily_35 : decode b_Par_beginFamily 35 = .ok (.aload_n 0, 1) := by decide +kernel
theorem d_Par_beginFamily_36 : decode b_Par_beginFamily 36 = .ok (.iconst 3, 1) := by decide +kernel
theorem d_Par_beginFamily_37 : decode b_Par_beginFamily 37 = .ok (.putfield 103, 3) := by decide +kernel
theorem d_Par_beginFamily_40 : decode b_Par_beginFamily 40 = .ok (.goto 17, 3) := by decide +kernel
theorem d_Par_beginFamily_43 : decode b_Par_beginFamily 43 = .ok (.aload_n 0, 1) := by decide +kernel
theorem d_Par_beginFamily_44 : decode b_Par_beginFamily 44 = .ok (.bipush 21, 2) := by decide +kernel
theorem d_Par_beginFamily_46 : decode b_Par_beginFamily 46 = .ok (.invokevirtual 184, 3) := by decide +kernel
theorem d_Par_beginFamily_49 : decode b_Par_beginFamily 49 = .ok (.aload_n 0, 1) := by decide +kernel
theorem d_Par_beginFamily_50 : decode b_Par_beginFamily 50 = .ok (.bipush 15, 2) := by decide +kernel
theorem d_Par_beginFamily_52 : decode b_Par_beginFamily 52 = .ok (.iconst 0, 1) := by decide +kernel
theorem d_Par_beginFamily_53 : decode b_Par_beginFamily 53 = .ok (.iconst 0, 1) := by decide +kernel
theorem d_Par_beginFamily_54 : decode b_Par_beginFamily 54 = .ok (.invokevirtual 177, 3) := by decide +kernel
theorem d_Par_beginFamily_57 : decode b_Par_beginFamily 57 = .ok (.return_, 1) := by decide +kernel
theorem d_Par_begin_0 : decode b_Par_begin 0 = .ok (.aload_n 0, 1) := by decide +kernel
theorem d_Par_begin_1 : decode b_Par_begin 1 = .ok (.getfield 15, 3) := by decide +kernel
theorem d_Par_begin_4 : decode b_Par_begin 4 = .ok (.invokevirtual 160, 3) := by decide +kernel
theorem d_Par_begin_7 : decode b_Par_begin 7 = .ok (.istore_n 1, 1) := by decide +kernel
theorem d_Par_begin_8 : decode b_Par_begin 8 = .ok (.iload_n 1, 1) := by decide +kernel
theorem d_Par_begin_9 : decode b_Par_begin 9 = .ok (.iconst 4, 1) := by decide +kernel
theorem d_Par_begin_10 : decode b_Par_begin 10 = .ok (.if_icmp .lt 9, 3) := by decide +kernel
theorem d_Par_begin_13 : decode b_Par_begin 13 = .ok (.iload_n 1, 1) := by decide +kernel
theorem d_Par_begin_14 : decode b_Par_begin 14 = .ok (.bipush 9, 2) := by decide +kernel
theorem d_Par_begin_16 : decode b_Par_begin 16 = .ok (.if_icmp .le 7, 3) := by decide +kernel
theorem d_Par_begin_19 : decode b_Par_begin 19 = .ok (.aload_n 0, 1) := by decide +kernel
theorem d_Par_begin_20 : decode b_Par_begin 20 = .ok (.invokevirtual 165, 3) := by decide +kernel
theorem d_Par_begin_23 : decode b_Par_begin 23 = .ok (.aload_n 0, 1) := by decide +kernel
theorem d_Par_begin_24 : decode b_Par_begin 24 = .ok (.getfield 15, 3) := by decide +kernel
theorem d_Par_begin_27 : decode b_Par_begin 27 = .ok (.invokevirtual 168, 3) := by decide +kernel
theorem d_Par_begin_30 : decode b_Par_begin 30 = .ok (.aload_n 0, 1) := by decide +kernel
theorem d_Par_begin_31 : decode b_Par_begin 31 = .ok (.bipush 28, 2) := by decide +kernel
theorem d_Par_begin_33 : decode b_Par_begin 33 = .ok (.putfield 49, 3) := by decide +kernel
theorem d_Par_begin_36 : decode b_Par_begin 36 = .ok (.iload_n 1, 1) := by decide +kernel
theorem d_Par_begin_37 : decode b_Par_begin 37 = .ok (.tableswitch 77 4 8 #[35, 43, 51, 59, 66], 35) := by decide +kernel
theorem d_Par_begin_72 : decode b_Par_begin 72 = .ok (.aload_n 0, 1) := by decide +kernel
theorem d_Par_begin_73 : decode b_Par_begin 73 = .ok (.iconst 0, 1) := by decide +kernel
theorem d_Par_begin_74 : decode b_Par_begin 74 = .ok (.invokevirtual 171, 3) := by decide +kernel
theorem d_Par_begin_77 : decode b_Par_begin 77 = .ok (.goto 51, 3) := by decide +kernel
theorem d_Par_begin_80 : decode b_Par_begin 80 = .ok (.aload_n 0, 1) := by decide +kernel
theorem d_Par_begin_81 : decode b_Par_begin 81 = .ok (.iconst 1, 1) := by decide +kernel
theorem d_Par_begin_82 : decode b_Par_begin 82 = .ok (.invokevirtual 171, 3) := by decide +kernel
theorem d_Par_begin_85 : decode b_Par_begin 85 = .ok (.goto 43, 3) := by decide +kernel
theorem d_Par_begin_88 : decode b_Par_begin 88 = .ok (.aload_n 0, 1) := by decide +kernel
theorem d_Par_begin_89 : decode b_Par_begin 89 = .ok (.iconst 2, 1) := by decide +kernel
theorem d_Par_begin_90 : decode b_Par_begin 90 = .ok (.invokevirtual 171, 3) := by decide +kernel
theorem d_Par_begin_93 : decode b_Par_begin 93 = .ok (.goto 35, 3) := by decide +kernel
theorem d_Par_begin_96 : decode b_Par_begin 96 = .ok (.aload_n 0, 1) := by decide +kernel
theorem d_Par_begin_97 : decode b_Par_begin 97 = .ok (.invokevirtual 174, 3) := by decide +kernel
theorem d_Par_begin_100 : decode b_Par_begin 100 = .ok (.goto 28, 3) := by decide +kernel
theorem d_Par_begin_103 : decode b_Par_begin 103 = .ok (.aload_n 0, 1) := by decide +kernel
theorem d_Par_begin_104 : decode b_Par_begin 104 = .ok (.bipush 14, 2) := by decide +kernel
theorem d_Par_begin_106 : decode b_Par_begin 106 = .ok (.iconst 0, 1) := by decide +kernel
theorem d_Par_begin_107 : decode b_Par_begin 107 = .ok (.iconst 0, 1) := by decide +kernel
theorem d_Par_begin_108 : decode b_Par_begin 108 = .ok (.invokevirtual 177, 3) := by decide +kernel
theorem d_Par_begin_111 : decode b_Par_begin 111 = .ok (.goto 17, 3) := by decide +kernel
theorem d_Par_begin_114 : decode b_Par_begin 114 = .ok (.aload_n 0, 1) := by decide +kernel
theorem d_Par_begin_115 : decode b_Par_begin 115 = .ok (.bipush 30, 2) := by decide +kernel
theorem d_Par_begin_117 : decode b_Par_begin 117 = .ok (.putfield 49, 3) := by decide +kernel
theorem d_Par_begin_120 : decode b_Par_begin 120 = .ok (.aload_n 0, 1) := by decide +kernel
theorem d_Par_begin_121 : decode b_Par_begin 121 = .ok (.bipush 13, 2) := by decide +kernel
theorem d_Par_begin_123 : decode b_Par_begin 123 = .ok (.iconst 0, 1) := by decide +kernel
theorem d_Par_begin_124 : decode b_Par_begin 124 = .ok (.iconst 0, 1) := by decide +kernel
theorem d_Par_begin_125 : decode b_Par_begin 125 = .ok (.invokevirtual 177, 3) := by decide +kernel
theorem d_Par_begin_128 : decode b_Par_begin 128 = .ok (.return_, 1) := by decide +kernel
theorem d_Par_nest_0 : decode b_Par_nest 0 = .ok (.aload_n 0, 1) := by decide +kernel
theorem d_Par_nest_1 : decode b_Par_nest 1 = .ok (.iload_n 1, 1) := by decide +kernel
theorem d_Par_nest_2 : decode b_Par_nest 2 = .ok (.iload_n 2, 1) := by decide +kernel
theorem d_Par_nest_3 : decode b_Par_nest 3 = .ok (.iload_n 3, 1) := by decide +kernel
theorem d_Par_nest_4 : decode b_Par_nest 4 = .ok (.invokevirtual 177, 3) := by decide +kernel
theorem d_Par_nest_7 : decode b_Par_nest 7 = .ok (.aload_n 0, 1) := by decide +kernel
theorem d_Par_nest_8 : decode b_Par_nest 8 = .ok (.dup, 1) := by decide +kernel
theorem d_Par_nest_9 : decode b_Par_nest 9 = .ok (.getfield 83, 3) := by decide +kernel
theorem d_Par_nest_12 : decode b_Par_nest 12 = .ok (.iconst 1, 1) := by decide +kernel
theorem d_Par_nest_13 : decode b_Par_nest 13 = .ok (.iadd, 1) := by decide +kernel
theorem d_Par_nest_14 : decode b_Par_nest 14 = .ok (.putfield 83, 3) := by decide +kernel
theorem d_Par_nest_17 : decode b_Par_nest 17 = .ok (.return_, 1) := by decide +kernel
theorem d_Par_startTerm_0 : decode b_Par_startTerm 0 = .ok (.aload_n 0, 1) := by decide +kernel
theorem d_Par_startTerm_1 : decode b_Par_startTerm 1 = .ok (.getfield 83, 3) := by decide +kernel
theorem d_Par_startTerm_4 : decode b_Par_startTerm 4 = .ok (.bipush 100, 2) := by decide +kernel
theorem d_Par_startTerm_6 : decode b_Par_startTerm 6 = .ok (.if_icmp .le 18, 3) := by decide +kernel
theorem d_Par_startTerm_9 : decode b_Par_startTerm 9 = .ok (.aload_n 0, 1) := by decide +kernel
theorem d_Par_startTerm_10 : decode b_Par_startTerm 10 = .ok (.getfield 19, 3) := by decide +kernel
theorem d_Par_startTerm_13 : decode b_Par_startTerm 13 = .ok (.iconst 3, 1) := by decide +kernel
theorem d_Par_startTerm_14 : decode b_Par_startTerm 14 = .ok (.aload_n 0, 1) := by decide +kernel
theorem d_Par_startTerm_15 : decode b_Par_startTerm 15 = .ok (.getfield 15, 3) := by decide +kernel
theorem d_Par_startTerm_18 : decode b_Par_startTerm 18 = .ok (.invokevirtual 190, 3) := by decide +kernel
theorem d_Par_startTerm_21 : decode b_Par_startTerm 21 = .ok (.invokevirtual 193, 3) := by decide +kernel
theorem d_Par_startTerm_24 : decode b_Par_startTerm 24 = .ok (.aload_n 0, 1) := by decide +kernel
theorem d_Par_startTerm_25 : decode b_Par_startTerm 25 = .ok (.getfield 15, 3) := by decide +kernel
theorem d_Par_startTerm_28 : decode b_Par_startTerm 28 = .ok (.invokevirtual 160, 3) := by decide +kernel
theorem d_Par_startTerm_31 : decode b_Par_startTerm 31 = .ok (.istore_n 1, 1) := by decide +kernel
theorem d_Par_startTerm_32 : decode b_Par_startTerm 32 = .ok (.aload_n 0, 1) := by decide +kernel
theorem d_Par_startTerm_33 : decode b_Par_startTerm 33 = .ok (.iconst (-1), 1) := by decide +kernel
theorem d_Par_startTerm_34 : decode b_Par_startTerm 34 = .ok (.putfield 210, 3) := by decide +kernel
theorem d_Par_startTerm_37 : decode b_Par_startTerm 37 = .ok (.aload_n 0, 1) := by decide +kernel
theorem d_Par_startTerm_38 : decode b_Par_startTerm 38 = .ok (.iconst 2, 1) := by decide +kernel
theorem d_Par_startTerm_39 : decode b_Par_startTerm 39 = .ok (.putfield 103, 3) := by decide +kernel
theorem d_Par_startTerm_42 : decode b_Par_startTerm 42 = .ok (.iload_n 1, 1) := by decide +kernel
theorem d_Par_startTerm_43 : decode b_Par_startTerm 43 = .ok (.bipush 10, 2) := by decide +kernel
theorem d_Par_startTerm_45 : decode b_Par_startTerm 45 = .ok (.if_icmp .eq 9, 3) := by decide +kernel
theorem d_Par_startTerm_48 : decode b_Par_startTerm 48 = .ok (.iload_n 1, 1) := by decide +kernel
theorem d_Par_startTerm_49 : decode b_Par_startTerm 49 = .ok (.bipush 11, 2) := by decide +kernel
theorem d_Par_startTerm_51 : decode b_Par_startTerm 51 = .ok (.if_icmp .ne 38, 3) := by decide +kernel
theorem d_Par_startTerm_54 : decode b_Par_startTerm 54 = .ok (.aload_n 0, 1) := by decide +kernel
theorem d_Par_startTerm_55 : decode b_Par_startTerm 55 = .ok (.getfield 15, 3) := by decide +kernel
theorem d_Par_startTerm_58 : decode b_Par_startTerm 58 = .ok (.invokevirtual 168, 3) := by decide +kernel
theorem d_Par_startTerm_61 : decode b_Par_startTerm 61 = .ok (.aload_n 0, 1) := by decide +kernel
theorem d_Par_startTerm_62 : decode b_Par_startTerm 62 = .ok (.bipush 8, 2) := by decide +kernel
theorem d_Par_startTerm_64 : decode b_Par_startTerm 64 = .ok (.iload_n 1, 1) := by decide +kernel
theorem d_Par_startTerm_65 : decode b_Par_startTerm 65 = .ok (.bipush 10, 2) := by decide +kernel
theorem d_Par_startTerm_67 : decode b_Par_startTerm 67 = .ok (.if_icmp .ne 8, 3) := by decide +kernel
theorem d_Par_startTerm_70 : decode b_Par_startTerm 70 = .ok (.bipush 7, 2) := by decide +kernel
theorem d_Par_startTerm_72 : decode b_Par_startTerm 72 = .ok (.goto 5, 3) := by decide +kernel
theorem d_Par_startTerm_75 : decode b_Par_startTerm 75 = .ok (.bipush 6, 2) := by decide +kernel
theorem d_Par_startTerm_77 : decode b_Par_startTerm 77 = .ok (.iconst 0, 1) := by decide +kernel
theorem d_Par_startTerm_78 : decode b_Par_startTerm 78 = .ok (.invokevirtual 187, 3) := by decide +kernel
theorem d_Par_startTerm_81 : decode b_Par_startTerm 81 = .ok (.aload_n 0, 1) := by decide +kernel
theorem d_Par_startTerm_82 : decode b_Par_startTerm 82 = .ok (.iconst 3, 1) := by decide +kernel
theorem d_Par_startTerm_83 : decode b_Par_startTerm 83 = .ok (.putfield 103, 3) := by decide +kernel
theorem d_Par_startTerm_86 : decode b_Par_startTerm 86 = .ok (.goto 43, 3) := by decide +kernel
theorem d_Par_startTerm_89 : decode b_Par_startTerm 89 = .ok (.iload_n 1, 1) := by decide +kernel
theorem d_Par_startTerm_90 : decode b_Par_startTerm 90 = .ok (.bipush 12, 2) := by decide +kernel
theorem d_Par_startTerm_92 : decode b_Par_startTerm 92 = .ok (.if_icmp .ne 37, 3) := by decide +kernel
theorem d_Par_startTerm_95 : decode b_Par_startTerm 95 = .ok (.aload_n 0, 1) := by decide +kernel
theorem d_Par_startTerm_96 : decode b_Par_startTerm 96 = .ok (.getfield 15, 3) := by decide +kernel
theorem d_Par_startTerm_99 : decode b_Par_startTerm 99 = .ok (.invokevirtual 168, 3) := by decide +kernel
theorem d_Par_startTerm_102 : decode b_Par_startTerm 102 = .ok (.aload_n 0, 1) := by decide +kernel
theorem d_Par_startTerm_103 : decode b_Par_startTerm 103 = .ok (.getfield 15, 3) := by decide +kernel
theorem d_Par_startTerm_106 : decode b_Par_startTerm 106 = .ok (.invokevirtual 216, 3) := by decide +kernel
theorem d_Par_startTerm_109 : decode b_Par_startTerm 109 = .ok (.istore_n 2, 1) := by decide +kernel
theorem d_Par_startTerm_110 : decode b_Par_startTerm 110 = .ok (.aload_n 0, 1) := by decide +kernel
theorem d_Par_startTerm_111 : decode b_Par_startTerm 111 = .ok (.iconst 2, 1) := by decide +kernel
theorem d_Par_startTerm_112 : decode b_Par_startTerm 112 = .ok (.invokevirtual 184, 3) := by decide +kernel
theorem d_Par_startTerm_115 : decode b_Par_startTerm 115 = .ok (.aload_n 0, 1) := by decide +kernel
theorem d_Par_startTerm_116 : decode b_Par_startTerm 116 = .ok (.bipush 21, 2) := by decide +kernel
theorem d_Par_startTerm_118 : decode b_Par_startTerm 118 = .ok (.invokevirtual 184, 3) := by decide +kernel
theorem d_Par_startTerm_121 : decode b_Par_startTerm 121 = .ok (.aload_n 0, 1) := by decide +kernel
theorem d_Par_startTerm_122 : decode b_Par_startTerm 122 = .ok (.bipush 9, 2) := by decide +kernel
theorem d_Par_startTerm_124 : decode b_Par_startTerm 124 = .ok (.iload_n 2, 1) := by decide +kernel
theorem d_Par_startTerm_125 : decode b_Par_startTerm 125 = .ok (.iconst 0, 1) := by decide +kernel
theorem d_Par_startTerm_126 : decode b_Par_startTerm 126 = .ok (.invokevirtual 219, 3) := by decide +kernel
theorem d_Par_startTerm_129 : decode b_Par_startTerm 129 = .ok (.return_, 1) := by decide +kernel
theorem d_Par_boundAt_0 : decode b_Par_boundAt 0 = .ok (.aload_n 0, 1) := by decide +kernel
theorem d_Par_boundAt_1 : decode b_Par_boundAt 1 = .ok (.getfield 40, 3) := by decide +kernel
theorem d_Par_boundAt_4 : decode b_Par_boundAt 4 = .ok (.invokevirtual 65, 3) := by decide +kernel
theorem d_Par_boundAt_7 : decode b_Par_boundAt 7 = .ok (.iconst 1, 1) := by decide +kernel
theorem d_Par_boundAt_8 : decode b_Par_boundAt 8 = .ok (.isub, 1) := by decide +kernel
theorem d_Par_boundAt_9 : decode b_Par_boundAt 9 = .ok (.istore_n 1, 1) := by decide +kernel
theorem d_Par_boundAt_10 : decode b_Par_boundAt 10 = .ok (.iload_n 1, 1) := by decide +kernel
theorem d_Par_boundAt_11 : decode b_Par_boundAt 11 = .ok (.ifCond .lt 43, 3) := by decide +kernel
theorem d_Par_boundAt_14 : decode b_Par_boundAt 14 = .ok (.aload_n 0, 1) := by decide +kernel
theorem d_Par_boundAt_15 : decode b_Par_boundAt 15 = .ok (.getfield 40, 3) := by decide +kernel
theorem d_Par_boundAt_18 : decode b_Par_boundAt 18 = .ok (.iload_n 1, 1) := by decide +kernel
theorem d_Par_boundAt_19 : decode b_Par_boundAt 19 = .ok (.invokevirtual 69, 3) := by decide +kernel
theorem d_Par_boundAt_22 : decode b_Par_boundAt 22 = .ok (.iconst (-1), 1) := by decide +kernel
theorem d_Par_boundAt_23 : decode b_Par_boundAt 23 = .ok (.if_icmp .eq 25, 3) := by decide +kernel
theorem d_Par_boundAt_26 : decode b_Par_boundAt 26 = .ok (.aload_n 0, 1) := by decide +kernel
theorem d_Par_boundAt_27 : decode b_Par_boundAt 27 = .ok (.getfield 15, 3) := by decide +kernel
theorem d_Par_boundAt_30 : decode b_Par_boundAt 30 = .ok (.aload_n 0, 1) := by decide +kernel
theorem d_Par_boundAt_31 : decode b_Par_boundAt 31 = .ok (.getfield 9, 3) := by decide +kernel
theorem d_Par_boundAt_34 : decode b_Par_boundAt 34 = .ok (.aload_n 0, 1) := by decide +kernel
theorem d_Par_boundAt_35 : decode b_Par_boundAt 35 = .ok (.getfield 40, 3) := by decide +kernel
theorem d_Par_boundAt_38 : decode b_Par_boundAt 38 = .ok (.iload_n 1, 1) := by decide +kernel
theorem d_Par_boundAt_39 : decode b_Par_boundAt 39 = .ok (.invokevirtual 69, 3) := by decide +kernel
theorem d_Par_boundAt_42 : decode b_Par_boundAt 42 = .ok (.invokevirtual 236, 3) := by decide +kernel
theorem d_Par_boundAt_45 : decode b_Par_boundAt 45 = .ok (.ifCond .ne 9, 3) := by decide +kernel
theorem d_Par_boundAt_48 : decode b_Par_boundAt 48 = .ok (.iinc 1 (-1), 3) := by decide +kernel
theorem d_Par_boundAt_51 : decode b_Par_boundAt 51 = .ok (.goto (-41), 3) := by decide +kernel
theorem d_Par_boundAt_54 : decode b_Par_boundAt 54 = .ok (.iload_n 1, 1) := by decide +kernel
theorem d_Par_boundAt_55 : decode b_Par_boundAt 55 = .ok (.ireturn, 1) := by decide +kernel
theorem d_Par_resolve_0 : decode b_Par_resolve 0 = .ok (.aload_n 0, 1) := by decide +kernel
theorem d_Par_resolve_1 : decode b_Par_resolve 1 = .ok (.invokevirtual 240, 3) := by decide +kernel
theorem d_Par_resolve_4 : decode b_Par_resolve 4 = .ok (.istore_n 1, 1) := by decide +kernel
theorem d_Par_resolve_5 : decode b_Par_resolve 5 = .ok (.iload_n 1, 1) := by decide +kernel
theorem d_Par_resolve_6 : decode b_Par_resolve 6 = .ok (.ifCond .lt 7, 3) := by decide +kernel
theorem d_Par_resolve_9 : decode b_Par_resolve 9 = .ok (.iload_n 1, 1) := by decide +kernel
theorem d_Par_resolve_10 : decode b_Par_resolve 10 = .ok (.goto 18, 3) := by decide +kernel
theorem d_Par_resolve_13 : decode b_Par_resolve 13 = .ok (.aload_n 0, 1) := by decide +kernel
theorem d_Par_resolve_14 : decode b_Par_resolve 14 = .ok (.getfield 27, 3) := by decide +kernel
theorem d_Par_resolve_17 : decode b_Par_resolve 17 = .ok (.aload_n 0, 1) := by decide +kernel
theorem d_Par_resolve_18 : decode b_Par_resolve 18 = .ok (.getfield 15, 3) := by decide +kernel
theorem d_Par_resolve_21 : decode b_Par_resolve 21 = .ok (.aload_n 0, 1) := by decide +kernel
theorem d_Par_resolve_22 : decode b_Par_resolve 22 = .ok (.getfield 97, 3) := by decide +kernel
theorem d_Par_resolve_25 : decode b_Par_resolve 25 = .ok (.invokevirtual 196, 3) := by decide +kernel
theorem d_Par_resolve_28 : decode b_Par_resolve 28 = .ok (.istore_n 2, 1) := by decide +kernel
theorem d_Par_resolve_29 : decode b_Par_resolve 29 = .ok (.iload_n 2, 1) := by decide +kernel
theorem d_Par_resolve_30 : decode b_Par_resolve 30 = .ok (.iconst (-1), 1) := by decide +kernel
theorem d_Par_resolve_31 : decode b_Par_resolve 31 = .ok (.if_icmp .ne 18, 3) := by decide +kernel
theorem d_Par_resolve_34 : decode b_Par_resolve 34 = .ok (.aload_n 0, 1) := by decide +kernel
theorem d_Par_resolve_35 : decode b_Par_resolve 35 = .ok (.getfield 19, 3) := by decide +kernel
theorem d_Par_resolve_38 : decode b_Par_resolve 38 = .ok (.iconst 2, 1) := by decide +kernel
theorem d_Par_resolve_39 : decode b_Par_resolve 39 = .ok (.aload_n 0, 1) := by decide +kernel
theorem d_Par_resolve_40 : decode b_Par_resolve 40 = .ok (.getfield 15, 3) := by decide +kernel
theorem d_Par_resolve_43 : decode b_Par_resolve 43 = .ok (.invokevirtual 190, 3) := by decide +kernel
theorem d_Par_resolve_46 : decode b_Par_resolve 46 = .ok (.invokevirtual 193, 3) := by decide +kernel
theorem d_Par_resolve_49 : decode b_Par_resolve 49 = .ok (.aload_n 0, 1) := by decide +kernel
theorem d_Par_resolve_50 : decode b_Par_resolve 50 = .ok (.getfield 15, 3) := by decide +kernel
theorem d_Par_resolve_53 : decode b_Par_resolve 53 = .ok (.invokevirtual 168, 3) := by decide +kernel
theorem d_Par_resolve_56 : decode b_Par_resolve 56 = .ok (.iload_n 1, 1) := by decide +kernel
theorem d_Par_resolve_57 : decode b_Par_resolve 57 = .ok (.ifCond .lt 26, 3) := by decide +kernel
theorem d_Par_resolve_60 : decode b_Par_resolve 60 = .ok (.aload_n 0, 1) := by decide +kernel
theorem d_Par_resolve_61 : decode b_Par_resolve 61 = .ok (.getfield 23, 3) := by decide +kernel
theorem d_Par_resolve_64 : decode b_Par_resolve 64 = .ok (.iconst 0, 1) := by decide +kernel
theorem d_Par_resolve_65 : decode b_Par_resolve 65 = .ok (.aload_n 0, 1) := by decide +kernel
theorem d_Par_resolve_66 : decode b_Par_resolve 66 = .ok (.getfield 40, 3) := by decide +kernel
theorem d_Par_resolve_69 : decode b_Par_resolve 69 = .ok (.invokevirtual 65, 3) := by decide +kernel
theorem d_Par_resolve_72 : decode b_Par_resolve 72 = .ok (.iconst 1, 1) := by decide +kernel
theorem d_Par_resolve_73 : decode b_Par_resolve 73 = .ok (.isub, 1) := by decide +kernel
theorem d_Par_resolve_74 : decode b_Par_resolve 74 = .ok (.iload_n 1, 1) := by decide +kernel
theorem d_Par_resolve_75 : decode b_Par_resolve 75 = .ok (.isub, 1) := by decide +kernel
theorem d_Par_resolve_76 : decode b_Par_resolve 76 = .ok (.iconst 0, 1) := by decide +kernel
theorem d_Par_resolve_77 : decode b_Par_resolve 77 = .ok (.invokevirtual 73, 3) := by decide +kernel
theorem d_Par_resolve_80 : decode b_Par_resolve 80 = .ok (.goto 13, 3) := by decide +kernel
theorem d_Par_resolve_83 : decode b_Par_resolve 83 = .ok (.aload_n 0, 1) := by decide +kernel
theorem d_Par_resolve_84 : decode b_Par_resolve 84 = .ok (.getfield 23, 3) := by decide +kernel
theorem d_Par_resolve_87 : decode b_Par_resolve 87 = .ok (.iconst 3, 1) := by decide +kernel
theorem d_Par_resolve_88 : decode b_Par_resolve 88 = .ok (.iload_n 2, 1) := by decide +kernel
theorem d_Par_resolve_89 : decode b_Par_resolve 89 = .ok (.iconst 0, 1) := by decide +kernel
theorem d_Par_resolve_90 : decode b_Par_resolve 90 = .ok (.invokevirtual 73, 3) := by decide +kernel
theorem d_Par_resolve_93 : decode b_Par_resolve 93 = .ok (.ireturn, 1) := by decide +kernel
theorem d_Par_apply_0 : decode b_Par_apply 0 = .ok (.aload_n 0, 1) := by decide +kernel
theorem d_Par_apply_1 : decode b_Par_apply 1 = .ok (.aload_n 0, 1) := by decide +kernel
theorem d_Par_apply_2 : decode b_Par_apply 2 = .ok (.getfield 210, 3) := by decide +kernel
theorem d_Par_apply_5 : decode b_Par_apply 5 = .ok (.iconst (-1), 1) := by decide +kernel
theorem d_Par_apply_6 : decode b_Par_apply 6 = .ok (.if_icmp .ne 7, 3) := by decide +kernel
theorem d_Par_apply_9 : decode b_Par_apply 9 = .ok (.iload_n 1, 1) := by decide +kernel
theorem d_Par_apply_10 : decode b_Par_apply 10 = .ok (.goto 16, 3) := by decide +kernel
theorem d_Par_apply_13 : decode b_Par_apply 13 = .ok (.aload_n 0, 1) := by decide +kernel
theorem d_Par_apply_14 : decode b_Par_apply 14 = .ok (.getfield 23, 3) := by decide +kernel
theorem d_Par_apply_17 : decode b_Par_apply 17 = .ok (.iconst 5, 1) := by decide +kernel
theorem d_Par_apply_18 : decode b_Par_apply 18 = .ok (.aload_n 0, 1) := by decide +kernel
theorem d_Par_apply_19 : decode b_Par_apply 19 = .ok (.getfield 210, 3) := by decide +kernel
theorem d_Par_apply_22 : decode b_Par_apply 22 = .ok (.iload_n 1, 1) := by decide +kernel
theorem d_Par_apply_23 : decode b_Par_apply 23 = .ok (.invokevirtual 73, 3) := by decide +kernel
theorem d_Par_apply_26 : decode b_Par_apply 26 = .ok (.putfield 210, 3) := by decide +kernel
theorem d_Par_apply_29 : decode b_Par_apply 29 = .ok (.aload_n 0, 1) := by decide +kernel
theorem d_Par_apply_30 : decode b_Par_apply 30 = .ok (.iconst 2, 1) := by decide +kernel
theorem d_Par_apply_31 : decode b_Par_apply 31 = .ok (.putfield 103, 3) := by decide +kernel
theorem d_Par_apply_34 : decode b_Par_apply 34 = .ok (.return_, 1) := by decide +kernel
theorem d_Par_takeSort_0 : decode b_Par_takeSort 0 = .ok (.aload_n 0, 1) := by decide +kernel
theorem d_Par_takeSort_1 : decode b_Par_takeSort 1 = .ok (.getfield 15, 3) := by decide +kernel
theorem d_Par_takeSort_4 : decode b_Par_takeSort 4 = .ok (.invokevirtual 160, 3) := by decide +kernel
theorem d_Par_takeSort_7 : decode b_Par_takeSort 7 = .ok (.bipush 14, 2) := by decide +kernel
theorem d_Par_takeSort_9 : decode b_Par_takeSort 9 = .ok (.if_icmp .ne 12, 3) := by decide +kernel
theorem d_Par_takeSort_12 : decode b_Par_takeSort 12 = .ok (.aload_n 0, 1) := by decide +kernel
theorem d_Par_takeSort_13 : decode b_Par_takeSort 13 = .ok (.getfield 15, 3) := by decide +kernel
theorem d_Par_takeSort_16 : decode b_Par_takeSort 16 = .ok (.invokevirtual 168, 3) := by decide +kernel
theorem d_Par_takeSort_19 : decode b_Par_takeSort 19 = .ok (.iconst 0, 1) := by decide +kernel
theorem d_Par_takeSort_20 : decode b_Par_takeSort 20 = .ok (.ireturn, 1) := by decide +kernel
theorem d_Par_takeSort_21 : decode b_Par_takeSort 21 = .ok (.aload_n 0, 1) := by decide +kernel
theorem d_Par_takeSort_22 : decode b_Par_takeSort 22 = .ok (.getfield 15, 3) := by decide +kernel
theorem d_Par_takeSort_25 : decode b_Par_takeSort 25 = .ok (.invokevirtual 160, 3) := by decide +kernel
theorem d_Par_takeSort_28 : decode b_Par_takeSort 28 = .ok (.bipush 15, 2) := by decide +kernel
theorem d_Par_takeSort_30 : decode b_Par_takeSort 30 = .ok (.if_icmp .eq 7, 3) := by decide +kernel
theorem d_Par_takeSort_33 : decode b_Par_takeSort 33 = .ok (.aload_n 0, 1) := by decide +kernel
theorem d_Par_takeSort_34 : decode b_Par_takeSort 34 = .ok (.invokevirtual 165, 3) := by decide +kernel
theorem d_Par_takeSort_37 : decode b_Par_takeSort 37 = .ok (.aload_n 0, 1) := by decide +kernel
theorem d_Par_takeSort_38 : decode b_Par_takeSort 38 = .ok (.getfield 15, 3) := by decide +kernel
theorem d_Par_takeSort_41 : decode b_Par_takeSort 41 = .ok (.invokevirtual 168, 3) := by decide +kernel
theorem d_Par_takeSort_44 : decode b_Par_takeSort 44 = .ok (.aload_n 0, 1) := by decide +kernel
theorem d_Par_takeSort_45 : decode b_Par_takeSort 45 = .ok (.getfield 15, 3) := by decide +kernel
theorem d_Par_takeSort_48 : decode b_Par_takeSort 48 = .ok (.invokevirtual 160, 3) := by decide +kernel
theorem d_Par_takeSort_51 : decode b_Par_takeSort 51 = .ok (.iconst 3, 1) := by decide +kernel
theorem d_Par_takeSort_52 : decode b_Par_takeSort 52 = .ok (.if_icmp .eq 7, 3) := by decide +kernel
theorem d_Par_takeSort_55 : decode b_Par_takeSort 55 = .ok (.aload_n 0, 1) := by decide +kernel
theorem d_Par_takeSort_56 : decode b_Par_takeSort 56 = .ok (.invokevirtual 165, 3) := by decide +kernel
theorem d_Par_takeSort_59 : decode b_Par_takeSort 59 = .ok (.aload_n 0, 1) := by decide +kernel
theorem d_Par_takeSort_60 : decode b_Par_takeSort 60 = .ok (.getfield 15, 3) := by decide +kernel
theorem d_Par_takeSort_63 : decode b_Par_takeSort 63 = .ok (.invokevirtual 247, 3) := by decide +kernel
theorem d_Par_takeSort_66 : decode b_Par_takeSort 66 = .ok (.istore_n 1, 1) := by decide +kernel
theorem d_Par_takeSort_67 : decode b_Par_takeSort 67 = .ok (.iload_n 1, 1) := by decide +kernel
theorem d_Par_takeSort_68 : decode b_Par_takeSort 68 = .ok (.bipush 99, 2) := by decide +kernel
theorem d_Par_takeSort_70 : decode b_Par_takeSort 70 = .ok (.if_icmp .le 18, 3) := by decide +kernel
theorem d_Par_takeSort_73 : decode b_Par_takeSort 73 = .ok (.aload_n 0, 1) := by decide +kernel
theorem d_Par_takeSort_74 : decode b_Par_takeSort 74 = .ok (.getfield 19, 3) := by decide +kernel
theorem d_Par_takeSort_77 : decode b_Par_takeSort 77 = .ok (.iconst 3, 1) := by decide +kernel
theorem d_Par_takeSort_78 : decode b_Par_takeSort 78 = .ok (.aload_n 0, 1) := by decide +kernel
theorem d_Par_takeSort_79 : decode b_Par_takeSort 79 = .ok (.getfield 15, 3) := by decide +kernel
theorem d_Par_takeSort_82 : decode b_Par_takeSort 82 = .ok (.invokevirtual 190, 3) := by decide +kernel
theorem d_Par_takeSort_85 : decode b_Par_takeSort 85 = .ok (.invokevirtual 193, 3) := by decide +kernel
theorem d_Par_takeSort_88 : decode b_Par_takeSort 88 = .ok (.aload_n 0, 1) := by decide +kernel
theorem d_Par_takeSort_89 : decode b_Par_takeSort 89 = .ok (.getfield 15, 3) := by decide +kernel
theorem d_Par_takeSort_92 : decode b_Par_takeSort 92 = .ok (.invokevirtual 168, 3) := by decide +kernel
theorem d_Par_takeSort_95 : decode b_Par_takeSort 95 = .ok (.iload_n 1, 1) := by decide +kernel
theorem d_Par_takeSort_96 : decode b_Par_takeSort 96 = .ok (.iconst 1, 1) := by decide +kernel
theorem d_Par_takeSort_97 : decode b_Par_takeSort 97 = .ok (.iadd, 1) := by decide +kernel
theorem d_Par_takeSort_98 : decode b_Par_takeSort 98 = .ok (.ireturn, 1) := by decide +kernel
theorem d_Par_takeRecursor_0 : decode b_Par_takeRecursor 0 = .ok (.aload_n 0, 1) := by decide +kernel
theorem d_Par_takeRecursor_1 : decode b_Par_takeRecursor 1 = .ok (.getfield 15, 3) := by decide +kernel
theorem d_Par_takeRecursor_4 : decode b_Par_takeRecursor 4 = .ok (.invokevirtual 160, 3) := by decide +kernel
theorem d_Par_takeRecursor_7 : decode b_Par_takeRecursor 7 = .ok (.iconst 2, 1) := by decide +kernel
theorem d_Par_takeRecursor_8 : decode b_Par_takeRecursor 8 = .ok (.if_icmp .eq 7, 3) := by decide +kernel
theorem d_Par_takeRecursor_11 : decode b_Par_takeRecursor 11 = .ok (.aload_n 0, 1) := by decide +kernel
theorem d_Par_takeRecursor_12 : decode b_Par_takeRecursor 12 = .ok (.invokevirtual 165, 3) := by decide +kernel
theorem d_Par_takeRecursor_15 : decode b_Par_takeRecursor 15 = .ok (.aload_n 0, 1) := by decide +kernel
theorem d_Par_takeRecursor_16 : decode b_Par_takeRecursor 16 = .ok (.invokevirtual 240, 3) := by decide +kernel
theorem d_Par_takeRecursor_19 : decode b_Par_takeRecursor 19 = .ok (.ifCond .lt 7, 3) := by decide +kernel
theorem d_Par_takeRecursor_22 : decode b_Par_takeRecursor 22 = .ok (.iconst (-1), 1) := by decide +kernel
theorem d_Par_takeRecursor_23 : decode b_Par_takeRecursor 23 = .ok (.goto 18, 3) := by decide +kernel
theorem d_Par_takeRecursor_26 : decode b_Par_takeRecursor 26 = .ok (.aload_n 0, 1) := by decide +kernel
theorem d_Par_takeRecursor_27 : decode b_Par_takeRecursor 27 = .ok (.getfield 27, 3) := by decide +kernel
theorem d_Par_takeRecursor_30 : decode b_Par_takeRecursor 30 = .ok (.aload_n 0, 1) := by decide +kernel
theorem d_Par_takeRecursor_31 : decode b_Par_takeRecursor 31 = .ok (.getfield 15, 3) := by decide +kernel
theorem d_Par_takeRecursor_34 : decode b_Par_takeRecursor 34 = .ok (.aload_n 0, 1) := by decide +kernel
theorem d_Par_takeRecursor_35 : decode b_Par_takeRecursor 35 = .ok (.getfield 97, 3) := by decide +kernel
theorem d_Par_takeRecursor_38 : decode b_Par_takeRecursor 38 = .ok (.invokevirtual 196, 3) := by decide +kernel
theorem d_Par_takeRecursor_41 : decode b_Par_takeRecursor 41 = .ok (.istore_n 1, 1) := by decide +kernel
theorem d_Par_takeRecursor_42 : decode b_Par_takeRecursor 42 = .ok (.iload_n 1, 1) := by decide +kernel
theorem d_Par_takeRecursor_43 : decode b_Par_takeRecursor 43 = .ok (.aload_n 0, 1) := by decide +kernel
theorem d_Par_takeRecursor_44 : decode b_Par_takeRecursor 44 = .ok (.getfield 53, 3) := by decide +kernel
theorem d_Par_takeRecursor_47 : decode b_Par_takeRecursor 47 = .ok (.if_icmp .ne 7, 3) := by decide +kernel
theorem d_Par_takeRecursor_50 : decode b_Par_takeRecursor 50 = .ok (.iconst 1, 1) := by decide +kernel
theorem d_Par_takeRecursor_51 : decode b_Par_takeRecursor 51 = .ok (.goto 4, 3) := by decide +kernel
theorem d_Par_takeRecursor_54 : decode b_Par_takeRecursor 54 = .ok (.iconst 0, 1) := by decide +kernel
theorem d_Par_takeRecursor_55 : decode b_Par_takeRecursor 55 = .ok (.istore_n 2, 1) := by decide +kernel
theorem d_Par_takeRecursor_56 : decode b_Par_takeRecursor 56 = .ok (.iload_n 1, 1) := by decide +kernel
theorem d_Par_takeRecursor_57 : decode b_Par_takeRecursor 57 = .ok (.iconst (-1), 1) := by decide +kernel
theorem d_Par_takeRecursor_58 : decode b_Par_takeRecursor 58 = .ok (.if_icmp .eq 20, 3) := by decide +kernel
theorem d_Par_takeRecursor_61 : decode b_Par_takeRecursor 61 = .ok (.iload_n 2, 1) := by decide +kernel
theorem d_Par_takeRecursor_62 : decode b_Par_takeRecursor 62 = .ok (.ifCond .ne 16, 3) := by decide +kernel
theorem d_Par_takeRecursor_65 : decode b_Par_takeRecursor 65 = .ok (.aload_n 0, 1) := by decide +kernel
theorem d_Par_takeRecursor_66 : decode b_Par_takeRecursor 66 = .ok (.getfield 27, 3) := by decide +kernel
theorem d_Par_takeRecursor_69 : decode b_Par_takeRecursor 69 = .ok (.iload_n 1, 1) := by decide +kernel
theorem d_Par_takeRecursor_70 : decode b_Par_takeRecursor 70 = .ok (.iconst 0, 1) := by decide +kernel
theorem d_Par_takeRecursor_71 : decode b_Par_takeRecursor 71 = .ok (.invokevirtual 243, 3) := by decide +kernel
theorem d_Par_takeRecursor_74 : decode b_Par_takeRecursor 74 = .ok (.iconst 3, 1) := by decide +kernel
theorem d_Par_takeRecursor_75 : decode b_Par_takeRecursor 75 = .ok (.if_icmp .eq 18, 3) := by decide +kernel
theorem d_Par_takeRecursor_78 : decode b_Par_takeRecursor 78 = .ok (.aload_n 0, 1) := by decide +kernel
theorem d_Par_takeRecursor_79 : decode b_Par_takeRecursor 79 = .ok (.getfield 19, 3) := by decide +kernel
theorem d_Par_takeRecursor_82 : decode b_Par_takeRecursor 82 = .ok (.iconst 2, 1) := by decide +kernel
theorem d_Par_takeRecursor_83 : decode b_Par_takeRecursor 83 = .ok (.aload_n 0, 1) := by decide +kernel
theorem d_Par_takeRecursor_84 : decode b_Par_takeRecursor 84 = .ok (.getfield 15, 3) := by decide +kernel
theorem d_Par_takeRecursor_87 : decode b_Par_takeRecursor 87 = .ok (.invokevirtual 190, 3) := by decide +kernel
theorem d_Par_takeRecursor_90 : decode b_Par_takeRecursor 90 = .ok (.invokevirtual 193, 3) := by decide +kernel
theorem d_Par_takeRecursor_93 : decode b_Par_takeRecursor 93 = .ok (.aload_n 0, 1) := by decide +kernel
theorem d_Par_takeRecursor_94 : decode b_Par_takeRecursor 94 = .ok (.getfield 15, 3) := by decide +kernel
theorem d_Par_takeRecursor_97 : decode b_Par_takeRecursor 97 = .ok (.invokevirtual 168, 3) := by decide +kernel
theorem d_Par_takeRecursor_100 : decode b_Par_takeRecursor 100 = .ok (.aload_n 0, 1) := by decide +kernel
theorem d_Par_takeRecursor_101 : decode b_Par_takeRecursor 101 = .ok (.getfield 23, 3) := by decide +kernel
theorem d_Par_takeRecursor_104 : decode b_Par_takeRecursor 104 = .ok (.iconst 4, 1) := by decide +kernel
theorem d_Par_takeRecursor_105 : decode b_Par_takeRecursor 105 = .ok (.iload_n 1, 1) := by decide +kernel
theorem d_Par_takeRecursor_106 : decode b_Par_takeRecursor 106 = .ok (.aload_n 0, 1) := by decide +kernel
theorem d_Par_takeRecursor_107 : decode b_Par_takeRecursor 107 = .ok (.invokevirtual 227, 3) := by decide +kernel
theorem d_Par_takeRecursor_110 : decode b_Par_takeRecursor 110 = .ok (.invokevirtual 73, 3) := by decide +kernel
theorem d_Par_takeRecursor_113 : decode b_Par_takeRecursor 113 = .ok (.ireturn, 1) := by decide +kernel
theorem d_Par_held_0 : decode b_Par_held 0 = .ok (.aload_n 0, 1) := by decide +kernel
theorem d_Par_held_1 : decode b_Par_held 1 = .ok (.getfield 37, 3) := by decide +kernel
theorem d_Par_held_4 : decode b_Par_held 4 = .ok (.aload_n 0, 1) := by decide +kernel
theorem d_Par_held_5 : decode b_Par_held 5 = .ok (.getfield 37, 3) := by decide +kernel
theorem d_Par_held_8 : decode b_Par_held 8 = .ok (.invokevirtual 65, 3) := by decide +kernel
theorem d_Par_held_11 : decode b_Par_held 11 = .ok (.iconst 3, 1) := by decide +kernel
theorem d_Par_held_12 : decode b_Par_held 12 = .ok (.isub, 1) := by decide +kernel
theorem d_Par_held_13 : decode b_Par_held 13 = .ok (.iload_n 1, 1) := by decide +kernel
theorem d_Par_held_14 : decode b_Par_held 14 = .ok (.iadd, 1) := by decide +kernel
theorem d_Par_held_15 : decode b_Par_held 15 = .ok (.invokevirtual 69, 3) := by decide +kernel
theorem d_Par_held_18 : decode b_Par_held 18 = .ok (.ireturn, 1) := by decide +kernel
theorem d_Par_beWhole_0 : decode b_Par_beWhole 0 = .ok (.aload_n 0, 1) := by decide +kernel
theorem d_Par_beWhole_1 : decode b_Par_beWhole 1 = .ok (.iload_n 1, 1) := by decide +kernel
theorem d_Par_beWhole_2 : decode b_Par_beWhole 2 = .ok (.putfield 210, 3) := by decide +kernel
theorem d_Par_beWhole_5 : decode b_Par_beWhole 5 = .ok (.aload_n 0, 1) := by decide +kernel
theorem d_Par_beWhole_6 : decode b_Par_beWhole 6 = .ok (.aload_n 0, 1) := by decide +kernel
theorem d_Par_beWhole_7 : decode b_Par_beWhole 7 = .ok (.iconst 0, 1) := by decide +kernel
theorem d_Par_beWhole_8 : decode b_Par_beWhole 8 = .ok (.invokevirtual 213, 3) := by decide +kernel
theorem d_Par_beWhole_11 : decode b_Par_beWhole 11 = .ok (.putfield 103, 3) := by decide +kernel
theorem d_Par_beWhole_14 : decode b_Par_beWhole 14 = .ok (.return_, 1) := by decide +kernel
theorem d_Par_takeAtom_0 : decode b_Par_takeAtom 0 = .ok (.aload_n 0, 1) := by decide +kernel
theorem d_Par_takeAtom_1 : decode b_Par_takeAtom 1 = .ok (.getfield 15, 3) := by decide +kernel
theorem d_Par_takeAtom_4 : decode b_Par_takeAtom 4 = .ok (.invokevirtual 160, 3) := by decide +kernel
theorem d_Par_takeAtom_7 : decode b_Par_takeAtom 7 = .ok (.istore_n 1, 1) := by decide +kernel
theorem d_Par_takeAtom_8 : decode b_Par_takeAtom 8 = .ok (.iload_n 1, 1) := by decide +kernel
theorem d_Par_takeAtom_9 : decode b_Par_takeAtom 9 = .ok (.iconst 2, 1) := by decide +kernel
theorem d_Par_takeAtom_10 : decode b_Par_takeAtom 10 = .ok (.if_icmp .ne 14, 3) := by decide +kernel
theorem d_Par_takeAtom_13 : decode b_Par_takeAtom 13 = .ok (.aload_n 0, 1) := by decide +kernel
theorem d_Par_takeAtom_14 : decode b_Par_takeAtom 14 = .ok (.aload_n 0, 1) := by decide +kernel
theorem d_Par_takeAtom_15 : decode b_Par_takeAtom 15 = .ok (.invokevirtual 221, 3) := by decide +kernel
theorem d_Par_takeAtom_18 : decode b_Par_takeAtom 18 = .ok (.invokevirtual 224, 3) := by decide +kernel
theorem d_Par_takeAtom_21 : decode b_Par_takeAtom 21 = .ok (.goto 143, 3) := by decide +kernel
theorem d_Par_takeAtom_24 : decode b_Par_takeAtom 24 = .ok (.iload_n 1, 1) := by decide +kernel
theorem d_Par_takeAtom_25 : decode b_Par_takeAtom 25 = .ok (.bipush 14, 2) := by decide +kernel
theorem d_Par_takeAtom_27 : decode b_Par_takeAtom 27 = .ok (.if_icmp .eq 9, 3) := by decide +kernel
theorem d_Par_takeAtom_30 : decode b_Par_takeAtom 30 = .ok (.iload_n 1, 1) := by decide +kernel
theorem d_Par_takeAtom_31 : decode b_Par_takeAtom 31 = .ok (.bipush 15, 2) := by decide +kernel
theorem d_Par_takeAtom_33 : decode b_Par_takeAtom 33 = .ok (.if_icmp .ne 23, 3) := by decide +kernel
theorem d_Par_takeAtom_36 : decode b_Par_takeAtom 36 = .ok (.aload_n 0, 1) := by decide +kernel
theorem d_Par_takeAtom_37 : decode b_Par_takeAtom 37 = .ok (.aload_n 0, 1) := by decide +kernel
theorem d_Par_takeAtom_38 : decode b_Par_takeAtom 38 = .ok (.getfield 23, 3) := by decide +kernel
theorem d_Par_takeAtom_41 : decode b_Par_takeAtom 41 = .ok (.iconst 2, 1) := by decide +kernel
theorem d_Par_takeAtom_42 : decode b_Par_takeAtom 42 = .ok (.aload_n 0, 1) := by decide +kernel
theorem d_Par_takeAtom_43 : decode b_Par_takeAtom 43 = .ok (.invokevirtual 227, 3) := by decide +kernel
theorem d_Par_takeAtom_46 : decode b_Par_takeAtom 46 = .ok (.iconst 0, 1) := by decide +kernel
theorem d_Par_takeAtom_47 : decode b_Par_takeAtom 47 = .ok (.invokevirtual 73, 3) := by decide +kernel
theorem d_Par_takeAtom_50 : decode b_Par_takeAtom 50 = .ok (.invokevirtual 224, 3) := by decide +kernel
theorem d_Par_takeAtom_53 : decode b_Par_takeAtom 53 = .ok (.goto 111, 3) := by decide +kernel
theorem d_Par_takeAtom_56 : decode b_Par_takeAtom 56 = .ok (.iload_n 1, 1) := by decide +kernel
theorem d_Par_takeAtom_57 : decode b_Par_takeAtom 57 = .ok (.bipush 16, 2) := by decide +kernel
theorem d_Par_takeAtom_59 : decode b_Par_takeAtom 59 = .ok (.if_icmp .ne 21, 3) := by decide +kernel
theorem d_Par_takeAtom_62 : decode b_Par_takeAtom 62 = .ok (.aload_n 0, 1) := by decide +kernel
theorem d_Par_takeAtom_63 : decode b_Par_takeAtom 63 = .ok (.getfield 15, 3) := by decide +kernel
theorem d_Par_takeAtom_66 : decode b_Par_takeAtom 66 = .ok (.invokevirtual 168, 3) := by decide +kernel
theorem d_Par_takeAtom_69 : decode b_Par_takeAtom 69 = .ok (.aload_n 0, 1) := by decide +kernel
theorem d_Par_takeAtom_70 : decode b_Par_takeAtom 70 = .ok (.aload_n 0, 1) := by decide +kernel
theorem d_Par_takeAtom_71 : decode b_Par_takeAtom 71 = .ok (.invokevirtual 230, 3) := by decide +kernel
theorem d_Par_takeAtom_74 : decode b_Par_takeAtom 74 = .ok (.invokevirtual 224, 3) := by decide +kernel
theorem d_Par_takeAtom_77 : decode b_Par_takeAtom 77 = .ok (.goto 87, 3) := by decide +kernel
theorem d_Par_takeAtom_80 : decode b_Par_takeAtom 80 = .ok (.iload_n 1, 1) := by decide +kernel
theorem d_Par_takeAtom_81 : decode b_Par_takeAtom 81 = .ok (.bipush 17, 2) := by decide +kernel
theorem d_Par_takeAtom_83 : decode b_Par_takeAtom 83 = .ok (.if_icmp .ne 23, 3) := by decide +kernel
theorem d_Par_takeAtom_86 : decode b_Par_takeAtom 86 = .ok (.aload_n 0, 1) := by decide +kernel
theorem d_Par_takeAtom_87 : decode b_Par_takeAtom 87 = .ok (.getfield 15, 3) := by decide +kernel
theorem d_Par_takeAtom_90 : decode b_Par_takeAtom 90 = .ok (.invokevirtual 168, 3) := by decide +kernel
theorem d_Par_takeAtom_93 : decode b_Par_takeAtom 93 = .ok (.aload_n 0, 1) := by decide +kernel
theorem d_Par_takeAtom_94 : decode b_Par_takeAtom 94 = .ok (.iconst 5, 1) := by decide +kernel
theorem d_Par_takeAtom_95 : decode b_Par_takeAtom 95 = .ok (.aload_n 0, 1) := by decide +kernel
theorem d_Par_takeAtom_96 : decode b_Par_takeAtom 96 = .ok (.getfield 210, 3) := by decide +kernel
theorem d_Par_takeAtom_99 : decode b_Par_takeAtom 99 = .ok (.iconst 0, 1) := by decide +kernel
theorem d_Par_takeAtom_100 : decode b_Par_takeAtom 100 = .ok (.invokevirtual 219, 3) := by decide +kernel
theorem d_Par_takeAtom_103 : decode b_Par_takeAtom 103 = .ok (.goto 61, 3) := by decide +kernel
theorem d_Par_takeAtom_106 : decode b_Par_takeAtom 106 = .ok (.aload_n 0, 1) := by decide +kernel
theorem d_Par_takeAtom_107 : decode b_Par_takeAtom 107 = .ok (.getfield 210, 3) := by decide +kernel
theorem d_Par_takeAtom_110 : decode b_Par_takeAtom 110 = .ok (.iconst (-1), 1) := by decide +kernel
theorem d_Par_takeAtom_111 : decode b_Par_takeAtom 111 = .ok (.if_icmp .ne 10, 3) := by decide +kernel
theorem d_Par_takeAtom_114 : decode b_Par_takeAtom 114 = .ok (.aload_n 0, 1) := by decide +kernel
theorem d_Par_takeAtom_115 : decode b_Par_takeAtom 115 = .ok (.invokevirtual 165, 3) := by decide +kernel
theorem d_Par_takeAtom_118 : decode b_Par_takeAtom 118 = .ok (.goto 46, 3) := by decide +kernel
theorem d_Par_takeAtom_121 : decode b_Par_takeAtom 121 = .ok (.iload_n 1, 1) := by decide +kernel
theorem d_Par_takeAtom_122 : decode b_Par_takeAtom 122 = .ok (.bipush 27, 2) := by decide +kernel
theorem d_Par_takeAtom_124 : decode b_Par_takeAtom 124 = .ok (.if_icmp .ne 32, 3) := by decide +kernel
theorem d_Par_takeAtom_127 : decode b_Par_takeAtom 127 = .ok (.aload_n 0, 1) := by decide +kernel
theorem d_Par_takeAtom_128 : decode b_Par_takeAtom 128 = .ok (.getfield 15, 3) := by decide +kernel
theorem d_Par_takeAtom_131 : decode b_Par_takeAtom 131 = .ok (.invokevirtual 168, 3) := by decide +kernel
theorem d_Par_takeAtom_134 : decode b_Par_takeAtom 134 = .ok (.aload_n 0, 1) := by decide +kernel
theorem d_Par_takeAtom_135 : decode b_Par_takeAtom 135 = .ok (.getfield 40, 3) := by decide +kernel
theorem d_Par_takeAtom_138 : decode b_Par_takeAtom 138 = .ok (.iconst (-1), 1) := by decide +kernel
theorem d_Par_takeAtom_139 : decode b_Par_takeAtom 139 = .ok (.invokevirtual 204, 3) := by decide +kernel
theorem d_Par_takeAtom_142 : decode b_Par_takeAtom 142 = .ok (.aload_n 0, 1) := by decide +kernel
theorem d_Par_takeAtom_143 : decode b_Par_takeAtom 143 = .ok (.bipush 6, 2) := by decide +kernel
theorem d_Par_takeAtom_145 : decode b_Par_takeAtom 145 = .ok (.aload_n 0, 1) := by decide +kernel
theorem d_Par_takeAtom_146 : decode b_Par_takeAtom 146 = .ok (.getfield 210, 3) := by decide +kernel
theorem d_Par_takeAtom_149 : decode b_Par_takeAtom 149 = .ok (.iconst 0, 1) := by decide +kernel
theorem d_Par_takeAtom_150 : decode b_Par_takeAtom 150 = .ok (.invokevirtual 219, 3) := by decide +kernel
theorem d_Par_takeAtom_153 : decode b_Par_takeAtom 153 = .ok (.goto 11, 3) := by decide +kernel
theorem d_Par_takeAtom_156 : decode b_Par_takeAtom 156 = .ok (.aload_n 0, 1) := by decide +kernel
theorem d_Par_takeAtom_157 : decode b_Par_takeAtom 157 = .ok (.aload_n 0, 1) := by decide +kernel
theorem d_Par_takeAtom_158 : decode b_Par_takeAtom 158 = .ok (.getfield 210, 3) := by decide +kernel
theorem d_Par_takeAtom_161 : decode b_Par_takeAtom 161 = .ok (.invokevirtual 233, 3) := by decide +kernel
theorem d_Par_takeAtom_164 : decode b_Par_takeAtom 164 = .ok (.return_, 1) := by decide +kernel
theorem d_Par_startGroup_0 : decode b_Par_startGroup 0 = .ok (.aload_n 0, 1) := by decide +kernel
theorem d_Par_startGroup_1 : decode b_Par_startGroup 1 = .ok (.bipush 17, 2) := by decide +kernel
theorem d_Par_startGroup_3 : decode b_Par_startGroup 3 = .ok (.invokevirtual 184, 3) := by decide +kernel
theorem d_Par_startGroup_6 : decode b_Par_startGroup 6 = .ok (.iconst 0, 1) := by decide +kernel
theorem d_Par_startGroup_7 : decode b_Par_startGroup 7 = .ok (.istore_n 1, 1) := by decide +kernel
theorem d_Par_startGroup_8 : decode b_Par_startGroup 8 = .ok (.iload_n 1, 1) := by decide +kernel
theorem d_Par_startGroup_9 : decode b_Par_startGroup 9 = .ok (.sipush 3000, 3) := by decide +kernel
theorem d_Par_startGroup_12 : decode b_Par_startGroup 12 = .ok (.if_icmp .gt 90, 3) := by decide +kernel
theorem d_Par_startGroup_15 : decode b_Par_startGroup 15 = .ok (.iload_n 1, 1) := by decide +kernel
theorem d_Par_startGroup_16 : decode b_Par_startGroup 16 = .ok (.ifCond .eq 14, 3) := by decide +kernel
theorem d_Par_startGroup_19 : decode b_Par_startGroup 19 = .ok (.aload_n 0, 1) := by decide +kernel
theorem d_Par_startGroup_20 : decode b_Par_startGroup 20 = .ok (.getfield 15, 3) := by decide +kernel
theorem d_Par_startGroup_23 : decode b_Par_startGroup 23 = .ok (.invokevirtual 160, 3) := by decide +kernel
theorem d_Par_startGroup_26 : decode b_Par_startGroup 26 = .ok (.iconst 2, 1) := by decide +kernel
theorem d_Par_startGroup_27 : decode b_Par_startGroup 27 = .ok (.if_icmp .ne 75, 3) := by decide +kernel
theorem d_Par_startGroup_30 : decode b_Par_startGroup 30 = .ok (.aload_n 0, 1) := by decide +kernel
theorem d_Par_startGroup_31 : decode b_Par_startGroup 31 = .ok (.getfield 15, 3) := by decide +kernel
theorem d_Par_startGroup_34 : decode b_Par_startGroup 34 = .ok (.invokevirtual 160, 3) := by decide +kernel
theorem d_Par_startGroup_37 : decode b_Par_startGroup 37 = .ok (.iconst 2, 1) := by decide +kernel
theorem d_Par_startGroup_38 : decode b_Par_startGroup 38 = .ok (.if_icmp .eq 7, 3) := by decide +kernel
theorem d_Par_startGroup_41 : decode b_Par_startGroup 41 = .ok (.aload_n 0, 1) := by decide +kernel
theorem d_Par_startGroup_42 : decode b_Par_startGroup 42 = .ok (.invokevirtual 165, 3) := by decide +kernel
theorem d_Par_startGroup_45 : decode b_Par_startGroup 45 = .ok (.aload_n 0, 1) := by decide +kernel
theorem d_Par_startGroup_46 : decode b_Par_startGroup 46 = .ok (.getfield 40, 3) := by decide +kernel
theorem d_Par_startGroup_49 : decode b_Par_startGroup 49 = .ok (.invokevirtual 65, 3) := by decide +kernel
theorem d_Par_startGroup_52 : decode b_Par_startGroup 52 = .ok (.aload_n 0, 1) := by decide +kernel
theorem d_Par_startGroup_53 : decode b_Par_startGroup 53 = .ok (.getfield 43, 3) := by decide +kernel
theorem d_Par_startGroup_56 : decode b_Par_startGroup 56 = .ok (.invokevirtual 65, 3) := by decide +kernel
theorem d_Par_startGroup_59 : decode b_Par_startGroup 59 = .ok (.iadd, 1) := by decide +kernel
theorem d_Par_startGroup_60 : decode b_Par_startGroup 60 = .ok (.sipush 3000, 3) := by decide +kernel
theorem d_Par_startGroup_63 : decode b_Par_startGroup 63 = .ok (.if_icmp .lt 12, 3) := by decide +kernel
theorem d_Par_startGroup_66 : decode b_Par_startGroup 66 = .ok (.aload_n 0, 1) := by decide +kernel
theorem d_Par_startGroup_67 : decode b_Par_startGroup 67 = .ok (.getfield 19, 3) := by decide +kernel
theorem d_Par_startGroup_70 : decode b_Par_startGroup 70 = .ok (.bipush 10, 2) := by decide +kernel
theorem d_Par_startGroup_72 : decode b_Par_startGroup 72 = .ok (.invokevirtual 154, 3) := by decide +kernel
theorem d_Par_startGroup_75 : decode b_Par_startGroup 75 = .ok (.aload_n 0, 1) := by decide +kernel
theorem d_Par_startGroup_76 : decode b_Par_startGroup 76 = .ok (.getfield 43, 3) := by decide +kernel
theorem d_Par_startGroup_79 : decode b_Par_startGroup 79 = .ok (.aload_n 0, 1) := by decide +kernel
theorem d_Par_startGroup_80 : decode b_Par_startGroup 80 = .ok (.getfield 15, 3) := by decide +kernel
