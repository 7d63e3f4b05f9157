theorem d_Mod_must_0 : decode b_Mod_must 0 = .ok (.aload_n 0, 1) := by decide +kernel
theorem d_Mod_must_1 : decode b_Mod_must 1 = .ok (.invokevirtual 273, 3) := by decide +kernel
theorem d_Mod_must_4 : decode b_Mod_must 4 = .ok (.iload_n 1, 1) := by decide +kernel
theorem d_Mod_must_5 : decode b_Mod_must 5 = .ok (.if_icmp .eq 8, 3) := by decide +kernel
theorem d_Mod_must_8 : decode b_Mod_must 8 = .ok (.aload_n 0, 1) := by decide +kernel
theorem d_Mod_must_9 : decode b_Mod_must 9 = .ok (.invokevirtual 277, 3) := by decide +kernel
theorem d_Mod_must_12 : decode b_Mod_must 12 = .ok (.athrow, 1) := by decide +kernel
theorem d_Mod_must_13 : decode b_Mod_must 13 = .ok (.aload_n 0, 1) := by decide +kernel
theorem d_Mod_must_14 : decode b_Mod_must 14 = .ok (.invokevirtual 281, 3) := by decide +kernel
theorem d_Mod_must_17 : decode b_Mod_must 17 = .ok (.return_, 1) := by decide +kernel
theorem d_Mod_reserved_0 : decode b_Mod_reserved 0 = .ok (.aload_n 0, 1) := by decide +kernel
theorem d_Mod_reserved_1 : decode b_Mod_reserved 1 = .ok (.ldc_w 297, 3) := by decide +kernel
theorem d_Mod_reserved_4 : decode b_Mod_reserved 4 = .ok (.invokevirtual 293, 3) := by decide +kernel
theorem d_Mod_reserved_7 : decode b_Mod_reserved 7 = .ok (.ifCond .ne 123, 3) := by decide +kernel
theorem d_Mod_reserved_10 : decode b_Mod_reserved 10 = .ok (.aload_n 0, 1) := by decide +kernel
theorem d_Mod_reserved_11 : decode b_Mod_reserved 11 = .ok (.ldc_w 299, 3) := by decide +kernel
theorem d_Mod_reserved_14 : decode b_Mod_reserved 14 = .ok (.invokevirtual 293, 3) := by decide +kernel
theorem d_Mod_reserved_17 : decode b_Mod_reserved 17 = .ok (.ifCond .ne 113, 3) := by decide +kernel
theorem d_Mod_reserved_20 : decode b_Mod_reserved 20 = .ok (.aload_n 0, 1) := by decide +kernel
theorem d_Mod_reserved_21 : decode b_Mod_reserved 21 = .ok (.ldc_w 301, 3) := by decide +kernel
theorem d_Mod_reserved_24 : decode b_Mod_reserved 24 = .ok (.invokevirtual 293, 3) := by decide +kernel
theorem d_Mod_reserved_27 : decode b_Mod_reserved 27 = .ok (.ifCond .ne 103, 3) := by decide +kernel
theorem d_Mod_reserved_30 : decode b_Mod_reserved 30 = .ok (.aload_n 0, 1) := by decide +kernel
theorem d_Mod_reserved_31 : decode b_Mod_reserved 31 = .ok (.ldc_w 303, 3) := by decide +kernel
theorem d_Mod_reserved_34 : decode b_Mod_reserved 34 = .ok (.invokevirtual 293, 3) := by decide +kernel
theorem d_Mod_reserved_37 : decode b_Mod_reserved 37 = .ok (.ifCond .ne 93, 3) := by decide +kernel
theorem d_Mod_reserved_40 : decode b_Mod_reserved 40 = .ok (.aload_n 0, 1) := by decide +kernel
theorem d_Mod_reserved_41 : decode b_Mod_reserved 41 = .ok (.ldc_w 305, 3) := by decide +kernel
theorem d_Mod_reserved_44 : decode b_Mod_reserved 44 = .ok (.invokevirtual 293, 3) := by decide +kernel
theorem d_Mod_reserved_47 : decode b_Mod_reserved 47 = .ok (.ifCond .ne 83, 3) := by decide +kernel
theorem d_Mod_reserved_50 : decode b_Mod_reserved 50 = .ok (.aload_n 0, 1) := by decide +kernel
theorem d_Mod_reserved_51 : decode b_Mod_reserved 51 = .ok (.ldc_w 307, 3) := by decide +kernel
theorem d_Mod_reserved_54 : decode b_Mod_reserved 54 = .ok (.invokevirtual 293, 3) := by decide +kernel
theorem d_Mod_reserved_57 : decode b_Mod_reserved 57 = .ok (.ifCond .ne 73, 3) := by decide +kernel
theorem d_Mod_reserved_60 : decode b_Mod_reserved 60 = .ok (.aload_n 0, 1) := by decide +kernel
theorem d_Mod_reserved_61 : decode b_Mod_reserved 61 = .ok (.ldc_w 309, 3) := by decide +kernel
theorem d_Mod_reserved_64 : decode b_Mod_reserved 64 = .ok (.invokevirtual 293, 3) := by decide +kernel
theorem d_Mod_reserved_67 : decode b_Mod_reserved 67 = .ok (.ifCond .ne 63, 3) := by decide +kernel
theorem d_Mod_reserved_70 : decode b_Mod_reserved 70 = .ok (.aload_n 0, 1) := by decide +kernel
theorem d_Mod_reserved_71 : decode b_Mod_reserved 71 = .ok (.ldc_w 311, 3) := by decide +kernel
theorem d_Mod_reserved_74 : decode b_Mod_reserved 74 = .ok (.invokevirtual 293, 3) := by decide +kernel
theorem d_Mod_reserved_77 : decode b_Mod_reserved 77 = .ok (.ifCond .ne 53, 3) := by decide +kernel
theorem d_Mod_reserved_80 : decode b_Mod_reserved 80 = .ok (.aload_n 0, 1) := by decide +kernel
theorem d_Mod_reserved_81 : decode b_Mod_reserved 81 = .ok (.ldc_w 313, 3) := by decide +kernel
theorem d_Mod_reserved_84 : decode b_Mod_reserved 84 = .ok (.invokevirtual 293, 3) := by decide +kernel
theorem d_Mod_reserved_87 : decode b_Mod_reserved 87 = .ok (.ifCond .ne 43, 3) := by decide +kernel
theorem d_Mod_reserved_90 : decode b_Mod_reserved 90 = .ok (.aload_n 0, 1) := by decide +kernel
theorem d_Mod_reserved_91 : decode b_Mod_reserved 91 = .ok (.ldc_w 315, 3) := by decide +kernel
theorem d_Mod_reserved_94 : decode b_Mod_reserved 94 = .ok (.invokevirtual 293, 3) := by decide +kernel
theorem d_Mod_reserved_97 : decode b_Mod_reserved 97 = .ok (.ifCond .ne 33, 3) := by decide +kernel
theorem d_Mod_reserved_100 : decode b_Mod_reserved 100 = .ok (.aload_n 0, 1) := by decide +kernel
theorem d_Mod_reserved_101 : decode b_Mod_reserved 101 = .ok (.ldc_w 317, 3) := by decide +kernel
theorem d_Mod_reserved_104 : decode b_Mod_reserved 104 = .ok (.invokevirtual 293, 3) := by decide +kernel
theorem d_Mod_reserved_107 : decode b_Mod_reserved 107 = .ok (.ifCond .ne 23, 3) := by decide +kernel
theorem d_Mod_reserved_110 : decode b_Mod_reserved 110 = .ok (.aload_n 0, 1) := by decide +kernel
theorem d_Mod_reserved_111 : decode b_Mod_reserved 111 = .ok (.ldc_w 319, 3) := by decide +kernel
theorem d_Mod_reserved_114 : decode b_Mod_reserved 114 = .ok (.invokevirtual 293, 3) := by decide +kernel
theorem d_Mod_reserved_117 : decode b_Mod_reserved 117 = .ok (.ifCond .ne 13, 3) := by decide +kernel
theorem d_Mod_reserved_120 : decode b_Mod_reserved 120 = .ok (.aload_n 0, 1) := by decide +kernel
theorem d_Mod_reserved_121 : decode b_Mod_reserved 121 = .ok (.ldc_w 321, 3) := by decide +kernel
theorem d_Mod_reserved_124 : decode b_Mod_reserved 124 = .ok (.invokevirtual 293, 3) := by decide +kernel
theorem d_Mod_reserved_127 : decode b_Mod_reserved 127 = .ok (.ifCond .eq 7, 3) := by decide +kernel
theorem d_Mod_reserved_130 : decode b_Mod_reserved 130 = .ok (.iconst 1, 1) := by decide +kernel
theorem d_Mod_reserved_131 : decode b_Mod_reserved 131 = .ok (.goto 4, 3) := by decide +kernel
theorem d_Mod_reserved_134 : decode b_Mod_reserved 134 = .ok (.iconst 0, 1) := by decide +kernel
theorem d_Mod_reserved_135 : decode b_Mod_reserved 135 = .ok (.ireturn, 1) := by decide +kernel
theorem d_Mod_bindName_0 : decode b_Mod_bindName 0 = .ok (.aload_n 0, 1) := by decide +kernel
theorem d_Mod_bindName_1 : decode b_Mod_bindName 1 = .ok (.getfield 153, 3) := by decide +kernel
theorem d_Mod_bindName_4 : decode b_Mod_bindName 4 = .ok (.aload_n 0, 1) := by decide +kernel
theorem d_Mod_bindName_5 : decode b_Mod_bindName 5 = .ok (.getfield 159, 3) := by decide +kernel
theorem d_Mod_bindName_8 : decode b_Mod_bindName 8 = .ok (.iload_n 1, 1) := by decide +kernel
theorem d_Mod_bindName_9 : decode b_Mod_bindName 9 = .ok (.iastore, 1) := by decide +kernel
theorem d_Mod_bindName_10 : decode b_Mod_bindName 10 = .ok (.aload_n 0, 1) := by decide +kernel
theorem d_Mod_bindName_11 : decode b_Mod_bindName 11 = .ok (.getfield 156, 3) := by decide +kernel
theorem d_Mod_bindName_14 : decode b_Mod_bindName 14 = .ok (.aload_n 0, 1) := by decide +kernel
theorem d_Mod_bindName_15 : decode b_Mod_bindName 15 = .ok (.dup, 1) := by decide +kernel
theorem d_Mod_bindName_16 : decode b_Mod_bindName 16 = .ok (.getfield 159, 3) := by decide +kernel
theorem d_Mod_bindName_19 : decode b_Mod_bindName 19 = .ok (.dup_x1, 1) := by decide +kernel
theorem d_Mod_bindName_20 : decode b_Mod_bindName 20 = .ok (.iconst 1, 1) := by decide +kernel
theorem d_Mod_bindName_21 : decode b_Mod_bindName 21 = .ok (.iadd, 1) := by decide +kernel
theorem d_Mod_bindName_22 : decode b_Mod_bindName 22 = .ok (.putfield 159, 3) := by decide +kernel
theorem d_Mod_bindName_25 : decode b_Mod_bindName 25 = .ok (.iload_n 2, 1) := by decide +kernel
theorem d_Mod_bindName_26 : decode b_Mod_bindName 26 = .ok (.iastore, 1) := by decide +kernel
theorem d_Mod_bindName_27 : decode b_Mod_bindName 27 = .ok (.return_, 1) := by decide +kernel
theorem d_Mod_mustBe_0 : decode b_Mod_mustBe 0 = .ok (.aload_n 0, 1) := by decide +kernel
theorem d_Mod_mustBe_1 : decode b_Mod_mustBe 1 = .ok (.aload_n 1, 1) := by decide +kernel
theorem d_Mod_mustBe_2 : decode b_Mod_mustBe 2 = .ok (.invokevirtual 293, 3) := by decide +kernel
theorem d_Mod_mustBe_5 : decode b_Mod_mustBe 5 = .ok (.ifCond .ne 8, 3) := by decide +kernel
theorem d_Mod_mustBe_8 : decode b_Mod_mustBe 8 = .ok (.aload_n 0, 1) := by decide +kernel
theorem d_Mod_mustBe_9 : decode b_Mod_mustBe 9 = .ok (.invokevirtual 277, 3) := by decide +kernel
theorem d_Mod_mustBe_12 : decode b_Mod_mustBe 12 = .ok (.athrow, 1) := by decide +kernel
theorem d_Mod_mustBe_13 : decode b_Mod_mustBe 13 = .ok (.aload_n 0, 1) := by decide +kernel
theorem d_Mod_mustBe_14 : decode b_Mod_mustBe 14 = .ok (.invokevirtual 281, 3) := by decide +kernel
theorem d_Mod_mustBe_17 : decode b_Mod_mustBe 17 = .ok (.return_, 1) := by decide +kernel
theorem d_Mod_sortHere_0 : decode b_Mod_sortHere 0 = .ok (.aload_n 0, 1) := by decide +kernel
theorem d_Mod_sortHere_1 : decode b_Mod_sortHere 1 = .ok (.ldc_w 319, 3) := by decide +kernel
theorem d_Mod_sortHere_4 : decode b_Mod_sortHere 4 = .ok (.invokevirtual 293, 3) := by decide +kernel
theorem d_Mod_sortHere_7 : decode b_Mod_sortHere 7 = .ok (.ifCond .eq 9, 3) := by decide +kernel
theorem d_Mod_sortHere_10 : decode b_Mod_sortHere 10 = .ok (.aload_n 0, 1) := by decide +kernel
theorem d_Mod_sortHere_11 : decode b_Mod_sortHere 11 = .ok (.invokevirtual 281, 3) := by decide +kernel
theorem d_Mod_sortHere_14 : decode b_Mod_sortHere 14 = .ok (.iconst 0, 1) := by decide +kernel
theorem d_Mod_sortHere_15 : decode b_Mod_sortHere 15 = .ok (.ireturn, 1) := by decide +kernel
theorem d_Mod_sortHere_16 : decode b_Mod_sortHere 16 = .ok (.aload_n 0, 1) := by decide +kernel
theorem d_Mod_sortHere_17 : decode b_Mod_sortHere 17 = .ok (.ldc_w 321, 3) := by decide +kernel
theorem d_Mod_sortHere_20 : decode b_Mod_sortHere 20 = .ok (.invokevirtual 412, 3) := by decide +kernel
theorem d_Mod_sortHere_23 : decode b_Mod_sortHere 23 = .ok (.aload_n 0, 1) := by decide +kernel
theorem d_Mod_sortHere_24 : decode b_Mod_sortHere 24 = .ok (.invokevirtual 273, 3) := by decide +kernel
theorem d_Mod_sortHere_27 : decode b_Mod_sortHere 27 = .ok (.iconst 2, 1) := by decide +kernel
theorem d_Mod_sortHere_28 : decode b_Mod_sortHere 28 = .ok (.if_icmp .eq 8, 3) := by decide +kernel
theorem d_Mod_sortHere_31 : decode b_Mod_sortHere 31 = .ok (.aload_n 0, 1) := by decide +kernel
theorem d_Mod_sortHere_32 : decode b_Mod_sortHere 32 = .ok (.invokevirtual 277, 3) := by decide +kernel
theorem d_Mod_sortHere_35 : decode b_Mod_sortHere 35 = .ok (.athrow, 1) := by decide +kernel
theorem d_Mod_sortHere_36 : decode b_Mod_sortHere 36 = .ok (.iconst 0, 1) := by decide +kernel
theorem d_Mod_sortHere_37 : decode b_Mod_sortHere 37 = .ok (.istore_n 1, 1) := by decide +kernel
theorem d_Mod_sortHere_38 : decode b_Mod_sortHere 38 = .ok (.aload_n 0, 1) := by decide +kernel
theorem d_Mod_sortHere_39 : decode b_Mod_sortHere 39 = .ok (.getfield 44, 3) := by decide +kernel
theorem d_Mod_sortHere_42 : decode b_Mod_sortHere 42 = .ok (.istore_n 2, 1) := by decide +kernel
theorem d_Mod_sortHere_43 : decode b_Mod_sortHere 43 = .ok (.iload_n 2, 1) := by decide +kernel
theorem d_Mod_sortHere_44 : decode b_Mod_sortHere 44 = .ok (.aload_n 0, 1) := by decide +kernel
theorem d_Mod_sortHere_45 : decode b_Mod_sortHere 45 = .ok (.getfield 47, 3) := by decide +kernel
theorem d_Mod_sortHere_48 : decode b_Mod_sortHere 48 = .ok (.if_icmp .ge 24, 3) := by decide +kernel
theorem d_Mod_sortHere_51 : decode b_Mod_sortHere 51 = .ok (.bipush 10, 2) := by decide +kernel
theorem d_Mod_sortHere_53 : decode b_Mod_sortHere 53 = .ok (.iload_n 1, 1) := by decide +kernel
theorem d_Mod_sortHere_54 : decode b_Mod_sortHere 54 = .ok (.imul, 1) := by decide +kernel
theorem d_Mod_sortHere_55 : decode b_Mod_sortHere 55 = .ok (.aload_n 0, 1) := by decide +kernel
theorem d_Mod_sortHere_56 : decode b_Mod_sortHere 56 = .ok (.getfield 13, 3) := by decide +kernel
theorem d_Mod_sortHere_59 : decode b_Mod_sortHere 59 = .ok (.iload_n 2, 1) := by decide +kernel
theorem d_Mod_sortHere_60 : decode b_Mod_sortHere 60 = .ok (.baload, 1) := by decide +kernel
theorem d_Mod_sortHere_61 : decode b_Mod_sortHere 61 = .ok (.iadd, 1) := by decide +kernel
theorem d_Mod_sortHere_62 : decode b_Mod_sortHere 62 = .ok (.bipush 48, 2) := by decide +kernel
theorem d_Mod_sortHere_64 : decode b_Mod_sortHere 64 = .ok (.isub, 1) := by decide +kernel
theorem d_Mod_sortHere_65 : decode b_Mod_sortHere 65 = .ok (.istore_n 1, 1) := by decide +kernel
theorem d_Mod_sortHere_66 : decode b_Mod_sortHere 66 = .ok (.iinc 2 1, 3) := by decide +kernel
theorem d_Mod_sortHere_69 : decode b_Mod_sortHere 69 = .ok (.goto (-26), 3) := by decide +kernel
theorem d_Mod_sortHere_72 : decode b_Mod_sortHere 72 = .ok (.iload_n 1, 1) := by decide +kernel
theorem d_Mod_sortHere_73 : decode b_Mod_sortHere 73 = .ok (.bipush 99, 2) := by decide +kernel
theorem d_Mod_sortHere_75 : decode b_Mod_sortHere 75 = .ok (.if_icmp .le 16, 3) := by decide +kernel
theorem d_Mod_sortHere_78 : decode b_Mod_sortHere 78 = .ok (.new 1, 3) := by decide +kernel
theorem d_Mod_sortHere_81 : decode b_Mod_sortHere 81 = .ok (.dup, 1) := by decide +kernel
theorem d_Mod_sortHere_82 : decode b_Mod_sortHere 82 = .ok (.iconst 3, 1) := by decide +kernel
theorem d_Mod_sortHere_83 : decode b_Mod_sortHere 83 = .ok (.aload_n 0, 1) := by decide +kernel
theorem d_Mod_sortHere_84 : decode b_Mod_sortHere 84 = .ok (.getfield 44, 3) := by decide +kernel
theorem d_Mod_sortHere_87 : decode b_Mod_sortHere 87 = .ok (.invokespecial 3, 3) := by decide +kernel
theorem d_Mod_sortHere_90 : decode b_Mod_sortHere 90 = .ok (.athrow, 1) := by decide +kernel
theorem d_Mod_sortHere_91 : decode b_Mod_sortHere 91 = .ok (.aload_n 0, 1) := by decide +kernel
theorem d_Mod_sortHere_92 : decode b_Mod_sortHere 92 = .ok (.invokevirtual 281, 3) := by decide +kernel
theorem d_Mod_sortHere_95 : decode b_Mod_sortHere 95 = .ok (.iload_n 1, 1) := by decide +kernel
theorem d_Mod_sortHere_96 : decode b_Mod_sortHere 96 = .ok (.iconst 1, 1) := by decide +kernel
theorem d_Mod_sortHere_97 : decode b_Mod_sortHere 97 = .ok (.iadd, 1) := by decide +kernel
theorem d_Mod_sortHere_98 : decode b_Mod_sortHere 98 = .ok (.ireturn, 1) := by decide +kernel
theorem d_Mod_spelled_0 : decode b_Mod_spelled 0 = .ok (.iload_n 2, 1) := by decide +kernel
theorem d_Mod_spelled_1 : decode b_Mod_spelled 1 = .ok (.aload_n 0, 1) := by decide +kernel
theorem d_Mod_spelled_2 : decode b_Mod_spelled 2 = .ok (.getfield 47, 3) := by decide +kernel
theorem d_Mod_spelled_5 : decode b_Mod_spelled 5 = .ok (.aload_n 0, 1) := by decide +kernel
theorem d_Mod_spelled_6 : decode b_Mod_spelled 6 = .ok (.getfield 44, 3) := by decide +kernel
theorem d_Mod_spelled_9 : decode b_Mod_spelled 9 = .ok (.isub, 1) := by decide +kernel
theorem d_Mod_spelled_10 : decode b_Mod_spelled 10 = .ok (.if_icmp .eq 5, 3) := by decide +kernel
theorem d_Mod_spelled_13 : decode b_Mod_spelled 13 = .ok (.iconst 0, 1) := by decide +kernel
theorem d_Mod_spelled_14 : decode b_Mod_spelled 14 = .ok (.ireturn, 1) := by decide +kernel
theorem d_Mod_spelled_15 : decode b_Mod_spelled 15 = .ok (.iconst 0, 1) := by decide +kernel
theorem d_Mod_spelled_16 : decode b_Mod_spelled 16 = .ok (.istore 4, 2) := by decide +kernel
theorem d_Mod_spelled_18 : decode b_Mod_spelled 18 = .ok (.iload 4, 2) := by decide +kernel
theorem d_Mod_spelled_20 : decode b_Mod_spelled 20 = .ok (.iload_n 2, 1) := by decide +kernel
theorem d_Mod_spelled_21 : decode b_Mod_spelled 21 = .ok (.if_icmp .ge 32, 3) := by decide +kernel
theorem d_Mod_spelled_24 : decode b_Mod_spelled 24 = .ok (.aload_n 3, 1) := by decide +kernel
theorem d_Mod_spelled_25 : decode b_Mod_spelled 25 = .ok (.iload_n 1, 1) := by decide +kernel
theorem d_Mod_spelled_26 : decode b_Mod_spelled 26 = .ok (.iload 4, 2) := by decide +kernel
theorem d_Mod_spelled_28 : decode b_Mod_spelled 28 = .ok (.iadd, 1) := by decide +kernel
theorem d_Mod_spelled_29 : decode b_Mod_spelled 29 = .ok (.baload, 1) := by decide +kernel
theorem d_Mod_spelled_30 : decode b_Mod_spelled 30 = .ok (.aload_n 0, 1) := by decide +kernel
theorem d_Mod_spelled_31 : decode b_Mod_spelled 31 = .ok (.getfield 13, 3) := by decide +kernel
theorem d_Mod_spelled_34 : decode b_Mod_spelled 34 = .ok (.aload_n 0, 1) := by decide +kernel
theorem d_Mod_spelled_35 : decode b_Mod_spelled 35 = .ok (.getfield 44, 3) := by decide +kernel
theorem d_Mod_spelled_38 : decode b_Mod_spelled 38 = .ok (.iload 4, 2) := by decide +kernel
theorem d_Mod_spelled_40 : decode b_Mod_spelled 40 = .ok (.iadd, 1) := by decide +kernel
theorem d_Mod_spelled_41 : decode b_Mod_spelled 41 = .ok (.baload, 1) := by decide +kernel
theorem d_Mod_spelled_42 : decode b_Mod_spelled 42 = .ok (.if_icmp .eq 5, 3) := by decide +kernel
theorem d_Mod_spelled_45 : decode b_Mod_spelled 45 = .ok (.iconst 0, 1) := by decide +kernel
theorem d_Mod_spelled_46 : decode b_Mod_spelled 46 = .ok (.ireturn, 1) := by decide +kernel
theorem d_Mod_spelled_47 : decode b_Mod_spelled 47 = .ok (.iinc 4 1, 3) := by decide +kernel
theorem d_Mod_spelled_50 : decode b_Mod_spelled 50 = .ok (.goto (-32), 3) := by decide +kernel
theorem d_Mod_spelled_53 : decode b_Mod_spelled 53 = .ok (.iconst 1, 1) := by decide +kernel
theorem d_Mod_spelled_54 : decode b_Mod_spelled 54 = .ok (.ireturn, 1) := by decide +kernel
theorem d_Mod_constant_1_0 : decode b_Mod_constant_1 0 = .ok (.iconst 0, 1) := by decide +kernel
theorem d_Mod_constant_1_1 : decode b_Mod_constant_1 1 = .ok (.istore_n 2, 1) := by decide +kernel
theorem d_Mod_constant_1_2 : decode b_Mod_constant_1 2 = .ok (.iload_n 2, 1) := by decide +kernel
theorem d_Mod_constant_1_3 : decode b_Mod_constant_1 3 = .ok (.iload_n 1, 1) := by decide +kernel
theorem d_Mod_constant_1_4 : decode b_Mod_constant_1 4 = .ok (.if_icmp .ge 34, 3) := by decide +kernel
theorem d_Mod_constant_1_7 : decode b_Mod_constant_1 7 = .ok (.aload_n 0, 1) := by decide +kernel
theorem d_Mod_constant_1_8 : decode b_Mod_constant_1 8 = .ok (.aload_n 0, 1) := by decide +kernel
theorem d_Mod_constant_1_9 : decode b_Mod_constant_1 9 = .ok (.getfield 95, 3) := by decide +kernel
theorem d_Mod_constant_1_12 : decode b_Mod_constant_1 12 = .ok (.iload_n 2, 1) := by decide +kernel
theorem d_Mod_constant_1_13 : decode b_Mod_constant_1 13 = .ok (.iaload, 1) := by decide +kernel
theorem d_Mod_constant_1_14 : decode b_Mod_constant_1 14 = .ok (.aload_n 0, 1) := by decide +kernel
theorem d_Mod_constant_1_15 : decode b_Mod_constant_1 15 = .ok (.getfield 98, 3) := by decide +kernel
theorem d_Mod_constant_1_18 : decode b_Mod_constant_1 18 = .ok (.iload_n 2, 1) := by decide +kernel
theorem d_Mod_constant_1_19 : decode b_Mod_constant_1 19 = .ok (.iaload, 1) := by decide +kernel
theorem d_Mod_constant_1_20 : decode b_Mod_constant_1 20 = .ok (.aload_n 0, 1) := by decide +kernel
theorem d_Mod_constant_1_21 : decode b_Mod_constant_1 21 = .ok (.getfield 92, 3) := by decide +kernel
theorem d_Mod_constant_1_24 : decode b_Mod_constant_1 24 = .ok (.invokevirtual 376, 3) := by decide +kernel
theorem d_Mod_constant_1_27 : decode b_Mod_constant_1 27 = .ok (.ifCond .eq 5, 3) := by decide +kernel
theorem d_Mod_constant_1_30 : decode b_Mod_constant_1 30 = .ok (.iload_n 2, 1) := by decide +kernel
theorem d_Mod_constant_1_31 : decode b_Mod_constant_1 31 = .ok (.ireturn, 1) := by decide +kernel
theorem d_Mod_constant_1_32 : decode b_Mod_constant_1 32 = .ok (.iinc 2 1, 3) := by decide +kernel
theorem d_Mod_constant_1_35 : decode b_Mod_constant_1 35 = .ok (.goto (-33), 3) := by decide +kernel
theorem d_Mod_constant_1_38 : decode b_Mod_constant_1 38 = .ok (.iconst (-1), 1) := by decide +kernel
theorem d_Mod_constant_1_39 : decode b_Mod_constant_1 39 = .ok (.ireturn, 1) := by decide +kernel
theorem d_Mod_constant_0_0 : decode b_Mod_constant_0 0 = .ok (.aload_n 0, 1) := by decide +kernel
theorem d_Mod_constant_0_1 : decode b_Mod_constant_0 1 = .ok (.aload_n 0, 1) := by decide +kernel
theorem d_Mod_constant_0_2 : decode b_Mod_constant_0 2 = .ok (.getfield 205, 3) := by decide +kernel
theorem d_Mod_constant_0_5 : decode b_Mod_constant_0 5 = .ok (.invokevirtual 373, 3) := by decide +kernel
theorem d_Mod_constant_0_8 : decode b_Mod_constant_0 8 = .ok (.ireturn, 1) := by decide +kernel
theorem d_Mod_atomHere_0 : decode b_Mod_atomHere 0 = .ok (.aload_n 0, 1) := by decide +kernel
theorem d_Mod_atomHere_1 : decode b_Mod_atomHere 1 = .ok (.invokevirtual 273, 3) := by decide +kernel
theorem d_Mod_atomHere_4 : decode b_Mod_atomHere 4 = .ok (.bipush 40, 2) := by decide +kernel
theorem d_Mod_atomHere_6 : decode b_Mod_atomHere 6 = .ok (.if_icmp .eq 48, 3) := by decide +kernel
theorem d_Mod_atomHere_9 : decode b_Mod_atomHere 9 = .ok (.aload_n 0, 1) := by decide +kernel
theorem d_Mod_atomHere_10 : decode b_Mod_atomHere 10 = .ok (.invokevirtual 273, 3) := by decide +kernel
theorem d_Mod_atomHere_13 : decode b_Mod_atomHere 13 = .ok (.iconst 1, 1) := by decide +kernel
theorem d_Mod_atomHere_14 : decode b_Mod_atomHere 14 = .ok (.if_icmp .ne 44, 3) := by decide +kernel
theorem d_Mod_atomHere_17 : decode b_Mod_atomHere 17 = .ok (.aload_n 0, 1) := by decide +kernel
theorem d_Mod_atomHere_18 : decode b_Mod_atomHere 18 = .ok (.invokevirtual 380, 3) := by decide +kernel
theorem d_Mod_atomHere_21 : decode b_Mod_atomHere 21 = .ok (.ifCond .eq 33, 3) := by decide +kernel
theorem d_Mod_atomHere_24 : decode b_Mod_atomHere 24 = .ok (.aload_n 0, 1) := by decide +kernel
theorem d_Mod_atomHere_25 : decode b_Mod_atomHere 25 = .ok (.ldc_w 317, 3) := by decide +kernel
theorem d_Mod_atomHere_28 : decode b_Mod_atomHere 28 = .ok (.invokevirtual 293, 3) := by decide +kernel
theorem d_Mod_atomHere_31 : decode b_Mod_atomHere 31 = .ok (.ifCond .ne 23, 3) := by decide +kernel
theorem d_Mod_atomHere_34 : decode b_Mod_atomHere 34 = .ok (.aload_n 0, 1) := by decide +kernel
theorem d_Mod_atomHere_35 : decode b_Mod_atomHere 35 = .ok (.ldc_w 319, 3) := by decide +kernel
theorem d_Mod_atomHere_38 : decode b_Mod_atomHere 38 = .ok (.invokevirtual 293, 3) := by decide +kernel
theorem d_Mod_atomHere_41 : decode b_Mod_atomHere 41 = .ok (.ifCond .ne 13, 3) := by decide +kernel
theorem d_Mod_atomHere_44 : decode b_Mod_atomHere 44 = .ok (.aload_n 0, 1) := by decide +kernel
theorem d_Mod_atomHere_45 : decode b_Mod_atomHere 45 = .ok (.ldc_w 321, 3) := by decide +kernel
theorem d_Mod_atomHere_48 : decode b_Mod_atomHere 48 = .ok (.invokevirtual 293, 3) := by decide +kernel
theorem d_Mod_atomHere_51 : decode b_Mod_atomHere 51 = .ok (.ifCond .eq 7, 3) := by decide +kernel
theorem d_Mod_atomHere_54 : decode b_Mod_atomHere 54 = .ok (.iconst 1, 1) := by decide +kernel
theorem d_Mod_atomHere_55 : decode b_Mod_atomHere 55 = .ok (.goto 4, 3) := by decide +kernel
theorem d_Mod_atomHere_58 : decode b_Mod_atomHere 58 = .ok (.iconst 0, 1) := by decide +kernel
theorem d_Mod_atomHere_59 : decode b_Mod_atomHere 59 = .ok (.ireturn, 1) := by decide +kernel
