theorem d_Mod_whole_0 : decode b_Mod_whole 0 = .ok (.aload_n 0, 1) := by decide +kernel
theorem d_Mod_whole_1 : decode b_Mod_whole 1 = .ok (.iconst 0, 1) := by decide +kernel
theorem d_Mod_whole_2 : decode b_Mod_whole 2 = .ok (.iload_n 1, 1) := by decide +kernel
theorem d_Mod_whole_3 : decode b_Mod_whole 3 = .ok (.iload_n 2, 1) := by decide +kernel
theorem d_Mod_whole_4 : decode b_Mod_whole 4 = .ok (.iconst 0, 1) := by decide +kernel
theorem d_Mod_whole_5 : decode b_Mod_whole 5 = .ok (.iload_n 3, 1) := by decide +kernel
theorem d_Mod_whole_6 : decode b_Mod_whole 6 = .ok (.invokevirtual 359, 3) := by decide +kernel
theorem d_Mod_whole_9 : decode b_Mod_whole 9 = .ok (.ireturn, 1) := by decide +kernel
theorem d_Mod_alone_0 : decode b_Mod_alone 0 = .ok (.aload_n 0, 1) := by decide +kernel
theorem d_Mod_alone_1 : decode b_Mod_alone 1 = .ok (.aload_n 0, 1) := by decide +kernel
theorem d_Mod_alone_2 : decode b_Mod_alone 2 = .ok (.iload_n 1, 1) := by decide +kernel
theorem d_Mod_alone_3 : decode b_Mod_alone 3 = .ok (.invokevirtual 402, 3) := by decide +kernel
theorem d_Mod_alone_6 : decode b_Mod_alone 6 = .ok (.iconst 0, 1) := by decide +kernel
theorem d_Mod_alone_7 : decode b_Mod_alone 7 = .ok (.iconst 0, 1) := by decide +kernel
theorem d_Mod_alone_8 : decode b_Mod_alone 8 = .ok (.invokevirtual 513, 3) := by decide +kernel
theorem d_Mod_alone_11 : decode b_Mod_alone 11 = .ok (.ireturn, 1) := by decide +kernel
theorem d_Mod_parts_0 : decode b_Mod_parts 0 = .ok (.aload_n 0, 1) := by decide +kernel
theorem d_Mod_parts_1 : decode b_Mod_parts 1 = .ok (.getfield 38, 3) := by decide +kernel
theorem d_Mod_parts_4 : decode b_Mod_parts 4 = .ok (.aload_n 0, 1) := by decide +kernel
theorem d_Mod_parts_5 : decode b_Mod_parts 5 = .ok (.getfield 22, 3) := by decide +kernel
theorem d_Mod_parts_8 : decode b_Mod_parts 8 = .ok (.if_icmp .ge 98, 3) := by decide +kernel
theorem d_Mod_parts_11 : decode b_Mod_parts 11 = .ok (.aload_n 0, 1) := by decide +kernel
theorem d_Mod_parts_12 : decode b_Mod_parts 12 = .ok (.getfield 13, 3) := by decide +kernel
theorem d_Mod_parts_15 : decode b_Mod_parts 15 = .ok (.aload_n 0, 1) := by decide +kernel
theorem d_Mod_parts_16 : decode b_Mod_parts 16 = .ok (.getfield 38, 3) := by decide +kernel
theorem d_Mod_parts_19 : decode b_Mod_parts 19 = .ok (.baload, 1) := by decide +kernel
theorem d_Mod_parts_20 : decode b_Mod_parts 20 = .ok (.istore_n 1, 1) := by decide +kernel
theorem d_Mod_parts_21 : decode b_Mod_parts 21 = .ok (.iload_n 1, 1) := by decide +kernel
theorem d_Mod_parts_22 : decode b_Mod_parts 22 = .ok (.bipush 37, 2) := by decide +kernel
theorem d_Mod_parts_24 : decode b_Mod_parts 24 = .ok (.if_icmp .ne 41, 3) := by decide +kernel
theorem d_Mod_parts_27 : decode b_Mod_parts 27 = .ok (.aload_n 0, 1) := by decide +kernel
theorem d_Mod_parts_28 : decode b_Mod_parts 28 = .ok (.getfield 38, 3) := by decide +kernel
theorem d_Mod_parts_31 : decode b_Mod_parts 31 = .ok (.aload_n 0, 1) := by decide +kernel
theorem d_Mod_parts_32 : decode b_Mod_parts 32 = .ok (.getfield 22, 3) := by decide +kernel
theorem d_Mod_parts_35 : decode b_Mod_parts 35 = .ok (.if_icmp .ge 68, 3) := by decide +kernel
theorem d_Mod_parts_38 : decode b_Mod_parts 38 = .ok (.aload_n 0, 1) := by decide +kernel
theorem d_Mod_parts_39 : decode b_Mod_parts 39 = .ok (.getfield 13, 3) := by decide +kernel
theorem d_Mod_parts_42 : decode b_Mod_parts 42 = .ok (.aload_n 0, 1) := by decide +kernel
theorem d_Mod_parts_43 : decode b_Mod_parts 43 = .ok (.getfield 38, 3) := by decide +kernel
theorem d_Mod_parts_46 : decode b_Mod_parts 46 = .ok (.baload, 1) := by decide +kernel
theorem d_Mod_parts_47 : decode b_Mod_parts 47 = .ok (.bipush 10, 2) := by decide +kernel
theorem d_Mod_parts_49 : decode b_Mod_parts 49 = .ok (.if_icmp .eq 54, 3) := by decide +kernel
theorem d_Mod_parts_52 : decode b_Mod_parts 52 = .ok (.aload_n 0, 1) := by decide +kernel
theorem d_Mod_parts_53 : decode b_Mod_parts 53 = .ok (.dup, 1) := by decide +kernel
theorem d_Mod_parts_54 : decode b_Mod_parts 54 = .ok (.getfield 38, 3) := by decide +kernel
theorem d_Mod_parts_57 : decode b_Mod_parts 57 = .ok (.iconst 1, 1) := by decide +kernel
theorem d_Mod_parts_58 : decode b_Mod_parts 58 = .ok (.iadd, 1) := by decide +kernel
theorem d_Mod_parts_59 : decode b_Mod_parts 59 = .ok (.putfield 38, 3) := by decide +kernel
theorem d_Mod_parts_62 : decode b_Mod_parts 62 = .ok (.goto (-35), 3) := by decide +kernel
theorem d_Mod_parts_65 : decode b_Mod_parts 65 = .ok (.iload_n 1, 1) := by decide +kernel
theorem d_Mod_parts_66 : decode b_Mod_parts 66 = .ok (.bipush 32, 2) := by decide +kernel
theorem d_Mod_parts_68 : decode b_Mod_parts 68 = .ok (.if_icmp .eq 21, 3) := by decide +kernel
theorem d_Mod_parts_71 : decode b_Mod_parts 71 = .ok (.iload_n 1, 1) := by decide +kernel
theorem d_Mod_parts_72 : decode b_Mod_parts 72 = .ok (.bipush 9, 2) := by decide +kernel
theorem d_Mod_parts_74 : decode b_Mod_parts 74 = .ok (.if_icmp .eq 15, 3) := by decide +kernel
theorem d_Mod_parts_77 : decode b_Mod_parts 77 = .ok (.iload_n 1, 1) := by decide +kernel
theorem d_Mod_parts_78 : decode b_Mod_parts 78 = .ok (.bipush 10, 2) := by decide +kernel
theorem d_Mod_parts_80 : decode b_Mod_parts 80 = .ok (.if_icmp .eq 9, 3) := by decide +kernel
theorem d_Mod_parts_83 : decode b_Mod_parts 83 = .ok (.iload_n 1, 1) := by decide +kernel
theorem d_Mod_parts_84 : decode b_Mod_parts 84 = .ok (.bipush 13, 2) := by decide +kernel
theorem d_Mod_parts_86 : decode b_Mod_parts 86 = .ok (.if_icmp .ne 16, 3) := by decide +kernel
theorem d_Mod_parts_89 : decode b_Mod_parts 89 = .ok (.aload_n 0, 1) := by decide +kernel
theorem d_Mod_parts_90 : decode b_Mod_parts 90 = .ok (.dup, 1) := by decide +kernel
theorem d_Mod_parts_91 : decode b_Mod_parts 91 = .ok (.getfield 38, 3) := by decide +kernel
theorem d_Mod_parts_94 : decode b_Mod_parts 94 = .ok (.iconst 1, 1) := by decide +kernel
theorem d_Mod_parts_95 : decode b_Mod_parts 95 = .ok (.iadd, 1) := by decide +kernel
theorem d_Mod_parts_96 : decode b_Mod_parts 96 = .ok (.putfield 38, 3) := by decide +kernel
theorem d_Mod_parts_99 : decode b_Mod_parts 99 = .ok (.goto 4, 3) := by decide +kernel
theorem d_Mod_parts_102 : decode b_Mod_parts 102 = .ok (.return_, 1) := by decide +kernel
theorem d_Mod_parts_103 : decode b_Mod_parts 103 = .ok (.goto (-103), 3) := by decide +kernel
theorem d_Mod_parts_106 : decode b_Mod_parts 106 = .ok (.return_, 1) := by decide +kernel
theorem d_Mod_letter_0 : decode b_Mod_letter 0 = .ok (.iload_n 0, 1) := by decide +kernel
theorem d_Mod_letter_1 : decode b_Mod_letter 1 = .ok (.bipush 97, 2) := by decide +kernel
theorem d_Mod_letter_3 : decode b_Mod_letter 3 = .ok (.if_icmp .lt 9, 3) := by decide +kernel
theorem d_Mod_letter_6 : decode b_Mod_letter 6 = .ok (.iload_n 0, 1) := by decide +kernel
theorem d_Mod_letter_7 : decode b_Mod_letter 7 = .ok (.bipush 122, 2) := by decide +kernel
theorem d_Mod_letter_9 : decode b_Mod_letter 9 = .ok (.if_icmp .le 15, 3) := by decide +kernel
theorem d_Mod_letter_12 : decode b_Mod_letter 12 = .ok (.iload_n 0, 1) := by decide +kernel
theorem d_Mod_letter_13 : decode b_Mod_letter 13 = .ok (.bipush 65, 2) := by decide +kernel
theorem d_Mod_letter_15 : decode b_Mod_letter 15 = .ok (.if_icmp .lt 13, 3) := by decide +kernel
theorem d_Mod_letter_18 : decode b_Mod_letter 18 = .ok (.iload_n 0, 1) := by decide +kernel
theorem d_Mod_letter_19 : decode b_Mod_letter 19 = .ok (.bipush 90, 2) := by decide +kernel
theorem d_Mod_letter_21 : decode b_Mod_letter 21 = .ok (.if_icmp .gt 7, 3) := by decide +kernel
theorem d_Mod_letter_24 : decode b_Mod_letter 24 = .ok (.iconst 1, 1) := by decide +kernel
theorem d_Mod_letter_25 : decode b_Mod_letter 25 = .ok (.goto 4, 3) := by decide +kernel
theorem d_Mod_letter_28 : decode b_Mod_letter 28 = .ok (.iconst 0, 1) := by decide +kernel
theorem d_Mod_letter_29 : decode b_Mod_letter 29 = .ok (.ireturn, 1) := by decide +kernel
theorem d_Mod_digit_0 : decode b_Mod_digit 0 = .ok (.iload_n 0, 1) := by decide +kernel
theorem d_Mod_digit_1 : decode b_Mod_digit 1 = .ok (.bipush 48, 2) := by decide +kernel
theorem d_Mod_digit_3 : decode b_Mod_digit 3 = .ok (.if_icmp .lt 13, 3) := by decide +kernel
theorem d_Mod_digit_6 : decode b_Mod_digit 6 = .ok (.iload_n 0, 1) := by decide +kernel
theorem d_Mod_digit_7 : decode b_Mod_digit 7 = .ok (.bipush 57, 2) := by decide +kernel
theorem d_Mod_digit_9 : decode b_Mod_digit 9 = .ok (.if_icmp .gt 7, 3) := by decide +kernel
theorem d_Mod_digit_12 : decode b_Mod_digit 12 = .ok (.iconst 1, 1) := by decide +kernel
theorem d_Mod_digit_13 : decode b_Mod_digit 13 = .ok (.goto 4, 3) := by decide +kernel
theorem d_Mod_digit_16 : decode b_Mod_digit 16 = .ok (.iconst 0, 1) := by decide +kernel
theorem d_Mod_digit_17 : decode b_Mod_digit 17 = .ok (.ireturn, 1) := by decide +kernel
theorem d_Mod_byteAt_0 : decode b_Mod_byteAt 0 = .ok (.iload_n 1, 1) := by decide +kernel
theorem d_Mod_byteAt_1 : decode b_Mod_byteAt 1 = .ok (.aload_n 0, 1) := by decide +kernel
theorem d_Mod_byteAt_2 : decode b_Mod_byteAt 2 = .ok (.getfield 22, 3) := by decide +kernel
theorem d_Mod_byteAt_5 : decode b_Mod_byteAt 5 = .ok (.if_icmp .ge 12, 3) := by decide +kernel
theorem d_Mod_byteAt_8 : decode b_Mod_byteAt 8 = .ok (.aload_n 0, 1) := by decide +kernel
theorem d_Mod_byteAt_9 : decode b_Mod_byteAt 9 = .ok (.getfield 13, 3) := by decide +kernel
theorem d_Mod_byteAt_12 : decode b_Mod_byteAt 12 = .ok (.iload_n 1, 1) := by decide +kernel
theorem d_Mod_byteAt_13 : decode b_Mod_byteAt 13 = .ok (.baload, 1) := by decide +kernel
theorem d_Mod_byteAt_14 : decode b_Mod_byteAt 14 = .ok (.goto 4, 3) := by decide +kernel
theorem d_Mod_byteAt_17 : decode b_Mod_byteAt 17 = .ok (.iconst 0, 1) := by decide +kernel
theorem d_Mod_byteAt_18 : decode b_Mod_byteAt 18 = .ok (.ireturn, 1) := by decide +kernel
theorem d_Mod_sign_0 : decode b_Mod_sign 0 = .ok (.iload_n 0, 1) := by decide +kernel
theorem d_Mod_sign_1 : decode b_Mod_sign 1 = .ok (.lookupswitch 135 #[(40, 91), (41, 91), (44, 91), (45, 121), (46, 91), (58, 93), (61, 107), (123, 91), (124, 91), (125, 91)], 91) := by decide +kernel
theorem d_Mod_sign_92 : decode b_Mod_sign 92 = .ok (.iload_n 0, 1) := by decide +kernel
theorem d_Mod_sign_93 : decode b_Mod_sign 93 = .ok (.ireturn, 1) := by decide +kernel
theorem d_Mod_sign_94 : decode b_Mod_sign 94 = .ok (.iload_n 1, 1) := by decide +kernel
theorem d_Mod_sign_95 : decode b_Mod_sign 95 = .ok (.bipush 61, 2) := by decide +kernel
theorem d_Mod_sign_97 : decode b_Mod_sign 97 = .ok (.if_icmp .ne 9, 3) := by decide +kernel
theorem d_Mod_sign_100 : decode b_Mod_sign 100 = .ok (.sipush 300, 3) := by decide +kernel
theorem d_Mod_sign_103 : decode b_Mod_sign 103 = .ok (.goto 4, 3) := by decide +kernel
theorem d_Mod_sign_106 : decode b_Mod_sign 106 = .ok (.iload_n 0, 1) := by decide +kernel
theorem d_Mod_sign_107 : decode b_Mod_sign 107 = .ok (.ireturn, 1) := by decide +kernel
theorem d_Mod_sign_108 : decode b_Mod_sign 108 = .ok (.iload_n 1, 1) := by decide +kernel
theorem d_Mod_sign_109 : decode b_Mod_sign 109 = .ok (.bipush 62, 2) := by decide +kernel
theorem d_Mod_sign_111 : decode b_Mod_sign 111 = .ok (.if_icmp .ne 9, 3) := by decide +kernel
theorem d_Mod_sign_114 : decode b_Mod_sign 114 = .ok (.sipush 301, 3) := by decide +kernel
theorem d_Mod_sign_117 : decode b_Mod_sign 117 = .ok (.goto 4, 3) := by decide +kernel
theorem d_Mod_sign_120 : decode b_Mod_sign 120 = .ok (.iconst 3, 1) := by decide +kernel
theorem d_Mod_sign_121 : decode b_Mod_sign 121 = .ok (.ireturn, 1) := by decide +kernel
theorem d_Mod_sign_122 : decode b_Mod_sign 122 = .ok (.iload_n 1, 1) := by decide +kernel
theorem d_Mod_sign_123 : decode b_Mod_sign 123 = .ok (.bipush 62, 2) := by decide +kernel
theorem d_Mod_sign_125 : decode b_Mod_sign 125 = .ok (.if_icmp .ne 9, 3) := by decide +kernel
theorem d_Mod_sign_128 : decode b_Mod_sign 128 = .ok (.sipush 302, 3) := by decide +kernel
theorem d_Mod_sign_131 : decode b_Mod_sign 131 = .ok (.goto 4, 3) := by decide +kernel
theorem d_Mod_sign_134 : decode b_Mod_sign 134 = .ok (.iconst 3, 1) := by decide +kernel
theorem d_Mod_sign_135 : decode b_Mod_sign 135 = .ok (.ireturn, 1) := by decide +kernel
theorem d_Mod_sign_136 : decode b_Mod_sign 136 = .ok (.iconst 3, 1) := by decide +kernel
theorem d_Mod_sign_137 : decode b_Mod_sign 137 = .ok (.ireturn, 1) := by decide +kernel
theorem d_Mod_peek_0 : decode b_Mod_peek 0 = .ok (.aload_n 0, 1) := by decide +kernel
theorem d_Mod_peek_1 : decode b_Mod_peek 1 = .ok (.getfield 50, 3) := by decide +kernel
theorem d_Mod_peek_4 : decode b_Mod_peek 4 = .ok (.ifCond .eq 8, 3) := by decide +kernel
theorem d_Mod_peek_7 : decode b_Mod_peek 7 = .ok (.aload_n 0, 1) := by decide +kernel
theorem d_Mod_peek_8 : decode b_Mod_peek 8 = .ok (.getfield 41, 3) := by decide +kernel
theorem d_Mod_peek_11 : decode b_Mod_peek 11 = .ok (.ireturn, 1) := by decide +kernel
theorem d_Mod_peek_12 : decode b_Mod_peek 12 = .ok (.aload_n 0, 1) := by decide +kernel
theorem d_Mod_peek_13 : decode b_Mod_peek 13 = .ok (.invokevirtual 255, 3) := by decide +kernel
theorem d_Mod_peek_16 : decode b_Mod_peek 16 = .ok (.aload_n 0, 1) := by decide +kernel
theorem d_Mod_peek_17 : decode b_Mod_peek 17 = .ok (.iconst 1, 1) := by decide +kernel
theorem d_Mod_peek_18 : decode b_Mod_peek 18 = .ok (.putfield 50, 3) := by decide +kernel
theorem d_Mod_peek_21 : decode b_Mod_peek 21 = .ok (.aload_n 0, 1) := by decide +kernel
theorem d_Mod_peek_22 : decode b_Mod_peek 22 = .ok (.aload_n 0, 1) := by decide +kernel
theorem d_Mod_peek_23 : decode b_Mod_peek 23 = .ok (.getfield 38, 3) := by decide +kernel
theorem d_Mod_peek_26 : decode b_Mod_peek 26 = .ok (.putfield 44, 3) := by decide +kernel
theorem d_Mod_peek_29 : decode b_Mod_peek 29 = .ok (.aload_n 0, 1) := by decide +kernel
theorem d_Mod_peek_30 : decode b_Mod_peek 30 = .ok (.aload_n 0, 1) := by decide +kernel
theorem d_Mod_peek_31 : decode b_Mod_peek 31 = .ok (.getfield 38, 3) := by decide +kernel
theorem d_Mod_peek_34 : decode b_Mod_peek 34 = .ok (.putfield 47, 3) := by decide +kernel
theorem d_Mod_peek_37 : decode b_Mod_peek 37 = .ok (.aload_n 0, 1) := by decide +kernel
theorem d_Mod_peek_38 : decode b_Mod_peek 38 = .ok (.iconst 0, 1) := by decide +kernel
theorem d_Mod_peek_39 : decode b_Mod_peek 39 = .ok (.putfield 41, 3) := by decide +kernel
theorem d_Mod_peek_42 : decode b_Mod_peek 42 = .ok (.aload_n 0, 1) := by decide +kernel
theorem d_Mod_peek_43 : decode b_Mod_peek 43 = .ok (.getfield 38, 3) := by decide +kernel
theorem d_Mod_peek_46 : decode b_Mod_peek 46 = .ok (.aload_n 0, 1) := by decide +kernel
theorem d_Mod_peek_47 : decode b_Mod_peek 47 = .ok (.getfield 22, 3) := by decide +kernel
theorem d_Mod_peek_50 : decode b_Mod_peek 50 = .ok (.if_icmp .ne 5, 3) := by decide +kernel
theorem d_Mod_peek_53 : decode b_Mod_peek 53 = .ok (.iconst 0, 1) := by decide +kernel
theorem d_Mod_peek_54 : decode b_Mod_peek 54 = .ok (.ireturn, 1) := by decide +kernel
theorem d_Mod_peek_55 : decode b_Mod_peek 55 = .ok (.aload_n 0, 1) := by decide +kernel
theorem d_Mod_peek_56 : decode b_Mod_peek 56 = .ok (.getfield 13, 3) := by decide +kernel
theorem d_Mod_peek_59 : decode b_Mod_peek 59 = .ok (.aload_n 0, 1) := by decide +kernel
theorem d_Mod_peek_60 : decode b_Mod_peek 60 = .ok (.getfield 38, 3) := by decide +kernel
theorem d_Mod_peek_63 : decode b_Mod_peek 63 = .ok (.baload, 1) := by decide +kernel
theorem d_Mod_peek_64 : decode b_Mod_peek 64 = .ok (.istore_n 1, 1) := by decide +kernel
theorem d_Mod_peek_65 : decode b_Mod_peek 65 = .ok (.iload_n 1, 1) := by decide +kernel
theorem d_Mod_peek_66 : decode b_Mod_peek 66 = .ok (.invokestatic 258, 3) := by decide +kernel
theorem d_Mod_peek_69 : decode b_Mod_peek 69 = .ok (.ifCond .eq 111, 3) := by decide +kernel
theorem d_Mod_peek_72 : decode b_Mod_peek 72 = .ok (.aload_n 0, 1) := by decide +kernel
theorem d_Mod_peek_73 : decode b_Mod_peek 73 = .ok (.getfield 47, 3) := by decide +kernel
theorem d_Mod_peek_76 : decode b_Mod_peek 76 = .ok (.aload_n 0, 1) := by decide +kernel
theorem d_Mod_peek_77 : decode b_Mod_peek 77 = .ok (.getfield 22, 3) := by decide +kernel
theorem d_Mod_peek_80 : decode b_Mod_peek 80 = .ok (.if_icmp .ge 74, 3) := by decide +kernel
theorem d_Mod_peek_83 : decode b_Mod_peek 83 = .ok (.aload_n 0, 1) := by decide +kernel
theorem d_Mod_peek_84 : decode b_Mod_peek 84 = .ok (.getfield 13, 3) := by decide +kernel
theorem d_Mod_peek_87 : decode b_Mod_peek 87 = .ok (.aload_n 0, 1) := by decide +kernel
theorem d_Mod_peek_88 : decode b_Mod_peek 88 = .ok (.getfield 47, 3) := by decide +kernel
theorem d_Mod_peek_91 : decode b_Mod_peek 91 = .ok (.baload, 1) := by decide +kernel
theorem d_Mod_peek_92 : decode b_Mod_peek 92 = .ok (.invokestatic 258, 3) := by decide +kernel
theorem d_Mod_peek_95 : decode b_Mod_peek 95 = .ok (.ifCond .ne 46, 3) := by decide +kernel
theorem d_Mod_peek_98 : decode b_Mod_peek 98 = .ok (.aload_n 0, 1) := by decide +kernel
theorem d_Mod_peek_99 : decode b_Mod_peek 99 = .ok (.getfield 13, 3) := by decide +kernel
theorem d_Mod_peek_102 : decode b_Mod_peek 102 = .ok (.aload_n 0, 1) := by decide +kernel
theorem d_Mod_peek_103 : decode b_Mod_peek 103 = .ok (.getfield 47, 3) := by decide +kernel
theorem d_Mod_peek_106 : decode b_Mod_peek 106 = .ok (.baload, 1) := by decide +kernel
theorem d_Mod_peek_107 : decode b_Mod_peek 107 = .ok (.invokestatic 262, 3) := by decide +kernel
theorem d_Mod_peek_110 : decode b_Mod_peek 110 = .ok (.ifCond .ne 31, 3) := by decide +kernel
theorem d_Mod_peek_113 : decode b_Mod_peek 113 = .ok (.aload_n 0, 1) := by decide +kernel
theorem d_Mod_peek_114 : decode b_Mod_peek 114 = .ok (.getfield 13, 3) := by decide +kernel
theorem d_Mod_peek_117 : decode b_Mod_peek 117 = .ok (.aload_n 0, 1) := by decide +kernel
theorem d_Mod_peek_118 : decode b_Mod_peek 118 = .ok (.getfield 47, 3) := by decide +kernel
theorem d_Mod_peek_121 : decode b_Mod_peek 121 = .ok (.baload, 1) := by decide +kernel
theorem d_Mod_peek_122 : decode b_Mod_peek 122 = .ok (.bipush 95, 2) := by decide +kernel
theorem d_Mod_peek_124 : decode b_Mod_peek 124 = .ok (.if_icmp .eq 17, 3) := by decide +kernel
theorem d_Mod_peek_127 : decode b_Mod_peek 127 = .ok (.aload_n 0, 1) := by decide +kernel
theorem d_Mod_peek_128 : decode b_Mod_peek 128 = .ok (.getfield 13, 3) := by decide +kernel
theorem d_Mod_peek_131 : decode b_Mod_peek 131 = .ok (.aload_n 0, 1) := by decide +kernel
theorem d_Mod_peek_132 : decode b_Mod_peek 132 = .ok (.getfield 47, 3) := by decide +kernel
theorem d_Mod_peek_135 : decode b_Mod_peek 135 = .ok (.baload, 1) := by decide +kernel
theorem d_Mod_peek_136 : decode b_Mod_peek 136 = .ok (.bipush 39, 2) := by decide +kernel
theorem d_Mod_peek_138 : decode b_Mod_peek 138 = .ok (.if_icmp .ne 16, 3) := by decide +kernel
theorem d_Mod_peek_141 : decode b_Mod_peek 141 = .ok (.aload_n 0, 1) := by decide +kernel
theorem d_Mod_peek_142 : decode b_Mod_peek 142 = .ok (.dup, 1) := by decide +kernel
theorem d_Mod_peek_143 : decode b_Mod_peek 143 = .ok (.getfield 47, 3) := by decide +kernel
theorem d_Mod_peek_146 : decode b_Mod_peek 146 = .ok (.iconst 1, 1) := by decide +kernel
theorem d_Mod_peek_147 : decode b_Mod_peek 147 = .ok (.iadd, 1) := by decide +kernel
theorem d_Mod_peek_148 : decode b_Mod_peek 148 = .ok (.putfield 47, 3) := by decide +kernel
theorem d_Mod_peek_151 : decode b_Mod_peek 151 = .ok (.goto (-79), 3) := by decide +kernel
theorem d_Mod_peek_154 : decode b_Mod_peek 154 = .ok (.aload_n 0, 1) := by decide +kernel
theorem d_Mod_peek_155 : decode b_Mod_peek 155 = .ok (.aload_n 0, 1) := by decide +kernel
theorem d_Mod_peek_156 : decode b_Mod_peek 156 = .ok (.getfield 47, 3) := by decide +kernel
theorem d_Mod_peek_159 : decode b_Mod_peek 159 = .ok (.aload_n 0, 1) := by decide +kernel
theorem d_Mod_peek_160 : decode b_Mod_peek 160 = .ok (.getfield 38, 3) := by decide +kernel
theorem d_Mod_peek_163 : decode b_Mod_peek 163 = .ok (.isub, 1) := by decide +kernel
theorem d_Mod_peek_164 : decode b_Mod_peek 164 = .ok (.bipush 31, 2) := by decide +kernel
theorem d_Mod_peek_166 : decode b_Mod_peek 166 = .ok (.if_icmp .le 7, 3) := by decide +kernel
theorem d_Mod_peek_169 : decode b_Mod_peek 169 = .ok (.iconst 3, 1) := by decide +kernel
theorem d_Mod_peek_170 : decode b_Mod_peek 170 = .ok (.goto 4, 3) := by decide +kernel
theorem d_Mod_peek_173 : decode b_Mod_peek 173 = .ok (.iconst 1, 1) := by decide +kernel
theorem d_Mod_peek_174 : decode b_Mod_peek 174 = .ok (.putfield 41, 3) := by decide +kernel
theorem d_Mod_peek_177 : decode b_Mod_peek 177 = .ok (.goto 122, 3) := by decide +kernel
theorem d_Mod_peek_180 : decode b_Mod_peek 180 = .ok (.iload_n 1, 1) := by decide +kernel
theorem d_Mod_peek_181 : decode b_Mod_peek 181 = .ok (.invokestatic 262, 3) := by decide +kernel
theorem d_Mod_peek_184 : decode b_Mod_peek 184 = .ok (.ifCond .eq 67, 3) := by decide +kernel
theorem d_Mod_peek_187 : decode b_Mod_peek 187 = .ok (.aload_n 0, 1) := by decide +kernel
theorem d_Mod_peek_188 : decode b_Mod_peek 188 = .ok (.getfield 47, 3) := by decide +kernel
theorem d_Mod_peek_191 : decode b_Mod_peek 191 = .ok (.aload_n 0, 1) := by decide +kernel
theorem d_Mod_peek_192 : decode b_Mod_peek 192 = .ok (.getfield 22, 3) := by decide +kernel
theorem d_Mod_peek_195 : decode b_Mod_peek 195 = .ok (.if_icmp .ge 31, 3) := by decide +kernel
theorem d_Mod_peek_198 : decode b_Mod_peek 198 = .ok (.aload_n 0, 1) := by decide +kernel
theorem d_Mod_peek_199 : decode b_Mod_peek 199 = .ok (.getfield 13, 3) := by decide +kernel
theorem d_Mod_peek_202 : decode b_Mod_peek 202 = .ok (.aload_n 0, 1) := by decide +kernel
theorem d_Mod_peek_203 : decode b_Mod_peek 203 = .ok (.getfield 47, 3) := by decide +kernel
theorem d_Mod_peek_206 : decode b_Mod_peek 206 = .ok (.baload, 1) := by decide +kernel
theorem d_Mod_peek_207 : decode b_Mod_peek 207 = .ok (.invokestatic 262, 3) := by decide +kernel
theorem d_Mod_peek_210 : decode b_Mod_peek 210 = .ok (.ifCond .eq 16, 3) := by decide +kernel
theorem d_Mod_peek_213 : decode b_Mod_peek 213 = .ok (.aload_n 0, 1) := by decide +kernel
theorem d_Mod_peek_214 : decode b_Mod_peek 214 = .ok (.dup, 1) := by decide +kernel
theorem d_Mod_peek_215 : decode b_Mod_peek 215 = .ok (.getfield 47, 3) := by decide +kernel
theorem d_Mod_peek_218 : decode b_Mod_peek 218 = .ok (.iconst 1, 1) := by decide +kernel
theorem d_Mod_peek_219 : decode b_Mod_peek 219 = .ok (.iadd, 1) := by decide +kernel
theorem d_Mod_peek_220 : decode b_Mod_peek 220 = .ok (.putfield 47, 3) := by decide +kernel
theorem d_Mod_peek_223 : decode b_Mod_peek 223 = .ok (.goto (-36), 3) := by decide +kernel
theorem d_Mod_peek_226 : decode b_Mod_peek 226 = .ok (.aload_n 0, 1) := by decide +kernel
theorem d_Mod_peek_227 : decode b_Mod_peek 227 = .ok (.aload_n 0, 1) := by decide +kernel
theorem d_Mod_peek_228 : decode b_Mod_peek 228 = .ok (.getfield 47, 3) := by decide +kernel
theorem d_Mod_peek_231 : decode b_Mod_peek 231 = .ok (.aload_n 0, 1) := by decide +kernel
theorem d_Mod_peek_232 : decode b_Mod_peek 232 = .ok (.getfield 38, 3) := by decide +kernel
theorem d_Mod_peek_235 : decode b_Mod_peek 235 = .ok (.isub, 1) := by decide +kernel
theorem d_Mod_peek_236 : decode b_Mod_peek 236 = .ok (.iconst 4, 1) := by decide +kernel
theorem d_Mod_peek_237 : decode b_Mod_peek 237 = .ok (.if_icmp .le 7, 3) := by decide +kernel
theorem d_Mod_peek_240 : decode b_Mod_peek 240 = .ok (.iconst 3, 1) := by decide +kernel
theorem d_Mod_peek_241 : decode b_Mod_peek 241 = .ok (.goto 4, 3) := by decide +kernel
theorem d_Mod_peek_244 : decode b_Mod_peek 244 = .ok (.iconst 2, 1) := by decide +kernel
theorem d_Mod_peek_245 : decode b_Mod_peek 245 = .ok (.putfield 41, 3) := by decide +kernel
theorem d_Mod_peek_248 : decode b_Mod_peek 248 = .ok (.goto 51, 3) := by decide +kernel
theorem d_Mod_peek_251 : decode b_Mod_peek 251 = .ok (.aload_n 0, 1) := by decide +kernel
theorem d_Mod_peek_252 : decode b_Mod_peek 252 = .ok (.aload_n 0, 1) := by decide +kernel
theorem d_Mod_peek_253 : decode b_Mod_peek 253 = .ok (.getfield 38, 3) := by decide +kernel
theorem d_Mod_peek_256 : decode b_Mod_peek 256 = .ok (.iconst 1, 1) := by decide +kernel
theorem d_Mod_peek_257 : decode b_Mod_peek 257 = .ok (.iadd, 1) := by decide +kernel
theorem d_Mod_peek_258 : decode b_Mod_peek 258 = .ok (.putfield 47, 3) := by decide +kernel
theorem d_Mod_peek_261 : decode b_Mod_peek 261 = .ok (.aload_n 0, 1) := by decide +kernel
theorem d_Mod_peek_262 : decode b_Mod_peek 262 = .ok (.iload_n 1, 1) := by decide +kernel
theorem d_Mod_peek_263 : decode b_Mod_peek 263 = .ok (.aload_n 0, 1) := by decide +kernel
theorem d_Mod_peek_264 : decode b_Mod_peek 264 = .ok (.aload_n 0, 1) := by decide +kernel
theorem d_Mod_peek_265 : decode b_Mod_peek 265 = .ok (.getfield 38, 3) := by decide +kernel
theorem d_Mod_peek_268 : decode b_Mod_peek 268 = .ok (.iconst 1, 1) := by decide +kernel
theorem d_Mod_peek_269 : decode b_Mod_peek 269 = .ok (.iadd, 1) := by decide +kernel
theorem d_Mod_peek_270 : decode b_Mod_peek 270 = .ok (.invokevirtual 265, 3) := by decide +kernel
theorem d_Mod_peek_273 : decode b_Mod_peek 273 = .ok (.invokestatic 269, 3) := by decide +kernel
theorem d_Mod_peek_276 : decode b_Mod_peek 276 = .ok (.putfield 41, 3) := by decide +kernel
theorem d_Mod_peek_279 : decode b_Mod_peek 279 = .ok (.aload_n 0, 1) := by decide +kernel
theorem d_Mod_peek_280 : decode b_Mod_peek 280 = .ok (.getfield 41, 3) := by decide +kernel
theorem d_Mod_peek_283 : decode b_Mod_peek 283 = .ok (.sipush 299, 3) := by decide +kernel
theorem d_Mod_peek_286 : decode b_Mod_peek 286 = .ok (.if_icmp .le 13, 3) := by decide +kernel
theorem d_Mod_peek_289 : decode b_Mod_peek 289 = .ok (.aload_n 0, 1) := by decide +kernel
theorem d_Mod_peek_290 : decode b_Mod_peek 290 = .ok (.dup, 1) := by decide +kernel
theorem d_Mod_peek_291 : decode b_Mod_peek 291 = .ok (.getfield 47, 3) := by decide +kernel
theorem d_Mod_peek_294 : decode b_Mod_peek 294 = .ok (.iconst 1, 1) := by decide +kernel
theorem d_Mod_peek_295 : decode b_Mod_peek 295 = .ok (.iadd, 1) := by decide +kernel
theorem d_Mod_peek_296 : decode b_Mod_peek 296 = .ok (.putfield 47, 3) := by decide +kernel
theorem d_Mod_peek_299 : decode b_Mod_peek 299 = .ok (.aload_n 0, 1) := by decide +kernel
theorem d_Mod_peek_300 : decode b_Mod_peek 300 = .ok (.getfield 41, 3) := by decide +kernel
theorem d_Mod_peek_303 : decode b_Mod_peek 303 = .ok (.ireturn, 1) := by decide +kernel
theorem d_Mod_take_0 : decode b_Mod_take 0 = .ok (.aload_n 0, 1) := by decide +kernel
theorem d_Mod_take_1 : decode b_Mod_take 1 = .ok (.invokevirtual 273, 3) := by decide +kernel
theorem d_Mod_take_4 : decode b_Mod_take 4 = .ok (.pop, 1) := by decide +kernel
theorem d_Mod_take_5 : decode b_Mod_take 5 = .ok (.aload_n 0, 1) := by decide +kernel
theorem d_Mod_take_6 : decode b_Mod_take 6 = .ok (.aload_n 0, 1) := by decide +kernel
theorem d_Mod_take_7 : decode b_Mod_take 7 = .ok (.getfield 47, 3) := by decide +kernel
theorem d_Mod_take_10 : decode b_Mod_take 10 = .ok (.putfield 38, 3) := by decide +kernel
theorem d_Mod_take_13 : decode b_Mod_take 13 = .ok (.aload_n 0, 1) := by decide +kernel
theorem d_Mod_take_14 : decode b_Mod_take 14 = .ok (.iconst 0, 1) := by decide +kernel
theorem d_Mod_take_15 : decode b_Mod_take 15 = .ok (.putfield 50, 3) := by decide +kernel
theorem d_Mod_take_18 : decode b_Mod_take 18 = .ok (.return_, 1) := by decide +kernel
theorem d_Mod_nest_0 : decode b_Mod_nest 0 = .ok (.iload_n 1, 1) := by decide +kernel
theorem d_Mod_nest_1 : decode b_Mod_nest 1 = .ok (.bipush 100, 2) := by decide +kernel
theorem d_Mod_nest_3 : decode b_Mod_nest 3 = .ok (.if_icmp .ge 7, 3) := by decide +kernel
theorem d_Mod_nest_6 : decode b_Mod_nest 6 = .ok (.iload_n 1, 1) := by decide +kernel
theorem d_Mod_nest_7 : decode b_Mod_nest 7 = .ok (.iconst 1, 1) := by decide +kernel
theorem d_Mod_nest_8 : decode b_Mod_nest 8 = .ok (.iadd, 1) := by decide +kernel
theorem d_Mod_nest_9 : decode b_Mod_nest 9 = .ok (.ireturn, 1) := by decide +kernel
theorem d_Mod_nest_10 : decode b_Mod_nest 10 = .ok (.aload_n 0, 1) := by decide +kernel
theorem d_Mod_nest_11 : decode b_Mod_nest 11 = .ok (.invokevirtual 273, 3) := by decide +kernel
theorem d_Mod_nest_14 : decode b_Mod_nest 14 = .ok (.pop, 1) := by decide +kernel
theorem d_Mod_nest_15 : decode b_Mod_nest 15 = .ok (.new 1, 3) := by decide +kernel
theorem d_Mod_nest_18 : decode b_Mod_nest 18 = .ok (.dup, 1) := by decide +kernel
theorem d_Mod_nest_19 : decode b_Mod_nest 19 = .ok (.iconst 3, 1) := by decide +kernel
theorem d_Mod_nest_20 : decode b_Mod_nest 20 = .ok (.aload_n 0, 1) := by decide +kernel
theorem d_Mod_nest_21 : decode b_Mod_nest 21 = .ok (.getfield 44, 3) := by decide +kernel
theorem d_Mod_nest_24 : decode b_Mod_nest 24 = .ok (.invokespecial 3, 3) := by decide +kernel
theorem d_Mod_nest_27 : decode b_Mod_nest 27 = .ok (.athrow, 1) := by decide +kernel
theorem d_Mod_is_0 : decode b_Mod_is 0 = .ok (.aload_n 0, 1) := by decide +kernel
theorem d_Mod_is_1 : decode b_Mod_is 1 = .ok (.invokevirtual 273, 3) := by decide +kernel
theorem d_Mod_is_4 : decode b_Mod_is 4 = .ok (.iconst 1, 1) := by decide +kernel
theorem d_Mod_is_5 : decode b_Mod_is 5 = .ok (.if_icmp .ne 19, 3) := by decide +kernel
theorem d_Mod_is_8 : decode b_Mod_is 8 = .ok (.aload_n 0, 1) := by decide +kernel
theorem d_Mod_is_9 : decode b_Mod_is 9 = .ok (.getfield 47, 3) := by decide +kernel
theorem d_Mod_is_12 : decode b_Mod_is 12 = .ok (.aload_n 0, 1) := by decide +kernel
theorem d_Mod_is_13 : decode b_Mod_is 13 = .ok (.getfield 44, 3) := by decide +kernel
theorem d_Mod_is_16 : decode b_Mod_is 16 = .ok (.isub, 1) := by decide +kernel
theorem d_Mod_is_17 : decode b_Mod_is 17 = .ok (.aload_n 1, 1) := by decide +kernel
theorem d_Mod_is_18 : decode b_Mod_is 18 = .ok (.invokevirtual 284, 3) := by decide +kernel
theorem d_Mod_is_21 : decode b_Mod_is 21 = .ok (.if_icmp .eq 5, 3) := by decide +kernel
theorem d_Mod_is_24 : decode b_Mod_is 24 = .ok (.iconst 0, 1) := by decide +kernel
theorem d_Mod_is_25 : decode b_Mod_is 25 = .ok (.ireturn, 1) := by decide +kernel
theorem d_Mod_is_26 : decode b_Mod_is 26 = .ok (.iconst 0, 1) := by decide +kernel
theorem d_Mod_is_27 : decode b_Mod_is 27 = .ok (.istore_n 2, 1) := by decide +kernel
theorem d_Mod_is_28 : decode b_Mod_is 28 = .ok (.iload_n 2, 1) := by decide +kernel
theorem d_Mod_is_29 : decode b_Mod_is 29 = .ok (.aload_n 1, 1) := by decide +kernel
theorem d_Mod_is_30 : decode b_Mod_is 30 = .ok (.invokevirtual 284, 3) := by decide +kernel
theorem d_Mod_is_33 : decode b_Mod_is 33 = .ok (.if_icmp .ge 30, 3) := by decide +kernel
theorem d_Mod_is_36 : decode b_Mod_is 36 = .ok (.aload_n 0, 1) := by decide +kernel
theorem d_Mod_is_37 : decode b_Mod_is 37 = .ok (.getfield 13, 3) := by decide +kernel
theorem d_Mod_is_40 : decode b_Mod_is 40 = .ok (.aload_n 0, 1) := by decide +kernel
theorem d_Mod_is_41 : decode b_Mod_is 41 = .ok (.getfield 44, 3) := by decide +kernel
theorem d_Mod_is_44 : decode b_Mod_is 44 = .ok (.iload_n 2, 1) := by decide +kernel
theorem d_Mod_is_45 : decode b_Mod_is 45 = .ok (.iadd, 1) := by decide +kernel
theorem d_Mod_is_46 : decode b_Mod_is 46 = .ok (.baload, 1) := by decide +kernel
theorem d_Mod_is_47 : decode b_Mod_is 47 = .ok (.aload_n 1, 1) := by decide +kernel
theorem d_Mod_is_48 : decode b_Mod_is 48 = .ok (.iload_n 2, 1) := by decide +kernel
theorem d_Mod_is_49 : decode b_Mod_is 49 = .ok (.invokevirtual 289, 3) := by decide +kernel
theorem d_Mod_is_52 : decode b_Mod_is 52 = .ok (.if_icmp .eq 5, 3) := by decide +kernel
theorem d_Mod_is_55 : decode b_Mod_is 55 = .ok (.iconst 0, 1) := by decide +kernel
theorem d_Mod_is_56 : decode b_Mod_is 56 = .ok (.ireturn, 1) := by decide +kernel
theorem d_Mod_is_57 : decode b_Mod_is 57 = .ok (.iinc 2 1, 3) := by decide +kernel
theorem d_Mod_is_60 : decode b_Mod_is 60 = .ok (.goto (-32), 3) := by decide +kernel
theorem d_Mod_is_63 : decode b_Mod_is 63 = .ok (.iconst 1, 1) := by decide +kernel
theorem d_Mod_is_64 : decode b_Mod_is 64 = .ok (.ireturn, 1) := by decide +kernel
theorem d_Mod_cant_0 : decode b_Mod_cant 0 = .ok (.aload_n 0, 1) := by decide +kernel
theorem d_Mod_cant_1 : decode b_Mod_cant 1 = .ok (.invokevirtual 273, 3) := by decide +kernel
theorem d_Mod_cant_4 : decode b_Mod_cant 4 = .ok (.pop, 1) := by decide +kernel
theorem d_Mod_cant_5 : decode b_Mod_cant 5 = .ok (.new 1, 3) := by decide +kernel
theorem d_Mod_cant_8 : decode b_Mod_cant 8 = .ok (.dup, 1) := by decide +kernel
theorem d_Mod_cant_9 : decode b_Mod_cant 9 = .ok (.iconst 1, 1) := by decide +kernel
theorem d_Mod_cant_10 : decode b_Mod_cant 10 = .ok (.aload_n 0, 1) := by decide +kernel
theorem d_Mod_cant_11 : decode b_Mod_cant 11 = .ok (.getfield 44, 3) := by decide +kernel
theorem d_Mod_cant_14 : decode b_Mod_cant 14 = .ok (.invokespecial 3, 3) := by decide +kernel
theorem d_Mod_cant_17 : decode b_Mod_cant 17 = .ok (.areturn, 1) := by decide +kernel
