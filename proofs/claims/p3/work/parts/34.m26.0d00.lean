theorem d_Mod_evaluated_0 : decode b_Mod_evaluated 0 = .ok (.aload_n 0, 1) := by decide +kernel
theorem d_Mod_evaluated_1 : decode b_Mod_evaluated 1 = .ok (.invokevirtual 281, 3) := by decide +kernel
theorem d_Mod_evaluated_4 : decode b_Mod_evaluated 4 = .ok (.aload_n 0, 1) := by decide +kernel
theorem d_Mod_evaluated_5 : decode b_Mod_evaluated 5 = .ok (.iconst 0, 1) := by decide +kernel
theorem d_Mod_evaluated_6 : decode b_Mod_evaluated 6 = .ok (.invokevirtual 399, 3) := by decide +kernel
theorem d_Mod_evaluated_9 : decode b_Mod_evaluated 9 = .ok (.istore_n 1, 1) := by decide +kernel
theorem d_Mod_evaluated_10 : decode b_Mod_evaluated 10 = .ok (.aload_n 0, 1) := by decide +kernel
theorem d_Mod_evaluated_11 : decode b_Mod_evaluated 11 = .ok (.bipush 46, 2) := by decide +kernel
theorem d_Mod_evaluated_13 : decode b_Mod_evaluated 13 = .ok (.invokevirtual 405, 3) := by decide +kernel
theorem d_Mod_evaluated_16 : decode b_Mod_evaluated 16 = .ok (.aload_n 0, 1) := by decide +kernel
theorem d_Mod_evaluated_17 : decode b_Mod_evaluated 17 = .ok (.iload_n 1, 1) := by decide +kernel
theorem d_Mod_evaluated_18 : decode b_Mod_evaluated 18 = .ok (.invokevirtual 522, 3) := by decide +kernel
theorem d_Mod_evaluated_21 : decode b_Mod_evaluated 21 = .ok (.istore_n 1, 1) := by decide +kernel
theorem d_Mod_evaluated_22 : decode b_Mod_evaluated 22 = .ok (.aload_n 0, 1) := by decide +kernel
theorem d_Mod_evaluated_23 : decode b_Mod_evaluated 23 = .ok (.iload_n 1, 1) := by decide +kernel
theorem d_Mod_evaluated_24 : decode b_Mod_evaluated 24 = .ok (.iconst 1, 1) := by decide +kernel
theorem d_Mod_evaluated_25 : decode b_Mod_evaluated 25 = .ok (.invokevirtual 479, 3) := by decide +kernel
theorem d_Mod_evaluated_28 : decode b_Mod_evaluated 28 = .ok (.pop, 1) := by decide +kernel
theorem d_Mod_evaluated_29 : decode b_Mod_evaluated 29 = .ok (.aload_n 0, 1) := by decide +kernel
theorem d_Mod_evaluated_30 : decode b_Mod_evaluated 30 = .ok (.iload_n 1, 1) := by decide +kernel
theorem d_Mod_evaluated_31 : decode b_Mod_evaluated 31 = .ok (.iconst 1, 1) := by decide +kernel
theorem d_Mod_evaluated_32 : decode b_Mod_evaluated 32 = .ok (.invokevirtual 491, 3) := by decide +kernel
theorem d_Mod_evaluated_35 : decode b_Mod_evaluated 35 = .ok (.istore_n 2, 1) := by decide +kernel
theorem d_Mod_evaluated_36 : decode b_Mod_evaluated 36 = .ok (.aload_n 0, 1) := by decide +kernel
theorem d_Mod_evaluated_37 : decode b_Mod_evaluated 37 = .ok (.iconst 0, 1) := by decide +kernel
theorem d_Mod_evaluated_38 : decode b_Mod_evaluated 38 = .ok (.putfield 26, 3) := by decide +kernel
theorem d_Mod_evaluated_41 : decode b_Mod_evaluated 41 = .ok (.aload_n 0, 1) := by decide +kernel
theorem d_Mod_evaluated_42 : decode b_Mod_evaluated 42 = .ok (.iload_n 2, 1) := by decide +kernel
theorem d_Mod_evaluated_43 : decode b_Mod_evaluated 43 = .ok (.iconst 0, 1) := by decide +kernel
theorem d_Mod_evaluated_44 : decode b_Mod_evaluated 44 = .ok (.invokevirtual 531, 3) := by decide +kernel
theorem d_Mod_evaluated_47 : decode b_Mod_evaluated 47 = .ok (.return_, 1) := by decide +kernel
theorem d_Mod_declaration_0 : decode b_Mod_declaration 0 = .ok (.aload_n 0, 1) := by decide +kernel
theorem d_Mod_declaration_1 : decode b_Mod_declaration 1 = .ok (.iconst 0, 1) := by decide +kernel
theorem d_Mod_declaration_2 : decode b_Mod_declaration 2 = .ok (.putfield 183, 3) := by decide +kernel
theorem d_Mod_declaration_5 : decode b_Mod_declaration 5 = .ok (.aload_n 0, 1) := by decide +kernel
theorem d_Mod_declaration_6 : decode b_Mod_declaration 6 = .ok (.iconst 0, 1) := by decide +kernel
theorem d_Mod_declaration_7 : decode b_Mod_declaration 7 = .ok (.putfield 186, 3) := by decide +kernel
theorem d_Mod_declaration_10 : decode b_Mod_declaration 10 = .ok (.aload_n 0, 1) := by decide +kernel
theorem d_Mod_declaration_11 : decode b_Mod_declaration 11 = .ok (.iconst 0, 1) := by decide +kernel
theorem d_Mod_declaration_12 : decode b_Mod_declaration 12 = .ok (.putfield 193, 3) := by decide +kernel
theorem d_Mod_declaration_15 : decode b_Mod_declaration 15 = .ok (.aload_n 0, 1) := by decide +kernel
theorem d_Mod_declaration_16 : decode b_Mod_declaration 16 = .ok (.iconst 0, 1) := by decide +kernel
theorem d_Mod_declaration_17 : decode b_Mod_declaration 17 = .ok (.putfield 159, 3) := by decide +kernel
theorem d_Mod_declaration_20 : decode b_Mod_declaration 20 = .ok (.aload_n 0, 1) := by decide +kernel
theorem d_Mod_declaration_21 : decode b_Mod_declaration 21 = .ok (.iconst 0, 1) := by decide +kernel
theorem d_Mod_declaration_22 : decode b_Mod_declaration 22 = .ok (.putfield 177, 3) := by decide +kernel
theorem d_Mod_declaration_25 : decode b_Mod_declaration 25 = .ok (.aload_n 0, 1) := by decide +kernel
theorem d_Mod_declaration_26 : decode b_Mod_declaration 26 = .ok (.iconst 0, 1) := by decide +kernel
theorem d_Mod_declaration_27 : decode b_Mod_declaration 27 = .ok (.putfield 180, 3) := by decide +kernel
theorem d_Mod_declaration_30 : decode b_Mod_declaration 30 = .ok (.aload_n 0, 1) := by decide +kernel
theorem d_Mod_declaration_31 : decode b_Mod_declaration 31 = .ok (.sipush 32000, 3) := by decide +kernel
theorem d_Mod_declaration_34 : decode b_Mod_declaration 34 = .ok (.putfield 74, 3) := by decide +kernel
theorem d_Mod_declaration_37 : decode b_Mod_declaration 37 = .ok (.aload_n 0, 1) := by decide +kernel
theorem d_Mod_declaration_38 : decode b_Mod_declaration 38 = .ok (.aload_n 0, 1) := by decide +kernel
theorem d_Mod_declaration_39 : decode b_Mod_declaration 39 = .ok (.getfield 104, 3) := by decide +kernel
theorem d_Mod_declaration_42 : decode b_Mod_declaration 42 = .ok (.putfield 205, 3) := by decide +kernel
theorem d_Mod_declaration_45 : decode b_Mod_declaration 45 = .ok (.aload_n 0, 1) := by decide +kernel
theorem d_Mod_declaration_46 : decode b_Mod_declaration 46 = .ok (.ldc_w 297, 3) := by decide +kernel
theorem d_Mod_declaration_49 : decode b_Mod_declaration 49 = .ok (.invokevirtual 293, 3) := by decide +kernel
theorem d_Mod_declaration_52 : decode b_Mod_declaration 52 = .ok (.ifCond .eq 11, 3) := by decide +kernel
theorem d_Mod_declaration_55 : decode b_Mod_declaration 55 = .ok (.aload_n 0, 1) := by decide +kernel
theorem d_Mod_declaration_56 : decode b_Mod_declaration 56 = .ok (.iconst 0, 1) := by decide +kernel
theorem d_Mod_declaration_57 : decode b_Mod_declaration 57 = .ok (.invokevirtual 502, 3) := by decide +kernel
theorem d_Mod_declaration_60 : decode b_Mod_declaration 60 = .ok (.goto 95, 3) := by decide +kernel
theorem d_Mod_declaration_63 : decode b_Mod_declaration 63 = .ok (.aload_n 0, 1) := by decide +kernel
theorem d_Mod_declaration_64 : decode b_Mod_declaration 64 = .ok (.ldc_w 299, 3) := by decide +kernel
theorem d_Mod_declaration_67 : decode b_Mod_declaration 67 = .ok (.invokevirtual 293, 3) := by decide +kernel
theorem d_Mod_declaration_70 : decode b_Mod_declaration 70 = .ok (.ifCond .eq 11, 3) := by decide +kernel
theorem d_Mod_declaration_73 : decode b_Mod_declaration 73 = .ok (.aload_n 0, 1) := by decide +kernel
theorem d_Mod_declaration_74 : decode b_Mod_declaration 74 = .ok (.iconst 1, 1) := by decide +kernel
theorem d_Mod_declaration_75 : decode b_Mod_declaration 75 = .ok (.invokevirtual 502, 3) := by decide +kernel
theorem d_Mod_declaration_78 : decode b_Mod_declaration 78 = .ok (.goto 77, 3) := by decide +kernel
theorem d_Mod_declaration_81 : decode b_Mod_declaration 81 = .ok (.aload_n 0, 1) := by decide +kernel
theorem d_Mod_declaration_82 : decode b_Mod_declaration 82 = .ok (.ldc_w 301, 3) := by decide +kernel
theorem d_Mod_declaration_85 : decode b_Mod_declaration 85 = .ok (.invokevirtual 293, 3) := by decide +kernel
theorem d_Mod_declaration_88 : decode b_Mod_declaration 88 = .ok (.ifCond .eq 11, 3) := by decide +kernel
theorem d_Mod_declaration_91 : decode b_Mod_declaration 91 = .ok (.aload_n 0, 1) := by decide +kernel
theorem d_Mod_declaration_92 : decode b_Mod_declaration 92 = .ok (.iconst 2, 1) := by decide +kernel
theorem d_Mod_declaration_93 : decode b_Mod_declaration 93 = .ok (.invokevirtual 502, 3) := by decide +kernel
theorem d_Mod_declaration_96 : decode b_Mod_declaration 96 = .ok (.goto 59, 3) := by decide +kernel
theorem d_Mod_declaration_99 : decode b_Mod_declaration 99 = .ok (.aload_n 0, 1) := by decide +kernel
theorem d_Mod_declaration_100 : decode b_Mod_declaration 100 = .ok (.ldc_w 303, 3) := by decide +kernel
theorem d_Mod_declaration_103 : decode b_Mod_declaration 103 = .ok (.invokevirtual 293, 3) := by decide +kernel
theorem d_Mod_declaration_106 : decode b_Mod_declaration 106 = .ok (.ifCond .eq 10, 3) := by decide +kernel
theorem d_Mod_declaration_109 : decode b_Mod_declaration 109 = .ok (.aload_n 0, 1) := by decide +kernel
theorem d_Mod_declaration_110 : decode b_Mod_declaration 110 = .ok (.invokevirtual 505, 3) := by decide +kernel
theorem d_Mod_declaration_113 : decode b_Mod_declaration 113 = .ok (.goto 42, 3) := by decide +kernel
theorem d_Mod_declaration_116 : decode b_Mod_declaration 116 = .ok (.aload_n 0, 1) := by decide +kernel
theorem d_Mod_declaration_117 : decode b_Mod_declaration 117 = .ok (.ldc_w 305, 3) := by decide +kernel
theorem d_Mod_declaration_120 : decode b_Mod_declaration 120 = .ok (.invokevirtual 293, 3) := by decide +kernel
theorem d_Mod_declaration_123 : decode b_Mod_declaration 123 = .ok (.ifCond .eq 10, 3) := by decide +kernel
theorem d_Mod_declaration_126 : decode b_Mod_declaration 126 = .ok (.aload_n 0, 1) := by decide +kernel
theorem d_Mod_declaration_127 : decode b_Mod_declaration 127 = .ok (.invokevirtual 507, 3) := by decide +kernel
theorem d_Mod_declaration_130 : decode b_Mod_declaration 130 = .ok (.goto 25, 3) := by decide +kernel
theorem d_Mod_declaration_133 : decode b_Mod_declaration 133 = .ok (.aload_n 0, 1) := by decide +kernel
theorem d_Mod_declaration_134 : decode b_Mod_declaration 134 = .ok (.ldc_w 307, 3) := by decide +kernel
theorem d_Mod_declaration_137 : decode b_Mod_declaration 137 = .ok (.invokevirtual 293, 3) := by decide +kernel
theorem d_Mod_declaration_140 : decode b_Mod_declaration 140 = .ok (.ifCond .eq 10, 3) := by decide +kernel
theorem d_Mod_declaration_143 : decode b_Mod_declaration 143 = .ok (.aload_n 0, 1) := by decide +kernel
theorem d_Mod_declaration_144 : decode b_Mod_declaration 144 = .ok (.invokevirtual 510, 3) := by decide +kernel
theorem d_Mod_declaration_147 : decode b_Mod_declaration 147 = .ok (.goto 8, 3) := by decide +kernel
theorem d_Mod_declaration_150 : decode b_Mod_declaration 150 = .ok (.aload_n 0, 1) := by decide +kernel
theorem d_Mod_declaration_151 : decode b_Mod_declaration 151 = .ok (.invokevirtual 277, 3) := by decide +kernel
theorem d_Mod_declaration_154 : decode b_Mod_declaration 154 = .ok (.athrow, 1) := by decide +kernel
theorem d_Mod_declaration_155 : decode b_Mod_declaration 155 = .ok (.return_, 1) := by decide +kernel
theorem d_Mod_end_0 : decode b_Mod_end 0 = .ok (.aload_n 0, 1) := by decide +kernel
theorem d_Mod_end_1 : decode b_Mod_end 1 = .ok (.iconst 0, 1) := by decide +kernel
theorem d_Mod_end_2 : decode b_Mod_end 2 = .ok (.putfield 29, 3) := by decide +kernel
theorem d_Mod_end_5 : decode b_Mod_end 5 = .ok (.aload_n 0, 1) := by decide +kernel
theorem d_Mod_end_6 : decode b_Mod_end 6 = .ok (.iconst 1, 1) := by decide +kernel
theorem d_Mod_end_7 : decode b_Mod_end 7 = .ok (.iload_n 1, 1) := by decide +kernel
theorem d_Mod_end_8 : decode b_Mod_end 8 = .ok (.ifCond .lt 11, 3) := by decide +kernel
theorem d_Mod_end_11 : decode b_Mod_end 11 = .ok (.iload_n 1, 1) := by decide +kernel
theorem d_Mod_end_12 : decode b_Mod_end 12 = .ok (.aload_n 0, 1) := by decide +kernel
theorem d_Mod_end_13 : decode b_Mod_end 13 = .ok (.getfield 22, 3) := by decide +kernel
theorem d_Mod_end_16 : decode b_Mod_end 16 = .ok (.if_icmp .le 7, 3) := by decide +kernel
theorem d_Mod_end_19 : decode b_Mod_end 19 = .ok (.iconst 1, 1) := by decide +kernel
theorem d_Mod_end_20 : decode b_Mod_end 20 = .ok (.goto 4, 3) := by decide +kernel
theorem d_Mod_end_23 : decode b_Mod_end 23 = .ok (.iconst 0, 1) := by decide +kernel
theorem d_Mod_end_24 : decode b_Mod_end 24 = .ok (.invokevirtual 251, 3) := by decide +kernel
theorem d_Mod_end_27 : decode b_Mod_end 27 = .ok (.ifCond .eq 5, 3) := by decide +kernel
theorem d_Mod_end_30 : decode b_Mod_end 30 = .ok (.iconst 0, 1) := by decide +kernel
theorem d_Mod_end_31 : decode b_Mod_end 31 = .ok (.ireturn, 1) := by decide +kernel
theorem d_Mod_end_32 : decode b_Mod_end 32 = .ok (.aload_n 0, 1) := by decide +kernel
theorem d_Mod_end_33 : decode b_Mod_end 33 = .ok (.iload_n 1, 1) := by decide +kernel
theorem d_Mod_end_34 : decode b_Mod_end 34 = .ok (.putfield 22, 3) := by decide +kernel
theorem d_Mod_end_37 : decode b_Mod_end 37 = .ok (.iload_n 1, 1) := by decide +kernel
theorem d_Mod_end_38 : decode b_Mod_end 38 = .ok (.ireturn, 1) := by decide +kernel
theorem d_Mod_fault_0 : decode b_Mod_fault 0 = .ok (.aload_n 0, 1) := by decide +kernel
theorem d_Mod_fault_1 : decode b_Mod_fault 1 = .ok (.iconst 0, 1) := by decide +kernel
theorem d_Mod_fault_2 : decode b_Mod_fault 2 = .ok (.putfield 29, 3) := by decide +kernel
theorem d_Mod_fault_5 : decode b_Mod_fault 5 = .ok (.iload_n 1, 1) := by decide +kernel
theorem d_Mod_fault_6 : decode b_Mod_fault 6 = .ok (.ifCond .ne 10, 3) := by decide +kernel
theorem d_Mod_fault_9 : decode b_Mod_fault 9 = .ok (.aload_n 0, 1) := by decide +kernel
theorem d_Mod_fault_10 : decode b_Mod_fault 10 = .ok (.getfield 32, 3) := by decide +kernel
theorem d_Mod_fault_13 : decode b_Mod_fault 13 = .ok (.goto 16, 3) := by decide +kernel
theorem d_Mod_fault_16 : decode b_Mod_fault 16 = .ok (.iload_n 1, 1) := by decide +kernel
theorem d_Mod_fault_17 : decode b_Mod_fault 17 = .ok (.iconst 1, 1) := by decide +kernel
theorem d_Mod_fault_18 : decode b_Mod_fault 18 = .ok (.if_icmp .ne 10, 3) := by decide +kernel
theorem d_Mod_fault_21 : decode b_Mod_fault 21 = .ok (.aload_n 0, 1) := by decide +kernel
theorem d_Mod_fault_22 : decode b_Mod_fault 22 = .ok (.getfield 35, 3) := by decide +kernel
theorem d_Mod_fault_25 : decode b_Mod_fault 25 = .ok (.goto 4, 3) := by decide +kernel
theorem d_Mod_fault_28 : decode b_Mod_fault 28 = .ok (.iconst (-1), 1) := by decide +kernel
theorem d_Mod_fault_29 : decode b_Mod_fault 29 = .ok (.ireturn, 1) := by decide +kernel
theorem d_Mod_feed_0 : decode b_Mod_feed 0 = .ok (.aload_n 0, 1) := by decide +kernel
theorem d_Mod_feed_1 : decode b_Mod_feed 1 = .ok (.iconst 0, 1) := by decide +kernel
theorem d_Mod_feed_2 : decode b_Mod_feed 2 = .ok (.putfield 29, 3) := by decide +kernel
theorem d_Mod_feed_5 : decode b_Mod_feed 5 = .ok (.aload_n 0, 1) := by decide +kernel
theorem d_Mod_feed_6 : decode b_Mod_feed 6 = .ok (.iconst 1, 1) := by decide +kernel
theorem d_Mod_feed_7 : decode b_Mod_feed 7 = .ok (.aload_n 0, 1) := by decide +kernel
theorem d_Mod_feed_8 : decode b_Mod_feed 8 = .ok (.getfield 22, 3) := by decide +kernel
theorem d_Mod_feed_11 : decode b_Mod_feed 11 = .ok (.ldc 250, 2) := by decide +kernel
theorem d_Mod_feed_13 : decode b_Mod_feed 13 = .ok (.if_icmp .le 7, 3) := by decide +kernel
theorem d_Mod_feed_16 : decode b_Mod_feed 16 = .ok (.iconst 1, 1) := by decide +kernel
theorem d_Mod_feed_17 : decode b_Mod_feed 17 = .ok (.goto 4, 3) := by decide +kernel
theorem d_Mod_feed_20 : decode b_Mod_feed 20 = .ok (.iconst 0, 1) := by decide +kernel
theorem d_Mod_feed_21 : decode b_Mod_feed 21 = .ok (.invokevirtual 251, 3) := by decide +kernel
theorem d_Mod_feed_24 : decode b_Mod_feed 24 = .ok (.ifCond .eq 5, 3) := by decide +kernel
theorem d_Mod_feed_27 : decode b_Mod_feed 27 = .ok (.iconst 0, 1) := by decide +kernel
theorem d_Mod_feed_28 : decode b_Mod_feed 28 = .ok (.ireturn, 1) := by decide +kernel
theorem d_Mod_feed_29 : decode b_Mod_feed 29 = .ok (.iconst 0, 1) := by decide +kernel
theorem d_Mod_feed_30 : decode b_Mod_feed 30 = .ok (.istore 6, 2) := by decide +kernel
theorem d_Mod_feed_32 : decode b_Mod_feed 32 = .ok (.iload 6, 2) := by decide +kernel
theorem d_Mod_feed_34 : decode b_Mod_feed 34 = .ok (.bipush 20, 2) := by decide +kernel
theorem d_Mod_feed_36 : decode b_Mod_feed 36 = .ok (.if_icmp .ge 87, 3) := by decide +kernel
theorem d_Mod_feed_39 : decode b_Mod_feed 39 = .ok (.iload 6, 2) := by decide +kernel
theorem d_Mod_feed_41 : decode b_Mod_feed 41 = .ok (.iconst 4, 1) := by decide +kernel
theorem d_Mod_feed_42 : decode b_Mod_feed 42 = .ok (.if_icmp .ge 7, 3) := by decide +kernel
theorem d_Mod_feed_45 : decode b_Mod_feed 45 = .ok (.iload_n 1, 1) := by decide +kernel
theorem d_Mod_feed_46 : decode b_Mod_feed 46 = .ok (.goto 39, 3) := by decide +kernel
theorem d_Mod_feed_49 : decode b_Mod_feed 49 = .ok (.iload 6, 2) := by decide +kernel
theorem d_Mod_feed_51 : decode b_Mod_feed 51 = .ok (.bipush 8, 2) := by decide +kernel
theorem d_Mod_feed_53 : decode b_Mod_feed 53 = .ok (.if_icmp .ge 7, 3) := by decide +kernel
theorem d_Mod_feed_56 : decode b_Mod_feed 56 = .ok (.iload_n 2, 1) := by decide +kernel
theorem d_Mod_feed_57 : decode b_Mod_feed 57 = .ok (.goto 28, 3) := by decide +kernel
theorem d_Mod_feed_60 : decode b_Mod_feed 60 = .ok (.iload 6, 2) := by decide +kernel
theorem d_Mod_feed_62 : decode b_Mod_feed 62 = .ok (.bipush 12, 2) := by decide +kernel
theorem d_Mod_feed_64 : decode b_Mod_feed 64 = .ok (.if_icmp .ge 7, 3) := by decide +kernel
theorem d_Mod_feed_67 : decode b_Mod_feed 67 = .ok (.iload_n 3, 1) := by decide +kernel
theorem d_Mod_feed_68 : decode b_Mod_feed 68 = .ok (.goto 17, 3) := by decide +kernel
theorem d_Mod_feed_71 : decode b_Mod_feed 71 = .ok (.iload 6, 2) := by decide +kernel
theorem d_Mod_feed_73 : decode b_Mod_feed 73 = .ok (.bipush 16, 2) := by decide +kernel
theorem d_Mod_feed_75 : decode b_Mod_feed 75 = .ok (.if_icmp .ge 8, 3) := by decide +kernel
theorem d_Mod_feed_78 : decode b_Mod_feed 78 = .ok (.iload 4, 2) := by decide +kernel
theorem d_Mod_feed_80 : decode b_Mod_feed 80 = .ok (.goto 5, 3) := by decide +kernel
theorem d_Mod_feed_83 : decode b_Mod_feed 83 = .ok (.iload 5, 2) := by decide +kernel
theorem d_Mod_feed_85 : decode b_Mod_feed 85 = .ok (.istore 7, 2) := by decide +kernel
theorem d_Mod_feed_87 : decode b_Mod_feed 87 = .ok (.aload_n 0, 1) := by decide +kernel
theorem d_Mod_feed_88 : decode b_Mod_feed 88 = .ok (.getfield 13, 3) := by decide +kernel
theorem d_Mod_feed_91 : decode b_Mod_feed 91 = .ok (.aload_n 0, 1) := by decide +kernel
theorem d_Mod_feed_92 : decode b_Mod_feed 92 = .ok (.dup, 1) := by decide +kernel
theorem d_Mod_feed_93 : decode b_Mod_feed 93 = .ok (.getfield 22, 3) := by decide +kernel
theorem d_Mod_feed_96 : decode b_Mod_feed 96 = .ok (.dup_x1, 1) := by decide +kernel
theorem d_Mod_feed_97 : decode b_Mod_feed 97 = .ok (.iconst 1, 1) := by decide +kernel
theorem d_Mod_feed_98 : decode b_Mod_feed 98 = .ok (.iadd, 1) := by decide +kernel
theorem d_Mod_feed_99 : decode b_Mod_feed 99 = .ok (.putfield 22, 3) := by decide +kernel
theorem d_Mod_feed_102 : decode b_Mod_feed 102 = .ok (.iload 7, 2) := by decide +kernel
theorem d_Mod_feed_104 : decode b_Mod_feed 104 = .ok (.bipush 24, 2) := by decide +kernel
theorem d_Mod_feed_106 : decode b_Mod_feed 106 = .ok (.bipush 8, 2) := by decide +kernel
theorem d_Mod_feed_108 : decode b_Mod_feed 108 = .ok (.iload 6, 2) := by decide +kernel
theorem d_Mod_feed_110 : decode b_Mod_feed 110 = .ok (.iconst 4, 1) := by decide +kernel
theorem d_Mod_feed_111 : decode b_Mod_feed 111 = .ok (.irem, 1) := by decide +kernel
theorem d_Mod_feed_112 : decode b_Mod_feed 112 = .ok (.imul, 1) := by decide +kernel
theorem d_Mod_feed_113 : decode b_Mod_feed 113 = .ok (.isub, 1) := by decide +kernel
theorem d_Mod_feed_114 : decode b_Mod_feed 114 = .ok (.iushr, 1) := by decide +kernel
theorem d_Mod_feed_115 : decode b_Mod_feed 115 = .ok (.i2b, 1) := by decide +kernel
theorem d_Mod_feed_116 : decode b_Mod_feed 116 = .ok (.bastore, 1) := by decide +kernel
theorem d_Mod_feed_117 : decode b_Mod_feed 117 = .ok (.iinc 6 1, 3) := by decide +kernel
theorem d_Mod_feed_120 : decode b_Mod_feed 120 = .ok (.goto (-88), 3) := by decide +kernel
theorem d_Mod_feed_123 : decode b_Mod_feed 123 = .ok (.aload_n 0, 1) := by decide +kernel
theorem d_Mod_feed_124 : decode b_Mod_feed 124 = .ok (.getfield 22, 3) := by decide +kernel
theorem d_Mod_feed_127 : decode b_Mod_feed 127 = .ok (.ireturn, 1) := by decide +kernel
theorem d_Mod_out_0 : decode b_Mod_out 0 = .ok (.aload_n 0, 1) := by decide +kernel
theorem d_Mod_out_1 : decode b_Mod_out 1 = .ok (.iconst 0, 1) := by decide +kernel
theorem d_Mod_out_2 : decode b_Mod_out 2 = .ok (.putfield 29, 3) := by decide +kernel
theorem d_Mod_out_5 : decode b_Mod_out 5 = .ok (.aload_n 0, 1) := by decide +kernel
theorem d_Mod_out_6 : decode b_Mod_out 6 = .ok (.iconst 1, 1) := by decide +kernel
theorem d_Mod_out_7 : decode b_Mod_out 7 = .ok (.iload_n 1, 1) := by decide +kernel
theorem d_Mod_out_8 : decode b_Mod_out 8 = .ok (.ifCond .lt 11, 3) := by decide +kernel
theorem d_Mod_out_11 : decode b_Mod_out 11 = .ok (.iload_n 1, 1) := by decide +kernel
theorem d_Mod_out_12 : decode b_Mod_out 12 = .ok (.aload_n 0, 1) := by decide +kernel
theorem d_Mod_out_13 : decode b_Mod_out 13 = .ok (.getfield 26, 3) := by decide +kernel
theorem d_Mod_out_16 : decode b_Mod_out 16 = .ok (.if_icmp .lt 7, 3) := by decide +kernel
theorem d_Mod_out_19 : decode b_Mod_out 19 = .ok (.iconst 1, 1) := by decide +kernel
theorem d_Mod_out_20 : decode b_Mod_out 20 = .ok (.goto 4, 3) := by decide +kernel
theorem d_Mod_out_23 : decode b_Mod_out 23 = .ok (.iconst 0, 1) := by decide +kernel
theorem d_Mod_out_24 : decode b_Mod_out 24 = .ok (.invokevirtual 251, 3) := by decide +kernel
theorem d_Mod_out_27 : decode b_Mod_out 27 = .ok (.ifCond .eq 5, 3) := by decide +kernel
theorem d_Mod_out_30 : decode b_Mod_out 30 = .ok (.iconst 0, 1) := by decide +kernel
theorem d_Mod_out_31 : decode b_Mod_out 31 = .ok (.ireturn, 1) := by decide +kernel
theorem d_Mod_out_32 : decode b_Mod_out 32 = .ok (.aload_n 0, 1) := by decide +kernel
theorem d_Mod_out_33 : decode b_Mod_out 33 = .ok (.getfield 19, 3) := by decide +kernel
theorem d_Mod_out_36 : decode b_Mod_out 36 = .ok (.iload_n 1, 1) := by decide +kernel
theorem d_Mod_out_37 : decode b_Mod_out 37 = .ok (.baload, 1) := by decide +kernel
theorem d_Mod_out_38 : decode b_Mod_out 38 = .ok (.sipush 255, 3) := by decide +kernel
theorem d_Mod_out_41 : decode b_Mod_out 41 = .ok (.iand, 1) := by decide +kernel
theorem d_Mod_out_42 : decode b_Mod_out 42 = .ok (.ireturn, 1) := by decide +kernel
theorem d_Mod_reset_0 : decode b_Mod_reset 0 = .ok (.aload_n 0, 1) := by decide +kernel
theorem d_Mod_reset_1 : decode b_Mod_reset 1 = .ok (.iconst 0, 1) := by decide +kernel
theorem d_Mod_reset_2 : decode b_Mod_reset 2 = .ok (.putfield 29, 3) := by decide +kernel
theorem d_Mod_reset_5 : decode b_Mod_reset 5 = .ok (.aload_n 0, 1) := by decide +kernel
theorem d_Mod_reset_6 : decode b_Mod_reset 6 = .ok (.getfield 104, 3) := by decide +kernel
theorem d_Mod_reset_9 : decode b_Mod_reset 9 = .ok (.istore_n 1, 1) := by decide +kernel
theorem d_Mod_reset_10 : decode b_Mod_reset 10 = .ok (.aload_n 0, 1) := by decide +kernel
theorem d_Mod_reset_11 : decode b_Mod_reset 11 = .ok (.iconst 0, 1) := by decide +kernel
theorem d_Mod_reset_12 : decode b_Mod_reset 12 = .ok (.putfield 199, 3) := by decide +kernel
theorem d_Mod_reset_15 : decode b_Mod_reset 15 = .ok (.aload_n 0, 1) := by decide +kernel
theorem d_Mod_reset_16 : decode b_Mod_reset 16 = .ok (.iconst 0, 1) := by decide +kernel
theorem d_Mod_reset_17 : decode b_Mod_reset 17 = .ok (.putfield 104, 3) := by decide +kernel
theorem d_Mod_reset_20 : decode b_Mod_reset 20 = .ok (.aload_n 0, 1) := by decide +kernel
theorem d_Mod_reset_21 : decode b_Mod_reset 21 = .ok (.iconst 0, 1) := by decide +kernel
theorem d_Mod_reset_22 : decode b_Mod_reset 22 = .ok (.putfield 147, 3) := by decide +kernel
theorem d_Mod_reset_25 : decode b_Mod_reset 25 = .ok (.aload_n 0, 1) := by decide +kernel
theorem d_Mod_reset_26 : decode b_Mod_reset 26 = .ok (.iconst 0, 1) := by decide +kernel
theorem d_Mod_reset_27 : decode b_Mod_reset 27 = .ok (.putfield 150, 3) := by decide +kernel
theorem d_Mod_reset_30 : decode b_Mod_reset 30 = .ok (.aload_n 0, 1) := by decide +kernel
theorem d_Mod_reset_31 : decode b_Mod_reset 31 = .ok (.iconst 0, 1) := by decide +kernel
theorem d_Mod_reset_32 : decode b_Mod_reset 32 = .ok (.putfield 101, 3) := by decide +kernel
theorem d_Mod_reset_35 : decode b_Mod_reset 35 = .ok (.iload_n 1, 1) := by decide +kernel
theorem d_Mod_reset_36 : decode b_Mod_reset 36 = .ok (.ireturn, 1) := by decide +kernel
theorem d_Mod_show_0 : decode b_Mod_show 0 = .ok (.aload_n 0, 1) := by decide +kernel
theorem d_Mod_show_1 : decode b_Mod_show 1 = .ok (.iload_n 1, 1) := by decide +kernel
theorem d_Mod_show_2 : decode b_Mod_show 2 = .ok (.invokevirtual 577, 3) := by decide +kernel
theorem d_Mod_show_5 : decode b_Mod_show 5 = .ok (.ifCond .ne 52, 3) := by decide +kernel
theorem d_Mod_show_8 : decode b_Mod_show 8 = .ok (.aload_n 0, 1) := by decide +kernel
theorem d_Mod_show_9 : decode b_Mod_show 9 = .ok (.iconst 2, 1) := by decide +kernel
theorem d_Mod_show_10 : decode b_Mod_show 10 = .ok (.iload_n 2, 1) := by decide +kernel
theorem d_Mod_show_11 : decode b_Mod_show 11 = .ok (.ifCond .lt 8, 3) := by decide +kernel
theorem d_Mod_show_14 : decode b_Mod_show 14 = .ok (.iload_n 2, 1) := by decide +kernel
theorem d_Mod_show_15 : decode b_Mod_show 15 = .ok (.iconst 2, 1) := by decide +kernel
theorem d_Mod_show_16 : decode b_Mod_show 16 = .ok (.if_icmp .le 7, 3) := by decide +kernel
theorem d_Mod_show_19 : decode b_Mod_show 19 = .ok (.iconst 1, 1) := by decide +kernel
theorem d_Mod_show_20 : decode b_Mod_show 20 = .ok (.goto 4, 3) := by decide +kernel
theorem d_Mod_show_23 : decode b_Mod_show 23 = .ok (.iconst 0, 1) := by decide +kernel
theorem d_Mod_show_24 : decode b_Mod_show 24 = .ok (.invokevirtual 251, 3) := by decide +kernel
theorem d_Mod_show_27 : decode b_Mod_show 27 = .ok (.ifCond .ne 30, 3) := by decide +kernel
theorem d_Mod_show_30 : decode b_Mod_show 30 = .ok (.aload_n 0, 1) := by decide +kernel
theorem d_Mod_show_31 : decode b_Mod_show 31 = .ok (.iconst 1, 1) := by decide +kernel
theorem d_Mod_show_32 : decode b_Mod_show 32 = .ok (.iload_n 2, 1) := by decide +kernel
theorem d_Mod_show_33 : decode b_Mod_show 33 = .ok (.iconst 2, 1) := by decide +kernel
theorem d_Mod_show_34 : decode b_Mod_show 34 = .ok (.if_icmp .ne 16, 3) := by decide +kernel
theorem d_Mod_show_37 : decode b_Mod_show 37 = .ok (.aload_n 0, 1) := by decide +kernel
theorem d_Mod_show_38 : decode b_Mod_show 38 = .ok (.getfield 113, 3) := by decide +kernel
theorem d_Mod_show_41 : decode b_Mod_show 41 = .ok (.iload_n 1, 1) := by decide +kernel
theorem d_Mod_show_42 : decode b_Mod_show 42 = .ok (.iaload, 1) := by decide +kernel
theorem d_Mod_show_43 : decode b_Mod_show 43 = .ok (.ifCond .ge 7, 3) := by decide +kernel
theorem d_Mod_show_46 : decode b_Mod_show 46 = .ok (.iconst 1, 1) := by decide +kernel
theorem d_Mod_show_47 : decode b_Mod_show 47 = .ok (.goto 4, 3) := by decide +kernel
theorem d_Mod_show_50 : decode b_Mod_show 50 = .ok (.iconst 0, 1) := by decide +kernel
theorem d_Mod_show_51 : decode b_Mod_show 51 = .ok (.invokevirtual 251, 3) := by decide +kernel
theorem d_Mod_show_54 : decode b_Mod_show 54 = .ok (.ifCond .eq 5, 3) := by decide +kernel
theorem d_Mod_show_57 : decode b_Mod_show 57 = .ok (.iconst 0, 1) := by decide +kernel
theorem d_Mod_show_58 : decode b_Mod_show 58 = .ok (.ireturn, 1) := by decide +kernel
theorem d_Mod_show_59 : decode b_Mod_show 59 = .ok (.aload_n 0, 1) := by decide +kernel
theorem d_Mod_show_60 : decode b_Mod_show 60 = .ok (.iconst 0, 1) := by decide +kernel
theorem d_Mod_show_61 : decode b_Mod_show 61 = .ok (.putfield 26, 3) := by decide +kernel
theorem d_Mod_show_64 : decode b_Mod_show 64 = .ok (.iload_n 2, 1) := by decide +kernel
theorem d_Mod_show_65 : decode b_Mod_show 65 = .ok (.ifCond .ne 11, 3) := by decide +kernel
theorem d_Mod_show_68 : decode b_Mod_show 68 = .ok (.aload_n 0, 1) := by decide +kernel
theorem d_Mod_show_69 : decode b_Mod_show 69 = .ok (.iload_n 1, 1) := by decide +kernel
theorem d_Mod_show_70 : decode b_Mod_show 70 = .ok (.invokevirtual 592, 3) := by decide +kernel
theorem d_Mod_show_73 : decode b_Mod_show 73 = .ok (.goto 28, 3) := by decide +kernel
theorem d_Mod_show_76 : decode b_Mod_show 76 = .ok (.aload_n 0, 1) := by decide +kernel
theorem d_Mod_show_77 : decode b_Mod_show 77 = .ok (.iload_n 2, 1) := by decide +kernel
theorem d_Mod_show_78 : decode b_Mod_show 78 = .ok (.iconst 1, 1) := by decide +kernel
theorem d_Mod_show_79 : decode b_Mod_show 79 = .ok (.if_icmp .ne 12, 3) := by decide +kernel
theorem d_Mod_show_82 : decode b_Mod_show 82 = .ok (.aload_n 0, 1) := by decide +kernel
theorem d_Mod_show_83 : decode b_Mod_show 83 = .ok (.getfield 110, 3) := by decide +kernel
theorem d_Mod_show_86 : decode b_Mod_show 86 = .ok (.iload_n 1, 1) := by decide +kernel
theorem d_Mod_show_87 : decode b_Mod_show 87 = .ok (.iaload, 1) := by decide +kernel
theorem d_Mod_show_88 : decode b_Mod_show 88 = .ok (.goto 9, 3) := by decide +kernel
theorem d_Mod_show_91 : decode b_Mod_show 91 = .ok (.aload_n 0, 1) := by decide +kernel
theorem d_Mod_show_92 : decode b_Mod_show 92 = .ok (.getfield 113, 3) := by decide +kernel
theorem d_Mod_show_95 : decode b_Mod_show 95 = .ok (.iload_n 1, 1) := by decide +kernel
theorem d_Mod_show_96 : decode b_Mod_show 96 = .ok (.iaload, 1) := by decide +kernel
theorem d_Mod_show_97 : decode b_Mod_show 97 = .ok (.iconst 0, 1) := by decide +kernel
theorem d_Mod_show_98 : decode b_Mod_show 98 = .ok (.invokevirtual 531, 3) := by decide +kernel
theorem d_Mod_show_101 : decode b_Mod_show 101 = .ok (.aload_n 0, 1) := by decide +kernel
theorem d_Mod_show_102 : decode b_Mod_show 102 = .ok (.getfield 26, 3) := by decide +kernel
theorem d_Mod_show_105 : decode b_Mod_show 105 = .ok (.ireturn, 1) := by decide +kernel
theorem d_Mod_showRec_0 : decode b_Mod_showRec 0 = .ok (.aload_n 0, 1) := by decide +kernel
theorem d_Mod_showRec_1 : decode b_Mod_showRec 1 = .ok (.iload_n 1, 1) := by decide +kernel
theorem d_Mod_showRec_2 : decode b_Mod_showRec 2 = .ok (.invokevirtual 577, 3) := by decide +kernel
theorem d_Mod_showRec_5 : decode b_Mod_showRec 5 = .ok (.ifCond .ne 62, 3) := by decide +kernel
theorem d_Mod_showRec_8 : decode b_Mod_showRec 8 = .ok (.aload_n 0, 1) := by decide +kernel
theorem d_Mod_showRec_9 : decode b_Mod_showRec 9 = .ok (.iconst 1, 1) := by decide +kernel
theorem d_Mod_showRec_10 : decode b_Mod_showRec 10 = .ok (.aload_n 0, 1) := by decide +kernel
theorem d_Mod_showRec_11 : decode b_Mod_showRec 11 = .ok (.getfield 107, 3) := by decide +kernel
theorem d_Mod_showRec_14 : decode b_Mod_showRec 14 = .ok (.iload_n 1, 1) := by decide +kernel
theorem d_Mod_showRec_15 : decode b_Mod_showRec 15 = .ok (.iaload, 1) := by decide +kernel
theorem d_Mod_showRec_16 : decode b_Mod_showRec 16 = .ok (.iconst 3, 1) := by decide +kernel
theorem d_Mod_showRec_17 : decode b_Mod_showRec 17 = .ok (.if_icmp .ne 13, 3) := by decide +kernel
theorem d_Mod_showRec_20 : decode b_Mod_showRec 20 = .ok (.iload_n 2, 1) := by decide +kernel
theorem d_Mod_showRec_21 : decode b_Mod_showRec 21 = .ok (.ifCond .lt 9, 3) := by decide +kernel
theorem d_Mod_showRec_24 : decode b_Mod_showRec 24 = .ok (.iload_n 2, 1) := by decide +kernel
theorem d_Mod_showRec_25 : decode b_Mod_showRec 25 = .ok (.bipush 100, 2) := by decide +kernel
theorem d_Mod_showRec_27 : decode b_Mod_showRec 27 = .ok (.if_icmp .le 7, 3) := by decide +kernel
theorem d_Mod_showRec_30 : decode b_Mod_showRec 30 = .ok (.iconst 1, 1) := by decide +kernel
theorem d_Mod_showRec_31 : decode b_Mod_showRec 31 = .ok (.goto 4, 3) := by decide +kernel
theorem d_Mod_showRec_34 : decode b_Mod_showRec 34 = .ok (.iconst 0, 1) := by decide +kernel
theorem d_Mod_showRec_35 : decode b_Mod_showRec 35 = .ok (.invokevirtual 251, 3) := by decide +kernel
theorem d_Mod_showRec_38 : decode b_Mod_showRec 38 = .ok (.ifCond .ne 29, 3) := by decide +kernel
theorem d_Mod_showRec_41 : decode b_Mod_showRec 41 = .ok (.aload_n 0, 1) := by decide +kernel
theorem d_Mod_showRec_42 : decode b_Mod_showRec 42 = .ok (.iconst 1, 1) := by decide +kernel
theorem d_Mod_showRec_43 : decode b_Mod_showRec 43 = .ok (.iload_n 2, 1) := by decide +kernel
theorem d_Mod_showRec_44 : decode b_Mod_showRec 44 = .ok (.ifCond .le 16, 3) := by decide +kernel
theorem d_Mod_showRec_47 : decode b_Mod_showRec 47 = .ok (.aload_n 0, 1) := by decide +kernel
theorem d_Mod_showRec_48 : decode b_Mod_showRec 48 = .ok (.getfield 143, 3) := by decide +kernel
theorem d_Mod_showRec_51 : decode b_Mod_showRec 51 = .ok (.iload_n 1, 1) := by decide +kernel
theorem d_Mod_showRec_52 : decode b_Mod_showRec 52 = .ok (.baload, 1) := by decide +kernel
theorem d_Mod_showRec_53 : decode b_Mod_showRec 53 = .ok (.ifCond .ne 7, 3) := by decide +kernel
theorem d_Mod_showRec_56 : decode b_Mod_showRec 56 = .ok (.iconst 1, 1) := by decide +kernel
theorem d_Mod_showRec_57 : decode b_Mod_showRec 57 = .ok (.goto 4, 3) := by decide +kernel
theorem d_Mod_showRec_60 : decode b_Mod_showRec 60 = .ok (.iconst 0, 1) := by decide +kernel
theorem d_Mod_showRec_61 : decode b_Mod_showRec 61 = .ok (.invokevirtual 251, 3) := by decide +kernel
theorem d_Mod_showRec_64 : decode b_Mod_showRec 64 = .ok (.ifCond .eq 5, 3) := by decide +kernel
theorem d_Mod_showRec_67 : decode b_Mod_showRec 67 = .ok (.iconst 0, 1) := by decide +kernel
theorem d_Mod_showRec_68 : decode b_Mod_showRec 68 = .ok (.ireturn, 1) := by decide +kernel
theorem d_Mod_showRec_69 : decode b_Mod_showRec 69 = .ok (.aload_n 0, 1) := by decide +kernel
theorem d_Mod_showRec_70 : decode b_Mod_showRec 70 = .ok (.sipush 32000, 3) := by decide +kernel
theorem d_Mod_showRec_73 : decode b_Mod_showRec 73 = .ok (.putfield 74, 3) := by decide +kernel
theorem d_Mod_showRec_76 : decode b_Mod_showRec 76 = .ok (.aload_n 0, 1) := by decide +kernel
theorem d_Mod_showRec_77 : decode b_Mod_showRec 77 = .ok (.aload_n 0, 1) := by decide +kernel
theorem d_Mod_showRec_78 : decode b_Mod_showRec 78 = .ok (.getfield 134, 3) := by decide +kernel
theorem d_Mod_showRec_81 : decode b_Mod_showRec 81 = .ok (.iload_n 1, 1) := by decide +kernel
theorem d_Mod_showRec_82 : decode b_Mod_showRec 82 = .ok (.iaload, 1) := by decide +kernel
theorem d_Mod_showRec_83 : decode b_Mod_showRec 83 = .ok (.iload_n 2, 1) := by decide +kernel
theorem d_Mod_showRec_84 : decode b_Mod_showRec 84 = .ok (.invokevirtual 461, 3) := by decide +kernel
theorem d_Mod_showRec_87 : decode b_Mod_showRec 87 = .ok (.istore_n 3, 1) := by decide +kernel
theorem d_Mod_showRec_88 : decode b_Mod_showRec 88 = .ok (.aload_n 0, 1) := by decide +kernel
theorem d_Mod_showRec_89 : decode b_Mod_showRec 89 = .ok (.iconst 0, 1) := by decide +kernel
theorem d_Mod_showRec_90 : decode b_Mod_showRec 90 = .ok (.putfield 26, 3) := by decide +kernel
theorem d_Mod_showRec_93 : decode b_Mod_showRec 93 = .ok (.aload_n 0, 1) := by decide +kernel
theorem d_Mod_showRec_94 : decode b_Mod_showRec 94 = .ok (.iload_n 3, 1) := by decide +kernel
theorem d_Mod_showRec_95 : decode b_Mod_showRec 95 = .ok (.iconst 0, 1) := by decide +kernel
theorem d_Mod_showRec_96 : decode b_Mod_showRec 96 = .ok (.invokevirtual 531, 3) := by decide +kernel
theorem d_Mod_showRec_99 : decode b_Mod_showRec 99 = .ok (.aload_n 0, 1) := by decide +kernel
theorem d_Mod_showRec_100 : decode b_Mod_showRec 100 = .ok (.getfield 26, 3) := by decide +kernel
theorem d_Mod_showRec_103 : decode b_Mod_showRec 103 = .ok (.ireturn, 1) := by decide +kernel
theorem d_Mod_thrown_0 : decode b_Mod_thrown 0 = .ok (.aload_n 0, 1) := by decide +kernel
theorem d_Mod_thrown_1 : decode b_Mod_thrown 1 = .ok (.getfield 29, 3) := by decide +kernel
theorem d_Mod_thrown_4 : decode b_Mod_thrown 4 = .ok (.ireturn, 1) := by decide +kernel
