theorem d_Mod_stated_197 : decode b_Mod_stated 197 = .ok (.iastore, 1) := by decide +kernel
theorem d_Mod_stated_198 : decode b_Mod_stated 198 = .ok (.aload_n 0, 1) := by decide +kernel
theorem d_Mod_stated_199 : decode b_Mod_stated 199 = .ok (.getfield 122, 3) := by decide +kernel
theorem d_Mod_stated_202 : decode b_Mod_stated 202 = .ok (.iload 4, 2) := by decide +kernel
theorem d_Mod_stated_204 : decode b_Mod_stated 204 = .ok (.iconst 0, 1) := by decide +kernel
theorem d_Mod_stated_205 : decode b_Mod_stated 205 = .ok (.iastore, 1) := by decide +kernel
theorem d_Mod_stated_206 : decode b_Mod_stated 206 = .ok (.aload_n 0, 1) := by decide +kernel
theorem d_Mod_stated_207 : decode b_Mod_stated 207 = .ok (.getfield 125, 3) := by decide +kernel
theorem d_Mod_stated_210 : decode b_Mod_stated 210 = .ok (.iload 4, 2) := by decide +kernel
theorem d_Mod_stated_212 : decode b_Mod_stated 212 = .ok (.iconst 0, 1) := by decide +kernel
theorem d_Mod_stated_213 : decode b_Mod_stated 213 = .ok (.iastore, 1) := by decide +kernel
theorem d_Mod_stated_214 : decode b_Mod_stated 214 = .ok (.aload_n 0, 1) := by decide +kernel
theorem d_Mod_stated_215 : decode b_Mod_stated 215 = .ok (.getfield 128, 3) := by decide +kernel
theorem d_Mod_stated_218 : decode b_Mod_stated 218 = .ok (.iload 4, 2) := by decide +kernel
theorem d_Mod_stated_220 : decode b_Mod_stated 220 = .ok (.iconst 0, 1) := by decide +kernel
theorem d_Mod_stated_221 : decode b_Mod_stated 221 = .ok (.iastore, 1) := by decide +kernel
theorem d_Mod_stated_222 : decode b_Mod_stated 222 = .ok (.return_, 1) := by decide +kernel
theorem d_Mod_small_0 : decode b_Mod_small 0 = .ok (.aload_n 0, 1) := by decide +kernel
theorem d_Mod_small_1 : decode b_Mod_small 1 = .ok (.getfield 116, 3) := by decide +kernel
theorem d_Mod_small_4 : decode b_Mod_small 4 = .ok (.iload_n 1, 1) := by decide +kernel
theorem d_Mod_small_5 : decode b_Mod_small 5 = .ok (.iaload, 1) := by decide +kernel
theorem d_Mod_small_6 : decode b_Mod_small 6 = .ok (.istore_n 3, 1) := by decide +kernel
theorem d_Mod_small_7 : decode b_Mod_small 7 = .ok (.iconst 0, 1) := by decide +kernel
theorem d_Mod_small_8 : decode b_Mod_small 8 = .ok (.istore 4, 2) := by decide +kernel
theorem d_Mod_small_10 : decode b_Mod_small 10 = .ok (.iload 4, 2) := by decide +kernel
theorem d_Mod_small_12 : decode b_Mod_small 12 = .ok (.aload_n 0, 1) := by decide +kernel
theorem d_Mod_small_13 : decode b_Mod_small 13 = .ok (.getfield 125, 3) := by decide +kernel
theorem d_Mod_small_16 : decode b_Mod_small 16 = .ok (.iload_n 1, 1) := by decide +kernel
theorem d_Mod_small_17 : decode b_Mod_small 17 = .ok (.iaload, 1) := by decide +kernel
theorem d_Mod_small_18 : decode b_Mod_small 18 = .ok (.if_icmp .ge 99, 3) := by decide +kernel
theorem d_Mod_small_21 : decode b_Mod_small 21 = .ok (.aload_n 0, 1) := by decide +kernel
theorem d_Mod_small_22 : decode b_Mod_small 22 = .ok (.getfield 229, 3) := by decide +kernel
theorem d_Mod_small_25 : decode b_Mod_small 25 = .ok (.iload 4, 2) := by decide +kernel
theorem d_Mod_small_27 : decode b_Mod_small 27 = .ok (.baload, 1) := by decide +kernel
theorem d_Mod_small_28 : decode b_Mod_small 28 = .ok (.istore 5, 2) := by decide +kernel
theorem d_Mod_small_30 : decode b_Mod_small 30 = .ok (.iload_n 3, 1) := by decide +kernel
theorem d_Mod_small_31 : decode b_Mod_small 31 = .ok (.istore 6, 2) := by decide +kernel
theorem d_Mod_small_33 : decode b_Mod_small 33 = .ok (.iload 6, 2) := by decide +kernel
theorem d_Mod_small_35 : decode b_Mod_small 35 = .ok (.iload_n 3, 1) := by decide +kernel
theorem d_Mod_small_36 : decode b_Mod_small 36 = .ok (.iload_n 2, 1) := by decide +kernel
theorem d_Mod_small_37 : decode b_Mod_small 37 = .ok (.iadd, 1) := by decide +kernel
theorem d_Mod_small_38 : decode b_Mod_small 38 = .ok (.if_icmp .ge 66, 3) := by decide +kernel
theorem d_Mod_small_41 : decode b_Mod_small 41 = .ok (.aload_n 0, 1) := by decide +kernel
theorem d_Mod_small_42 : decode b_Mod_small 42 = .ok (.aload_n 0, 1) := by decide +kernel
theorem d_Mod_small_43 : decode b_Mod_small 43 = .ok (.getfield 220, 3) := by decide +kernel
theorem d_Mod_small_46 : decode b_Mod_small 46 = .ok (.iconst 0, 1) := by decide +kernel
theorem d_Mod_small_47 : decode b_Mod_small 47 = .ok (.iaload, 1) := by decide +kernel
theorem d_Mod_small_48 : decode b_Mod_small 48 = .ok (.iload_n 3, 1) := by decide +kernel
theorem d_Mod_small_49 : decode b_Mod_small 49 = .ok (.iload_n 2, 1) := by decide +kernel
theorem d_Mod_small_50 : decode b_Mod_small 50 = .ok (.iadd, 1) := by decide +kernel
theorem d_Mod_small_51 : decode b_Mod_small 51 = .ok (.iload 6, 2) := by decide +kernel
theorem d_Mod_small_53 : decode b_Mod_small 53 = .ok (.invokevirtual 440, 3) := by decide +kernel
theorem d_Mod_small_56 : decode b_Mod_small 56 = .ok (.istore 7, 2) := by decide +kernel
theorem d_Mod_small_58 : decode b_Mod_small 58 = .ok (.iload 5, 2) := by decide +kernel
theorem d_Mod_small_60 : decode b_Mod_small 60 = .ok (.ifCond .ne 31, 3) := by decide +kernel
theorem d_Mod_small_63 : decode b_Mod_small 63 = .ok (.aload_n 0, 1) := by decide +kernel
theorem d_Mod_small_64 : decode b_Mod_small 64 = .ok (.getfield 55, 3) := by decide +kernel
theorem d_Mod_small_67 : decode b_Mod_small 67 = .ok (.iload 7, 2) := by decide +kernel
theorem d_Mod_small_69 : decode b_Mod_small 69 = .ok (.baload, 1) := by decide +kernel
theorem d_Mod_small_70 : decode b_Mod_small 70 = .ok (.iconst 3, 1) := by decide +kernel
theorem d_Mod_small_71 : decode b_Mod_small 71 = .ok (.if_icmp .ne 24, 3) := by decide +kernel
theorem d_Mod_small_74 : decode b_Mod_small 74 = .ok (.aload_n 0, 1) := by decide +kernel
theorem d_Mod_small_75 : decode b_Mod_small 75 = .ok (.getfield 58, 3) := by decide +kernel
theorem d_Mod_small_78 : decode b_Mod_small 78 = .ok (.iload 7, 2) := by decide +kernel
theorem d_Mod_small_80 : decode b_Mod_small 80 = .ok (.iaload, 1) := by decide +kernel
theorem d_Mod_small_81 : decode b_Mod_small 81 = .ok (.aload_n 0, 1) := by decide +kernel
theorem d_Mod_small_82 : decode b_Mod_small 82 = .ok (.getfield 223, 3) := by decide +kernel
theorem d_Mod_small_85 : decode b_Mod_small 85 = .ok (.iload 4, 2) := by decide +kernel
theorem d_Mod_small_87 : decode b_Mod_small 87 = .ok (.iaload, 1) := by decide +kernel
theorem d_Mod_small_88 : decode b_Mod_small 88 = .ok (.if_icmp .ne 7, 3) := by decide +kernel
theorem d_Mod_small_91 : decode b_Mod_small 91 = .ok (.iconst 1, 1) := by decide +kernel
theorem d_Mod_small_92 : decode b_Mod_small 92 = .ok (.goto 4, 3) := by decide +kernel
theorem d_Mod_small_95 : decode b_Mod_small 95 = .ok (.iconst 0, 1) := by decide +kernel
theorem d_Mod_small_96 : decode b_Mod_small 96 = .ok (.istore 5, 2) := by decide +kernel
theorem d_Mod_small_98 : decode b_Mod_small 98 = .ok (.iinc 6 1, 3) := by decide +kernel
theorem d_Mod_small_101 : decode b_Mod_small 101 = .ok (.goto (-68), 3) := by decide +kernel
theorem d_Mod_small_104 : decode b_Mod_small 104 = .ok (.iload 5, 2) := by decide +kernel
theorem d_Mod_small_106 : decode b_Mod_small 106 = .ok (.ifCond .ne 5, 3) := by decide +kernel
theorem d_Mod_small_109 : decode b_Mod_small 109 = .ok (.iconst 0, 1) := by decide +kernel
theorem d_Mod_small_110 : decode b_Mod_small 110 = .ok (.ireturn, 1) := by decide +kernel
theorem d_Mod_small_111 : decode b_Mod_small 111 = .ok (.iinc 4 1, 3) := by decide +kernel
theorem d_Mod_small_114 : decode b_Mod_small 114 = .ok (.goto (-104), 3) := by decide +kernel
theorem d_Mod_small_117 : decode b_Mod_small 117 = .ok (.iconst 1, 1) := by decide +kernel
theorem d_Mod_small_118 : decode b_Mod_small 118 = .ok (.ireturn, 1) := by decide +kernel
theorem d_Mod_of_0 : decode b_Mod_of 0 = .ok (.iload_n 1, 1) := by decide +kernel
theorem d_Mod_of_1 : decode b_Mod_of 1 = .ok (.istore 4, 2) := by decide +kernel
theorem d_Mod_of_3 : decode b_Mod_of 3 = .ok (.iconst 0, 1) := by decide +kernel
theorem d_Mod_of_4 : decode b_Mod_of 4 = .ok (.istore 5, 2) := by decide +kernel
theorem d_Mod_of_6 : decode b_Mod_of 6 = .ok (.iload 5, 2) := by decide +kernel
theorem d_Mod_of_8 : decode b_Mod_of 8 = .ok (.iload_n 3, 1) := by decide +kernel
theorem d_Mod_of_9 : decode b_Mod_of 9 = .ok (.if_icmp .ge 30, 3) := by decide +kernel
theorem d_Mod_of_12 : decode b_Mod_of 12 = .ok (.aload_n 0, 1) := by decide +kernel
theorem d_Mod_of_13 : decode b_Mod_of 13 = .ok (.iload 4, 2) := by decide +kernel
theorem d_Mod_of_15 : decode b_Mod_of 15 = .ok (.aload_n 0, 1) := by decide +kernel
theorem d_Mod_of_16 : decode b_Mod_of 16 = .ok (.aload_n 0, 1) := by decide +kernel
theorem d_Mod_of_17 : decode b_Mod_of 17 = .ok (.getfield 208, 3) := by decide +kernel
theorem d_Mod_of_20 : decode b_Mod_of 20 = .ok (.iload_n 2, 1) := by decide +kernel
theorem d_Mod_of_21 : decode b_Mod_of 21 = .ok (.iload 5, 2) := by decide +kernel
theorem d_Mod_of_23 : decode b_Mod_of 23 = .ok (.iadd, 1) := by decide +kernel
theorem d_Mod_of_24 : decode b_Mod_of 24 = .ok (.iaload, 1) := by decide +kernel
theorem d_Mod_of_25 : decode b_Mod_of 25 = .ok (.invokevirtual 353, 3) := by decide +kernel
theorem d_Mod_of_28 : decode b_Mod_of 28 = .ok (.invokevirtual 350, 3) := by decide +kernel
theorem d_Mod_of_31 : decode b_Mod_of 31 = .ok (.istore 4, 2) := by decide +kernel
theorem d_Mod_of_33 : decode b_Mod_of 33 = .ok (.iinc 5 1, 3) := by decide +kernel
theorem d_Mod_of_36 : decode b_Mod_of 36 = .ok (.goto (-30), 3) := by decide +kernel
theorem d_Mod_of_39 : decode b_Mod_of 39 = .ok (.iload 4, 2) := by decide +kernel
theorem d_Mod_of_41 : decode b_Mod_of 41 = .ok (.ireturn, 1) := by decide +kernel
theorem d_Mod_ended_0 : decode b_Mod_ended 0 = .ok (.iload_n 1, 1) := by decide +kernel
theorem d_Mod_ended_1 : decode b_Mod_ended 1 = .ok (.istore_n 2, 1) := by decide +kernel
theorem d_Mod_ended_2 : decode b_Mod_ended 2 = .ok (.aload_n 0, 1) := by decide +kernel
theorem d_Mod_ended_3 : decode b_Mod_ended 3 = .ok (.iconst 0, 1) := by decide +kernel
theorem d_Mod_ended_4 : decode b_Mod_ended 4 = .ok (.putfield 247, 3) := by decide +kernel
theorem d_Mod_ended_7 : decode b_Mod_ended 7 = .ok (.aload_n 0, 1) := by decide +kernel
theorem d_Mod_ended_8 : decode b_Mod_ended 8 = .ok (.getfield 55, 3) := by decide +kernel
theorem d_Mod_ended_11 : decode b_Mod_ended 11 = .ok (.iload_n 2, 1) := by decide +kernel
theorem d_Mod_ended_12 : decode b_Mod_ended 12 = .ok (.baload, 1) := by decide +kernel
theorem d_Mod_ended_13 : decode b_Mod_ended 13 = .ok (.bipush 6, 2) := by decide +kernel
theorem d_Mod_ended_15 : decode b_Mod_ended 15 = .ok (.if_icmp .ne 61, 3) := by decide +kernel
theorem d_Mod_ended_18 : decode b_Mod_ended 18 = .ok (.aload_n 0, 1) := by decide +kernel
theorem d_Mod_ended_19 : decode b_Mod_ended 19 = .ok (.aload_n 0, 1) := by decide +kernel
theorem d_Mod_ended_20 : decode b_Mod_ended 20 = .ok (.getfield 58, 3) := by decide +kernel
theorem d_Mod_ended_23 : decode b_Mod_ended 23 = .ok (.iload_n 2, 1) := by decide +kernel
theorem d_Mod_ended_24 : decode b_Mod_ended 24 = .ok (.iaload, 1) := by decide +kernel
theorem d_Mod_ended_25 : decode b_Mod_ended 25 = .ok (.invokevirtual 468, 3) := by decide +kernel
theorem d_Mod_ended_28 : decode b_Mod_ended 28 = .ok (.istore_n 3, 1) := by decide +kernel
theorem d_Mod_ended_29 : decode b_Mod_ended 29 = .ok (.aload_n 0, 1) := by decide +kernel
theorem d_Mod_ended_30 : decode b_Mod_ended 30 = .ok (.getfield 235, 3) := by decide +kernel
theorem d_Mod_ended_33 : decode b_Mod_ended 33 = .ok (.aload_n 0, 1) := by decide +kernel
theorem d_Mod_ended_34 : decode b_Mod_ended 34 = .ok (.dup, 1) := by decide +kernel
theorem d_Mod_ended_35 : decode b_Mod_ended 35 = .ok (.getfield 238, 3) := by decide +kernel
theorem d_Mod_ended_38 : decode b_Mod_ended 38 = .ok (.dup_x1, 1) := by decide +kernel
theorem d_Mod_ended_39 : decode b_Mod_ended 39 = .ok (.iconst 1, 1) := by decide +kernel
theorem d_Mod_ended_40 : decode b_Mod_ended 40 = .ok (.iadd, 1) := by decide +kernel
theorem d_Mod_ended_41 : decode b_Mod_ended 41 = .ok (.putfield 238, 3) := by decide +kernel
theorem d_Mod_ended_44 : decode b_Mod_ended 44 = .ok (.aload_n 0, 1) := by decide +kernel
theorem d_Mod_ended_45 : decode b_Mod_ended 45 = .ok (.getfield 58, 3) := by decide +kernel
theorem d_Mod_ended_48 : decode b_Mod_ended 48 = .ok (.iload_n 3, 1) := by decide +kernel
theorem d_Mod_ended_49 : decode b_Mod_ended 49 = .ok (.iaload, 1) := by decide +kernel
theorem d_Mod_ended_50 : decode b_Mod_ended 50 = .ok (.iastore, 1) := by decide +kernel
theorem d_Mod_ended_51 : decode b_Mod_ended 51 = .ok (.aload_n 0, 1) := by decide +kernel
theorem d_Mod_ended_52 : decode b_Mod_ended 52 = .ok (.aload_n 0, 1) := by decide +kernel
theorem d_Mod_ended_53 : decode b_Mod_ended 53 = .ok (.getfield 62, 3) := by decide +kernel
theorem d_Mod_ended_56 : decode b_Mod_ended 56 = .ok (.iload_n 2, 1) := by decide +kernel
theorem d_Mod_ended_57 : decode b_Mod_ended 57 = .ok (.iaload, 1) := by decide +kernel
theorem d_Mod_ended_58 : decode b_Mod_ended 58 = .ok (.iload_n 3, 1) := by decide +kernel
theorem d_Mod_ended_59 : decode b_Mod_ended 59 = .ok (.invokevirtual 428, 3) := by decide +kernel
theorem d_Mod_ended_62 : decode b_Mod_ended 62 = .ok (.istore_n 2, 1) := by decide +kernel
theorem d_Mod_ended_63 : decode b_Mod_ended 63 = .ok (.aload_n 0, 1) := by decide +kernel
theorem d_Mod_ended_64 : decode b_Mod_ended 64 = .ok (.dup, 1) := by decide +kernel
theorem d_Mod_ended_65 : decode b_Mod_ended 65 = .ok (.getfield 247, 3) := by decide +kernel
theorem d_Mod_ended_68 : decode b_Mod_ended 68 = .ok (.iconst 1, 1) := by decide +kernel
theorem d_Mod_ended_69 : decode b_Mod_ended 69 = .ok (.iadd, 1) := by decide +kernel
theorem d_Mod_ended_70 : decode b_Mod_ended 70 = .ok (.putfield 247, 3) := by decide +kernel
theorem d_Mod_ended_73 : decode b_Mod_ended 73 = .ok (.goto (-66), 3) := by decide +kernel
theorem d_Mod_ended_76 : decode b_Mod_ended 76 = .ok (.iload_n 2, 1) := by decide +kernel
theorem d_Mod_ended_77 : decode b_Mod_ended 77 = .ok (.ireturn, 1) := by decide +kernel
theorem d_Mod_minor_0 : decode b_Mod_minor 0 = .ok (.aload_n 0, 1) := by decide +kernel
theorem d_Mod_minor_1 : decode b_Mod_minor 1 = .ok (.iconst 0, 1) := by decide +kernel
theorem d_Mod_minor_2 : decode b_Mod_minor 2 = .ok (.putfield 238, 3) := by decide +kernel
theorem d_Mod_minor_5 : decode b_Mod_minor 5 = .ok (.aload_n 0, 1) := by decide +kernel
theorem d_Mod_minor_6 : decode b_Mod_minor 6 = .ok (.getfield 217, 3) := by decide +kernel
theorem d_Mod_minor_9 : decode b_Mod_minor 9 = .ok (.iload_n 2, 1) := by decide +kernel
theorem d_Mod_minor_10 : decode b_Mod_minor 10 = .ok (.iaload, 1) := by decide +kernel
theorem d_Mod_minor_11 : decode b_Mod_minor 11 = .ok (.istore 6, 2) := by decide +kernel
theorem d_Mod_minor_13 : decode b_Mod_minor 13 = .ok (.aload_n 0, 1) := by decide +kernel
theorem d_Mod_minor_14 : decode b_Mod_minor 14 = .ok (.getfield 125, 3) := by decide +kernel
theorem d_Mod_minor_17 : decode b_Mod_minor 17 = .ok (.iload_n 1, 1) := by decide +kernel
theorem d_Mod_minor_18 : decode b_Mod_minor 18 = .ok (.iconst 1, 1) := by decide +kernel
theorem d_Mod_minor_19 : decode b_Mod_minor 19 = .ok (.iadd, 1) := by decide +kernel
theorem d_Mod_minor_20 : decode b_Mod_minor 20 = .ok (.iload_n 2, 1) := by decide +kernel
theorem d_Mod_minor_21 : decode b_Mod_minor 21 = .ok (.iadd, 1) := by decide +kernel
theorem d_Mod_minor_22 : decode b_Mod_minor 22 = .ok (.iaload, 1) := by decide +kernel
theorem d_Mod_minor_23 : decode b_Mod_minor 23 = .ok (.istore 7, 2) := by decide +kernel
theorem d_Mod_minor_25 : decode b_Mod_minor 25 = .ok (.iconst 0, 1) := by decide +kernel
theorem d_Mod_minor_26 : decode b_Mod_minor 26 = .ok (.istore 8, 2) := by decide +kernel
theorem d_Mod_minor_28 : decode b_Mod_minor 28 = .ok (.iload 8, 2) := by decide +kernel
theorem d_Mod_minor_30 : decode b_Mod_minor 30 = .ok (.iload 7, 2) := by decide +kernel
theorem d_Mod_minor_32 : decode b_Mod_minor 32 = .ok (.if_icmp .ge 35, 3) := by decide +kernel
theorem d_Mod_minor_35 : decode b_Mod_minor 35 = .ok (.aload_n 0, 1) := by decide +kernel
theorem d_Mod_minor_36 : decode b_Mod_minor 36 = .ok (.getfield 235, 3) := by decide +kernel
theorem d_Mod_minor_39 : decode b_Mod_minor 39 = .ok (.aload_n 0, 1) := by decide +kernel
theorem d_Mod_minor_40 : decode b_Mod_minor 40 = .ok (.dup, 1) := by decide +kernel
theorem d_Mod_minor_41 : decode b_Mod_minor 41 = .ok (.getfield 238, 3) := by decide +kernel
theorem d_Mod_minor_44 : decode b_Mod_minor 44 = .ok (.dup_x1, 1) := by decide +kernel
theorem d_Mod_minor_45 : decode b_Mod_minor 45 = .ok (.iconst 1, 1) := by decide +kernel
theorem d_Mod_minor_46 : decode b_Mod_minor 46 = .ok (.iadd, 1) := by decide +kernel
theorem d_Mod_minor_47 : decode b_Mod_minor 47 = .ok (.putfield 238, 3) := by decide +kernel
theorem d_Mod_minor_50 : decode b_Mod_minor 50 = .ok (.aload_n 0, 1) := by decide +kernel
theorem d_Mod_minor_51 : decode b_Mod_minor 51 = .ok (.getfield 223, 3) := by decide +kernel
theorem d_Mod_minor_54 : decode b_Mod_minor 54 = .ok (.iload 6, 2) := by decide +kernel
theorem d_Mod_minor_56 : decode b_Mod_minor 56 = .ok (.iload 8, 2) := by decide +kernel
theorem d_Mod_minor_58 : decode b_Mod_minor 58 = .ok (.iadd, 1) := by decide +kernel
theorem d_Mod_minor_59 : decode b_Mod_minor 59 = .ok (.iaload, 1) := by decide +kernel
theorem d_Mod_minor_60 : decode b_Mod_minor 60 = .ok (.iastore, 1) := by decide +kernel
theorem d_Mod_minor_61 : decode b_Mod_minor 61 = .ok (.iinc 8 1, 3) := by decide +kernel
theorem d_Mod_minor_64 : decode b_Mod_minor 64 = .ok (.goto (-36), 3) := by decide +kernel
theorem d_Mod_minor_67 : decode b_Mod_minor 67 = .ok (.iconst 0, 1) := by decide +kernel
theorem d_Mod_minor_68 : decode b_Mod_minor 68 = .ok (.istore 8, 2) := by decide +kernel
theorem d_Mod_minor_70 : decode b_Mod_minor 70 = .ok (.iload 8, 2) := by decide +kernel
theorem d_Mod_minor_72 : decode b_Mod_minor 72 = .ok (.iload 7, 2) := by decide +kernel
theorem d_Mod_minor_74 : decode b_Mod_minor 74 = .ok (.if_icmp .ge 155, 3) := by decide +kernel
theorem d_Mod_minor_77 : decode b_Mod_minor 77 = .ok (.aload_n 0, 1) := by decide +kernel
theorem d_Mod_minor_78 : decode b_Mod_minor 78 = .ok (.getfield 226, 3) := by decide +kernel
theorem d_Mod_minor_81 : decode b_Mod_minor 81 = .ok (.iload 6, 2) := by decide +kernel
theorem d_Mod_minor_83 : decode b_Mod_minor 83 = .ok (.iload 8, 2) := by decide +kernel
theorem d_Mod_minor_85 : decode b_Mod_minor 85 = .ok (.iadd, 1) := by decide +kernel
theorem d_Mod_minor_86 : decode b_Mod_minor 86 = .ok (.baload, 1) := by decide +kernel
theorem d_Mod_minor_87 : decode b_Mod_minor 87 = .ok (.ifCond .ne 6, 3) := by decide +kernel
theorem d_Mod_minor_90 : decode b_Mod_minor 90 = .ok (.goto 133, 3) := by decide +kernel
theorem d_Mod_minor_93 : decode b_Mod_minor 93 = .ok (.aload_n 0, 1) := by decide +kernel
theorem d_Mod_minor_94 : decode b_Mod_minor 94 = .ok (.getfield 238, 3) := by decide +kernel
theorem d_Mod_minor_97 : decode b_Mod_minor 97 = .ok (.istore 9, 2) := by decide +kernel
theorem d_Mod_minor_99 : decode b_Mod_minor 99 = .ok (.aload_n 0, 1) := by decide +kernel
theorem d_Mod_minor_100 : decode b_Mod_minor 100 = .ok (.aload_n 0, 1) := by decide +kernel
theorem d_Mod_minor_101 : decode b_Mod_minor 101 = .ok (.getfield 190, 3) := by decide +kernel
theorem d_Mod_minor_104 : decode b_Mod_minor 104 = .ok (.aload_n 0, 1) := by decide +kernel
theorem d_Mod_minor_105 : decode b_Mod_minor 105 = .ok (.getfield 223, 3) := by decide +kernel
theorem d_Mod_minor_108 : decode b_Mod_minor 108 = .ok (.iload 6, 2) := by decide +kernel
theorem d_Mod_minor_110 : decode b_Mod_minor 110 = .ok (.iload 8, 2) := by decide +kernel
theorem d_Mod_minor_112 : decode b_Mod_minor 112 = .ok (.iadd, 1) := by decide +kernel
theorem d_Mod_minor_113 : decode b_Mod_minor 113 = .ok (.iaload, 1) := by decide +kernel
theorem d_Mod_minor_114 : decode b_Mod_minor 114 = .ok (.iaload, 1) := by decide +kernel
theorem d_Mod_minor_115 : decode b_Mod_minor 115 = .ok (.invokevirtual 571, 3) := by decide +kernel
theorem d_Mod_minor_118 : decode b_Mod_minor 118 = .ok (.istore 10, 2) := by decide +kernel
theorem d_Mod_minor_120 : decode b_Mod_minor 120 = .ok (.iload 5, 2) := by decide +kernel
theorem d_Mod_minor_122 : decode b_Mod_minor 122 = .ok (.istore 11, 2) := by decide +kernel
theorem d_Mod_minor_124 : decode b_Mod_minor 124 = .ok (.iload_n 3, 1) := by decide +kernel
theorem d_Mod_minor_125 : decode b_Mod_minor 125 = .ok (.istore 12, 2) := by decide +kernel
theorem d_Mod_minor_127 : decode b_Mod_minor 127 = .ok (.iload 12, 2) := by decide +kernel
theorem d_Mod_minor_129 : decode b_Mod_minor 129 = .ok (.iload_n 3, 1) := by decide +kernel
theorem d_Mod_minor_130 : decode b_Mod_minor 130 = .ok (.iload 4, 2) := by decide +kernel
theorem d_Mod_minor_132 : decode b_Mod_minor 132 = .ok (.iadd, 1) := by decide +kernel
theorem d_Mod_minor_133 : decode b_Mod_minor 133 = .ok (.if_icmp .ge 29, 3) := by decide +kernel
theorem d_Mod_minor_136 : decode b_Mod_minor 136 = .ok (.aload_n 0, 1) := by decide +kernel
theorem d_Mod_minor_137 : decode b_Mod_minor 137 = .ok (.iload 11, 2) := by decide +kernel
theorem d_Mod_minor_139 : decode b_Mod_minor 139 = .ok (.aload_n 0, 1) := by decide +kernel
theorem d_Mod_minor_140 : decode b_Mod_minor 140 = .ok (.iload 10, 2) := by decide +kernel
theorem d_Mod_minor_142 : decode b_Mod_minor 142 = .ok (.iload_n 3, 1) := by decide +kernel
theorem d_Mod_minor_143 : decode b_Mod_minor 143 = .ok (.iload 4, 2) := by decide +kernel
theorem d_Mod_minor_145 : decode b_Mod_minor 145 = .ok (.iadd, 1) := by decide +kernel
theorem d_Mod_minor_146 : decode b_Mod_minor 146 = .ok (.iload 12, 2) := by decide +kernel
theorem d_Mod_minor_148 : decode b_Mod_minor 148 = .ok (.invokevirtual 440, 3) := by decide +kernel
theorem d_Mod_minor_151 : decode b_Mod_minor 151 = .ok (.invokevirtual 350, 3) := by decide +kernel
theorem d_Mod_minor_154 : decode b_Mod_minor 154 = .ok (.istore 11, 2) := by decide +kernel
theorem d_Mod_minor_156 : decode b_Mod_minor 156 = .ok (.iinc 12 1, 3) := by decide +kernel
theorem d_Mod_minor_159 : decode b_Mod_minor 159 = .ok (.goto (-32), 3) := by decide +kernel
theorem d_Mod_minor_162 : decode b_Mod_minor 162 = .ok (.aload_n 0, 1) := by decide +kernel
theorem d_Mod_minor_163 : decode b_Mod_minor 163 = .ok (.iload 11, 2) := by decide +kernel
theorem d_Mod_minor_165 : decode b_Mod_minor 165 = .ok (.aload_n 0, 1) := by decide +kernel
theorem d_Mod_minor_166 : decode b_Mod_minor 166 = .ok (.aload_n 0, 1) := by decide +kernel
theorem d_Mod_minor_167 : decode b_Mod_minor 167 = .ok (.getfield 223, 3) := by decide +kernel
theorem d_Mod_minor_170 : decode b_Mod_minor 170 = .ok (.iload 6, 2) := by decide +kernel
theorem d_Mod_minor_172 : decode b_Mod_minor 172 = .ok (.iload 8, 2) := by decide +kernel
theorem d_Mod_minor_174 : decode b_Mod_minor 174 = .ok (.iadd, 1) := by decide +kernel
theorem d_Mod_minor_175 : decode b_Mod_minor 175 = .ok (.iaload, 1) := by decide +kernel
theorem d_Mod_minor_176 : decode b_Mod_minor 176 = .ok (.invokevirtual 574, 3) := by decide +kernel
theorem d_Mod_minor_179 : decode b_Mod_minor 179 = .ok (.invokevirtual 350, 3) := by decide +kernel
theorem d_Mod_minor_182 : decode b_Mod_minor 182 = .ok (.istore 11, 2) := by decide +kernel
theorem d_Mod_minor_184 : decode b_Mod_minor 184 = .ok (.aload_n 0, 1) := by decide +kernel
theorem d_Mod_minor_185 : decode b_Mod_minor 185 = .ok (.getfield 58, 3) := by decide +kernel
theorem d_Mod_minor_188 : decode b_Mod_minor 188 = .ok (.aload_n 0, 1) := by decide +kernel
theorem d_Mod_minor_189 : decode b_Mod_minor 189 = .ok (.aload_n 0, 1) := by decide +kernel
theorem d_Mod_minor_190 : decode b_Mod_minor 190 = .ok (.bipush 6, 2) := by decide +kernel
theorem d_Mod_minor_192 : decode b_Mod_minor 192 = .ok (.iload 9, 2) := by decide +kernel
theorem d_Mod_minor_194 : decode b_Mod_minor 194 = .ok (.iload 11, 2) := by decide +kernel
theorem d_Mod_minor_196 : decode b_Mod_minor 196 = .ok (.invokevirtual 558, 3) := by decide +kernel
theorem d_Mod_minor_199 : decode b_Mod_minor 199 = .ok (.invokevirtual 468, 3) := by decide +kernel
theorem d_Mod_minor_202 : decode b_Mod_minor 202 = .ok (.iaload, 1) := by decide +kernel
theorem d_Mod_minor_203 : decode b_Mod_minor 203 = .ok (.istore 12, 2) := by decide +kernel
theorem d_Mod_minor_205 : decode b_Mod_minor 205 = .ok (.aload_n 0, 1) := by decide +kernel
theorem d_Mod_minor_206 : decode b_Mod_minor 206 = .ok (.getfield 235, 3) := by decide +kernel
theorem d_Mod_minor_209 : decode b_Mod_minor 209 = .ok (.aload_n 0, 1) := by decide +kernel
theorem d_Mod_minor_210 : decode b_Mod_minor 210 = .ok (.dup, 1) := by decide +kernel
theorem d_Mod_minor_211 : decode b_Mod_minor 211 = .ok (.getfield 238, 3) := by decide +kernel
theorem d_Mod_minor_214 : decode b_Mod_minor 214 = .ok (.dup_x1, 1) := by decide +kernel
theorem d_Mod_minor_215 : decode b_Mod_minor 215 = .ok (.iconst 1, 1) := by decide +kernel
theorem d_Mod_minor_216 : decode b_Mod_minor 216 = .ok (.iadd, 1) := by decide +kernel
theorem d_Mod_minor_217 : decode b_Mod_minor 217 = .ok (.putfield 238, 3) := by decide +kernel
theorem d_Mod_minor_220 : decode b_Mod_minor 220 = .ok (.iload 12, 2) := by decide +kernel
theorem d_Mod_minor_222 : decode b_Mod_minor 222 = .ok (.iastore, 1) := by decide +kernel
theorem d_Mod_minor_223 : decode b_Mod_minor 223 = .ok (.iinc 8 1, 3) := by decide +kernel
theorem d_Mod_minor_226 : decode b_Mod_minor 226 = .ok (.goto (-156), 3) := by decide +kernel
theorem d_Mod_minor_229 : decode b_Mod_minor 229 = .ok (.iload 5, 2) := by decide +kernel
theorem d_Mod_minor_231 : decode b_Mod_minor 231 = .ok (.istore 8, 2) := by decide +kernel
theorem d_Mod_minor_233 : decode b_Mod_minor 233 = .ok (.iload_n 3, 1) := by decide +kernel
theorem d_Mod_minor_234 : decode b_Mod_minor 234 = .ok (.istore 9, 2) := by decide +kernel
theorem d_Mod_minor_236 : decode b_Mod_minor 236 = .ok (.iload 9, 2) := by decide +kernel
theorem d_Mod_minor_238 : decode b_Mod_minor 238 = .ok (.iload_n 3, 1) := by decide +kernel
theorem d_Mod_minor_239 : decode b_Mod_minor 239 = .ok (.iload 4, 2) := by decide +kernel
theorem d_Mod_minor_241 : decode b_Mod_minor 241 = .ok (.iadd, 1) := by decide +kernel
theorem d_Mod_minor_242 : decode b_Mod_minor 242 = .ok (.if_icmp .ge 33, 3) := by decide +kernel
theorem d_Mod_minor_245 : decode b_Mod_minor 245 = .ok (.aload_n 0, 1) := by decide +kernel
theorem d_Mod_minor_246 : decode b_Mod_minor 246 = .ok (.iload 8, 2) := by decide +kernel
theorem d_Mod_minor_248 : decode b_Mod_minor 248 = .ok (.aload_n 0, 1) := by decide +kernel
theorem d_Mod_minor_249 : decode b_Mod_minor 249 = .ok (.aload_n 0, 1) := by decide +kernel
theorem d_Mod_minor_250 : decode b_Mod_minor 250 = .ok (.getfield 220, 3) := by decide +kernel
theorem d_Mod_minor_253 : decode b_Mod_minor 253 = .ok (.iload_n 2, 1) := by decide +kernel
theorem d_Mod_minor_254 : decode b_Mod_minor 254 = .ok (.iaload, 1) := by decide +kernel
theorem d_Mod_minor_255 : decode b_Mod_minor 255 = .ok (.iload_n 3, 1) := by decide +kernel
theorem d_Mod_minor_256 : decode b_Mod_minor 256 = .ok (.iload 4, 2) := by decide +kernel
theorem d_Mod_minor_258 : decode b_Mod_minor 258 = .ok (.iadd, 1) := by decide +kernel
theorem d_Mod_minor_259 : decode b_Mod_minor 259 = .ok (.iload 9, 2) := by decide +kernel
theorem d_Mod_minor_261 : decode b_Mod_minor 261 = .ok (.invokevirtual 440, 3) := by decide +kernel
theorem d_Mod_minor_264 : decode b_Mod_minor 264 = .ok (.invokevirtual 350, 3) := by decide +kernel
theorem d_Mod_minor_267 : decode b_Mod_minor 267 = .ok (.istore 8, 2) := by decide +kernel
theorem d_Mod_minor_269 : decode b_Mod_minor 269 = .ok (.iinc 9 1, 3) := by decide +kernel
theorem d_Mod_minor_272 : decode b_Mod_minor 272 = .ok (.goto (-36), 3) := by decide +kernel
theorem d_Mod_minor_275 : decode b_Mod_minor 275 = .ok (.aload_n 0, 1) := by decide +kernel
theorem d_Mod_minor_276 : decode b_Mod_minor 276 = .ok (.aload_n 0, 1) := by decide +kernel
theorem d_Mod_minor_277 : decode b_Mod_minor 277 = .ok (.iconst 1, 1) := by decide +kernel
theorem d_Mod_minor_278 : decode b_Mod_minor 278 = .ok (.iload_n 1, 1) := by decide +kernel
theorem d_Mod_minor_279 : decode b_Mod_minor 279 = .ok (.iconst 1, 1) := by decide +kernel
theorem d_Mod_minor_280 : decode b_Mod_minor 280 = .ok (.iadd, 1) := by decide +kernel
theorem d_Mod_minor_281 : decode b_Mod_minor 281 = .ok (.iload_n 2, 1) := by decide +kernel
theorem d_Mod_minor_282 : decode b_Mod_minor 282 = .ok (.iadd, 1) := by decide +kernel
theorem d_Mod_minor_283 : decode b_Mod_minor 283 = .ok (.iconst 0, 1) := by decide +kernel
theorem d_Mod_minor_284 : decode b_Mod_minor 284 = .ok (.iconst 0, 1) := by decide +kernel
theorem d_Mod_minor_285 : decode b_Mod_minor 285 = .ok (.invokevirtual 336, 3) := by decide +kernel
theorem d_Mod_minor_288 : decode b_Mod_minor 288 = .ok (.iconst 0, 1) := by decide +kernel
theorem d_Mod_minor_289 : decode b_Mod_minor 289 = .ok (.iload_n 3, 1) := by decide +kernel
theorem d_Mod_minor_290 : decode b_Mod_minor 290 = .ok (.invokevirtual 555, 3) := by decide +kernel
theorem d_Mod_minor_293 : decode b_Mod_minor 293 = .ok (.istore 9, 2) := by decide +kernel
theorem d_Mod_minor_295 : decode b_Mod_minor 295 = .ok (.iconst 0, 1) := by decide +kernel
theorem d_Mod_minor_296 : decode b_Mod_minor 296 = .ok (.istore 10, 2) := by decide +kernel
theorem d_Mod_minor_298 : decode b_Mod_minor 298 = .ok (.iload 10, 2) := by decide +kernel
theorem d_Mod_minor_300 : decode b_Mod_minor 300 = .ok (.iload 7, 2) := by decide +kernel
theorem d_Mod_minor_302 : decode b_Mod_minor 302 = .ok (.if_icmp .ge 31, 3) := by decide +kernel
theorem d_Mod_minor_305 : decode b_Mod_minor 305 = .ok (.aload_n 0, 1) := by decide +kernel
theorem d_Mod_minor_306 : decode b_Mod_minor 306 = .ok (.iload 9, 2) := by decide +kernel
theorem d_Mod_minor_308 : decode b_Mod_minor 308 = .ok (.aload_n 0, 1) := by decide +kernel
theorem d_Mod_minor_309 : decode b_Mod_minor 309 = .ok (.aload_n 0, 1) := by decide +kernel
theorem d_Mod_minor_310 : decode b_Mod_minor 310 = .ok (.getfield 223, 3) := by decide +kernel
theorem d_Mod_minor_313 : decode b_Mod_minor 313 = .ok (.iload 6, 2) := by decide +kernel
theorem d_Mod_minor_315 : decode b_Mod_minor 315 = .ok (.iload 10, 2) := by decide +kernel
theorem d_Mod_minor_317 : decode b_Mod_minor 317 = .ok (.iadd, 1) := by decide +kernel
theorem d_Mod_minor_318 : decode b_Mod_minor 318 = .ok (.iaload, 1) := by decide +kernel
theorem d_Mod_minor_319 : decode b_Mod_minor 319 = .ok (.invokevirtual 353, 3) := by decide +kernel
theorem d_Mod_minor_322 : decode b_Mod_minor 322 = .ok (.invokevirtual 350, 3) := by decide +kernel
theorem d_Mod_minor_325 : decode b_Mod_minor 325 = .ok (.istore 9, 2) := by decide +kernel
theorem d_Mod_minor_327 : decode b_Mod_minor 327 = .ok (.iinc 10 1, 3) := by decide +kernel
theorem d_Mod_minor_330 : decode b_Mod_minor 330 = .ok (.goto (-32), 3) := by decide +kernel
theorem d_Mod_minor_333 : decode b_Mod_minor 333 = .ok (.aload_n 0, 1) := by decide +kernel
theorem d_Mod_minor_334 : decode b_Mod_minor 334 = .ok (.bipush 6, 2) := by decide +kernel
theorem d_Mod_minor_336 : decode b_Mod_minor 336 = .ok (.iconst 0, 1) := by decide +kernel
theorem d_Mod_minor_337 : decode b_Mod_minor 337 = .ok (.aload_n 0, 1) := by decide +kernel
theorem d_Mod_minor_338 : decode b_Mod_minor 338 = .ok (.iload 8, 2) := by decide +kernel
theorem d_Mod_minor_340 : decode b_Mod_minor 340 = .ok (.iload 9, 2) := by decide +kernel
theorem d_Mod_minor_342 : decode b_Mod_minor 342 = .ok (.invokevirtual 350, 3) := by decide +kernel
theorem d_Mod_minor_345 : decode b_Mod_minor 345 = .ok (.invokevirtual 558, 3) := by decide +kernel
theorem d_Mod_minor_348 : decode b_Mod_minor 348 = .ok (.ireturn, 1) := by decide +kernel
