theorem d_Pri_later_0 : decode b_Pri_later 0 = .ok (.aload_n 0, 1) := by decide +kernel
theorem d_Pri_later_1 : decode b_Pri_later 1 = .ok (.getfield 29, 3) := by decide +kernel
theorem d_Pri_later_4 : decode b_Pri_later 4 = .ok (.iload_n 1, 1) := by decide +kernel
theorem d_Pri_later_5 : decode b_Pri_later 5 = .ok (.invokevirtual 63, 3) := by decide +kernel
theorem d_Pri_later_8 : decode b_Pri_later 8 = .ok (.aload_n 0, 1) := by decide +kernel
theorem d_Pri_later_9 : decode b_Pri_later 9 = .ok (.getfield 29, 3) := by decide +kernel
theorem d_Pri_later_12 : decode b_Pri_later 12 = .ok (.iload_n 2, 1) := by decide +kernel
theorem d_Pri_later_13 : decode b_Pri_later 13 = .ok (.invokevirtual 63, 3) := by decide +kernel
theorem d_Pri_later_16 : decode b_Pri_later 16 = .ok (.aload_n 0, 1) := by decide +kernel
theorem d_Pri_later_17 : decode b_Pri_later 17 = .ok (.getfield 29, 3) := by decide +kernel
theorem d_Pri_later_20 : decode b_Pri_later 20 = .ok (.iload_n 3, 1) := by decide +kernel
theorem d_Pri_later_21 : decode b_Pri_later 21 = .ok (.invokevirtual 63, 3) := by decide +kernel
theorem d_Pri_later_24 : decode b_Pri_later 24 = .ok (.return_, 1) := by decide +kernel
theorem d_Pri_text_0 : decode b_Pri_text 0 = .ok (.iconst 0, 1) := by decide +kernel
theorem d_Pri_text_1 : decode b_Pri_text 1 = .ok (.istore_n 2, 1) := by decide +kernel
theorem d_Pri_text_2 : decode b_Pri_text 2 = .ok (.iload_n 2, 1) := by decide +kernel
theorem d_Pri_text_3 : decode b_Pri_text 3 = .ok (.aload_n 1, 1) := by decide +kernel
theorem d_Pri_text_4 : decode b_Pri_text 4 = .ok (.invokevirtual 69, 3) := by decide +kernel
theorem d_Pri_text_7 : decode b_Pri_text 7 = .ok (.if_icmp .ge 21, 3) := by decide +kernel
theorem d_Pri_text_10 : decode b_Pri_text 10 = .ok (.aload_n 0, 1) := by decide +kernel
theorem d_Pri_text_11 : decode b_Pri_text 11 = .ok (.getfield 9, 3) := by decide +kernel
theorem d_Pri_text_14 : decode b_Pri_text 14 = .ok (.aload_n 1, 1) := by decide +kernel
theorem d_Pri_text_15 : decode b_Pri_text 15 = .ok (.iload_n 2, 1) := by decide +kernel
theorem d_Pri_text_16 : decode b_Pri_text 16 = .ok (.invokevirtual 74, 3) := by decide +kernel
theorem d_Pri_text_19 : decode b_Pri_text 19 = .ok (.invokevirtual 63, 3) := by decide +kernel
theorem d_Pri_text_22 : decode b_Pri_text 22 = .ok (.iinc 2 1, 3) := by decide +kernel
theorem d_Pri_text_25 : decode b_Pri_text 25 = .ok (.goto (-23), 3) := by decide +kernel
theorem d_Pri_text_28 : decode b_Pri_text 28 = .ok (.return_, 1) := by decide +kernel
theorem d_Pri_piece_0 : decode b_Pri_piece 0 = .ok (.iload_n 1, 1) := by decide +kernel
theorem d_Pri_piece_1 : decode b_Pri_piece 1 = .ok (.tableswitch 93 (-6) (-1) #[84, 75, 66, 57, 48, 39], 39) := by decide +kernel
theorem d_Pri_piece_40 : decode b_Pri_piece 40 = .ok (.aload_n 0, 1) := by decide +kernel
theorem d_Pri_piece_41 : decode b_Pri_piece 41 = .ok (.ldc 98, 2) := by decide +kernel
theorem d_Pri_piece_43 : decode b_Pri_piece 43 = .ok (.invokevirtual 89, 3) := by decide +kernel
theorem d_Pri_piece_46 : decode b_Pri_piece 46 = .ok (.goto 54, 3) := by decide +kernel
theorem d_Pri_piece_49 : decode b_Pri_piece 49 = .ok (.aload_n 0, 1) := by decide +kernel
theorem d_Pri_piece_50 : decode b_Pri_piece 50 = .ok (.ldc 100, 2) := by decide +kernel
theorem d_Pri_piece_52 : decode b_Pri_piece 52 = .ok (.invokevirtual 89, 3) := by decide +kernel
theorem d_Pri_piece_55 : decode b_Pri_piece 55 = .ok (.goto 45, 3) := by decide +kernel
theorem d_Pri_piece_58 : decode b_Pri_piece 58 = .ok (.aload_n 0, 1) := by decide +kernel
theorem d_Pri_piece_59 : decode b_Pri_piece 59 = .ok (.ldc 102, 2) := by decide +kernel
theorem d_Pri_piece_61 : decode b_Pri_piece 61 = .ok (.invokevirtual 89, 3) := by decide +kernel
theorem d_Pri_piece_64 : decode b_Pri_piece 64 = .ok (.goto 36, 3) := by decide +kernel
theorem d_Pri_piece_67 : decode b_Pri_piece 67 = .ok (.aload_n 0, 1) := by decide +kernel
theorem d_Pri_piece_68 : decode b_Pri_piece 68 = .ok (.ldc 104, 2) := by decide +kernel
theorem d_Pri_piece_70 : decode b_Pri_piece 70 = .ok (.invokevirtual 89, 3) := by decide +kernel
theorem d_Pri_piece_73 : decode b_Pri_piece 73 = .ok (.goto 27, 3) := by decide +kernel
theorem d_Pri_piece_76 : decode b_Pri_piece 76 = .ok (.aload_n 0, 1) := by decide +kernel
theorem d_Pri_piece_77 : decode b_Pri_piece 77 = .ok (.ldc 106, 2) := by decide +kernel
theorem d_Pri_piece_79 : decode b_Pri_piece 79 = .ok (.invokevirtual 89, 3) := by decide +kernel
theorem d_Pri_piece_82 : decode b_Pri_piece 82 = .ok (.goto 18, 3) := by decide +kernel
theorem d_Pri_piece_85 : decode b_Pri_piece 85 = .ok (.aload_n 0, 1) := by decide +kernel
theorem d_Pri_piece_86 : decode b_Pri_piece 86 = .ok (.ldc 108, 2) := by decide +kernel
theorem d_Pri_piece_88 : decode b_Pri_piece 88 = .ok (.invokevirtual 89, 3) := by decide +kernel
theorem d_Pri_piece_91 : decode b_Pri_piece 91 = .ok (.goto 9, 3) := by decide +kernel
theorem d_Pri_piece_94 : decode b_Pri_piece 94 = .ok (.aload_n 0, 1) := by decide +kernel
theorem d_Pri_piece_95 : decode b_Pri_piece 95 = .ok (.ldc 110, 2) := by decide +kernel
theorem d_Pri_piece_97 : decode b_Pri_piece 97 = .ok (.invokevirtual 89, 3) := by decide +kernel
theorem d_Pri_piece_100 : decode b_Pri_piece 100 = .ok (.return_, 1) := by decide +kernel
theorem d_Pri_needsBrackets_0 : decode b_Pri_needsBrackets 0 = .ok (.iload_n 1, 1) := by decide +kernel
theorem d_Pri_needsBrackets_1 : decode b_Pri_needsBrackets 1 = .ok (.iconst 2, 1) := by decide +kernel
theorem d_Pri_needsBrackets_2 : decode b_Pri_needsBrackets 2 = .ok (.if_icmp .ne 8, 3) := by decide +kernel
theorem d_Pri_needsBrackets_5 : decode b_Pri_needsBrackets 5 = .ok (.iload_n 0, 1) := by decide +kernel
theorem d_Pri_needsBrackets_6 : decode b_Pri_needsBrackets 6 = .ok (.iconst 5, 1) := by decide +kernel
theorem d_Pri_needsBrackets_7 : decode b_Pri_needsBrackets 7 = .ok (.if_icmp .ge 14, 3) := by decide +kernel
theorem d_Pri_needsBrackets_10 : decode b_Pri_needsBrackets 10 = .ok (.iload_n 1, 1) := by decide +kernel
theorem d_Pri_needsBrackets_11 : decode b_Pri_needsBrackets 11 = .ok (.iconst 1, 1) := by decide +kernel
theorem d_Pri_needsBrackets_12 : decode b_Pri_needsBrackets 12 = .ok (.if_icmp .ne 13, 3) := by decide +kernel
theorem d_Pri_needsBrackets_15 : decode b_Pri_needsBrackets 15 = .ok (.iload_n 0, 1) := by decide +kernel
theorem d_Pri_needsBrackets_16 : decode b_Pri_needsBrackets 16 = .ok (.bipush 6, 2) := by decide +kernel
theorem d_Pri_needsBrackets_18 : decode b_Pri_needsBrackets 18 = .ok (.if_icmp .lt 7, 3) := by decide +kernel
theorem d_Pri_needsBrackets_21 : decode b_Pri_needsBrackets 21 = .ok (.iconst 1, 1) := by decide +kernel
theorem d_Pri_needsBrackets_22 : decode b_Pri_needsBrackets 22 = .ok (.goto 4, 3) := by decide +kernel
theorem d_Pri_needsBrackets_25 : decode b_Pri_needsBrackets 25 = .ok (.iconst 0, 1) := by decide +kernel
theorem d_Pri_needsBrackets_26 : decode b_Pri_needsBrackets 26 = .ok (.ireturn, 1) := by decide +kernel
theorem d_Pri_number_0 : decode b_Pri_number 0 = .ok (.iconst 1, 1) := by decide +kernel
theorem d_Pri_number_1 : decode b_Pri_number 1 = .ok (.istore_n 2, 1) := by decide +kernel
theorem d_Pri_number_2 : decode b_Pri_number 2 = .ok (.iload_n 2, 1) := by decide +kernel
theorem d_Pri_number_3 : decode b_Pri_number 3 = .ok (.iload_n 1, 1) := by decide +kernel
theorem d_Pri_number_4 : decode b_Pri_number 4 = .ok (.bipush 10, 2) := by decide +kernel
theorem d_Pri_number_6 : decode b_Pri_number 6 = .ok (.idiv, 1) := by decide +kernel
theorem d_Pri_number_7 : decode b_Pri_number 7 = .ok (.if_icmp .gt 11, 3) := by decide +kernel
theorem d_Pri_number_10 : decode b_Pri_number 10 = .ok (.iload_n 2, 1) := by decide +kernel
theorem d_Pri_number_11 : decode b_Pri_number 11 = .ok (.bipush 10, 2) := by decide +kernel
theorem d_Pri_number_13 : decode b_Pri_number 13 = .ok (.imul, 1) := by decide +kernel
theorem d_Pri_number_14 : decode b_Pri_number 14 = .ok (.istore_n 2, 1) := by decide +kernel
theorem d_Pri_number_15 : decode b_Pri_number 15 = .ok (.goto (-13), 3) := by decide +kernel
theorem d_Pri_number_18 : decode b_Pri_number 18 = .ok (.iload_n 2, 1) := by decide +kernel
theorem d_Pri_number_19 : decode b_Pri_number 19 = .ok (.ifCond .le 27, 3) := by decide +kernel
theorem d_Pri_number_22 : decode b_Pri_number 22 = .ok (.aload_n 0, 1) := by decide +kernel
theorem d_Pri_number_23 : decode b_Pri_number 23 = .ok (.getfield 9, 3) := by decide +kernel
theorem d_Pri_number_26 : decode b_Pri_number 26 = .ok (.bipush 48, 2) := by decide +kernel
theorem d_Pri_number_28 : decode b_Pri_number 28 = .ok (.iload_n 1, 1) := by decide +kernel
theorem d_Pri_number_29 : decode b_Pri_number 29 = .ok (.iload_n 2, 1) := by decide +kernel
theorem d_Pri_number_30 : decode b_Pri_number 30 = .ok (.idiv, 1) := by decide +kernel
theorem d_Pri_number_31 : decode b_Pri_number 31 = .ok (.bipush 10, 2) := by decide +kernel
theorem d_Pri_number_33 : decode b_Pri_number 33 = .ok (.irem, 1) := by decide +kernel
theorem d_Pri_number_34 : decode b_Pri_number 34 = .ok (.iadd, 1) := by decide +kernel
theorem d_Pri_number_35 : decode b_Pri_number 35 = .ok (.invokevirtual 63, 3) := by decide +kernel
theorem d_Pri_number_38 : decode b_Pri_number 38 = .ok (.iload_n 2, 1) := by decide +kernel
theorem d_Pri_number_39 : decode b_Pri_number 39 = .ok (.bipush 10, 2) := by decide +kernel
theorem d_Pri_number_41 : decode b_Pri_number 41 = .ok (.idiv, 1) := by decide +kernel
theorem d_Pri_number_42 : decode b_Pri_number 42 = .ok (.istore_n 2, 1) := by decide +kernel
theorem d_Pri_number_43 : decode b_Pri_number 43 = .ok (.goto (-25), 3) := by decide +kernel
theorem d_Pri_number_46 : decode b_Pri_number 46 = .ok (.return_, 1) := by decide +kernel
theorem d_Pri_sort_0 : decode b_Pri_sort 0 = .ok (.iload_n 1, 1) := by decide +kernel
theorem d_Pri_sort_1 : decode b_Pri_sort 1 = .ok (.ifCond .ne 12, 3) := by decide +kernel
theorem d_Pri_sort_4 : decode b_Pri_sort 4 = .ok (.aload_n 0, 1) := by decide +kernel
theorem d_Pri_sort_5 : decode b_Pri_sort 5 = .ok (.ldc 87, 2) := by decide +kernel
theorem d_Pri_sort_7 : decode b_Pri_sort 7 = .ok (.invokevirtual 89, 3) := by decide +kernel
theorem d_Pri_sort_10 : decode b_Pri_sort 10 = .ok (.goto 16, 3) := by decide +kernel
theorem d_Pri_sort_13 : decode b_Pri_sort 13 = .ok (.aload_n 0, 1) := by decide +kernel
theorem d_Pri_sort_14 : decode b_Pri_sort 14 = .ok (.ldc 93, 2) := by decide +kernel
theorem d_Pri_sort_16 : decode b_Pri_sort 16 = .ok (.invokevirtual 89, 3) := by decide +kernel
theorem d_Pri_sort_19 : decode b_Pri_sort 19 = .ok (.aload_n 0, 1) := by decide +kernel
theorem d_Pri_sort_20 : decode b_Pri_sort 20 = .ok (.iload_n 1, 1) := by decide +kernel
theorem d_Pri_sort_21 : decode b_Pri_sort 21 = .ok (.iconst 1, 1) := by decide +kernel
theorem d_Pri_sort_22 : decode b_Pri_sort 22 = .ok (.isub, 1) := by decide +kernel
theorem d_Pri_sort_23 : decode b_Pri_sort 23 = .ok (.invokevirtual 95, 3) := by decide +kernel
theorem d_Pri_sort_26 : decode b_Pri_sort 26 = .ok (.return_, 1) := by decide +kernel
theorem d_Pri_name_0 : decode b_Pri_name 0 = .ok (.iconst 0, 1) := by decide +kernel
theorem d_Pri_name_1 : decode b_Pri_name 1 = .ok (.istore_n 2, 1) := by decide +kernel
theorem d_Pri_name_2 : decode b_Pri_name 2 = .ok (.iload_n 2, 1) := by decide +kernel
theorem d_Pri_name_3 : decode b_Pri_name 3 = .ok (.aload_n 0, 1) := by decide +kernel
theorem d_Pri_name_4 : decode b_Pri_name 4 = .ok (.getfield 19, 3) := by decide +kernel
theorem d_Pri_name_7 : decode b_Pri_name 7 = .ok (.iload_n 1, 1) := by decide +kernel
theorem d_Pri_name_8 : decode b_Pri_name 8 = .ok (.invokevirtual 78, 3) := by decide +kernel
theorem d_Pri_name_11 : decode b_Pri_name 11 = .ok (.if_icmp .ge 25, 3) := by decide +kernel
theorem d_Pri_name_14 : decode b_Pri_name 14 = .ok (.aload_n 0, 1) := by decide +kernel
theorem d_Pri_name_15 : decode b_Pri_name 15 = .ok (.getfield 9, 3) := by decide +kernel
theorem d_Pri_name_18 : decode b_Pri_name 18 = .ok (.aload_n 0, 1) := by decide +kernel
theorem d_Pri_name_19 : decode b_Pri_name 19 = .ok (.getfield 19, 3) := by decide +kernel
theorem d_Pri_name_22 : decode b_Pri_name 22 = .ok (.iload_n 1, 1) := by decide +kernel
theorem d_Pri_name_23 : decode b_Pri_name 23 = .ok (.iload_n 2, 1) := by decide +kernel
theorem d_Pri_name_24 : decode b_Pri_name 24 = .ok (.invokevirtual 83, 3) := by decide +kernel
theorem d_Pri_name_27 : decode b_Pri_name 27 = .ok (.invokevirtual 63, 3) := by decide +kernel
theorem d_Pri_name_30 : decode b_Pri_name 30 = .ok (.iinc 2 1, 3) := by decide +kernel
theorem d_Pri_name_33 : decode b_Pri_name 33 = .ok (.goto (-31), 3) := by decide +kernel
theorem d_Pri_name_36 : decode b_Pri_name 36 = .ok (.return_, 1) := by decide +kernel
theorem d_Pri_writeLet_0 : decode b_Pri_writeLet 0 = .ok (.aload_n 0, 1) := by decide +kernel
theorem d_Pri_writeLet_1 : decode b_Pri_writeLet 1 = .ok (.getfield 15, 3) := by decide +kernel
theorem d_Pri_writeLet_4 : decode b_Pri_writeLet 4 = .ok (.iload_n 1, 1) := by decide +kernel
theorem d_Pri_writeLet_5 : decode b_Pri_writeLet 5 = .ok (.invokevirtual 120, 3) := by decide +kernel
theorem d_Pri_writeLet_8 : decode b_Pri_writeLet 8 = .ok (.istore_n 3, 1) := by decide +kernel
theorem d_Pri_writeLet_9 : decode b_Pri_writeLet 9 = .ok (.aload_n 0, 1) := by decide +kernel
theorem d_Pri_writeLet_10 : decode b_Pri_writeLet 10 = .ok (.ldc 139, 2) := by decide +kernel
theorem d_Pri_writeLet_12 : decode b_Pri_writeLet 12 = .ok (.invokevirtual 89, 3) := by decide +kernel
theorem d_Pri_writeLet_15 : decode b_Pri_writeLet 15 = .ok (.aload_n 0, 1) := by decide +kernel
theorem d_Pri_writeLet_16 : decode b_Pri_writeLet 16 = .ok (.iload_n 2, 1) := by decide +kernel
theorem d_Pri_writeLet_17 : decode b_Pri_writeLet 17 = .ok (.invokevirtual 95, 3) := by decide +kernel
theorem d_Pri_writeLet_20 : decode b_Pri_writeLet 20 = .ok (.aload_n 0, 1) := by decide +kernel
theorem d_Pri_writeLet_21 : decode b_Pri_writeLet 21 = .ok (.ldc 137, 2) := by decide +kernel
theorem d_Pri_writeLet_23 : decode b_Pri_writeLet 23 = .ok (.invokevirtual 89, 3) := by decide +kernel
theorem d_Pri_writeLet_26 : decode b_Pri_writeLet 26 = .ok (.aload_n 0, 1) := by decide +kernel
theorem d_Pri_writeLet_27 : decode b_Pri_writeLet 27 = .ok (.aload_n 0, 1) := by decide +kernel
theorem d_Pri_writeLet_28 : decode b_Pri_writeLet 28 = .ok (.getfield 15, 3) := by decide +kernel
theorem d_Pri_writeLet_31 : decode b_Pri_writeLet 31 = .ok (.iload_n 3, 1) := by decide +kernel
theorem d_Pri_writeLet_32 : decode b_Pri_writeLet 32 = .ok (.invokevirtual 120, 3) := by decide +kernel
theorem d_Pri_writeLet_35 : decode b_Pri_writeLet 35 = .ok (.iload_n 2, 1) := by decide +kernel
theorem d_Pri_writeLet_36 : decode b_Pri_writeLet 36 = .ok (.iconst 1, 1) := by decide +kernel
theorem d_Pri_writeLet_37 : decode b_Pri_writeLet 37 = .ok (.iadd, 1) := by decide +kernel
theorem d_Pri_writeLet_38 : decode b_Pri_writeLet 38 = .ok (.iconst 0, 1) := by decide +kernel
theorem d_Pri_writeLet_39 : decode b_Pri_writeLet 39 = .ok (.invokevirtual 39, 3) := by decide +kernel
theorem d_Pri_writeLet_42 : decode b_Pri_writeLet 42 = .ok (.aload_n 0, 1) := by decide +kernel
theorem d_Pri_writeLet_43 : decode b_Pri_writeLet 43 = .ok (.bipush (-7), 2) := by decide +kernel
theorem d_Pri_writeLet_45 : decode b_Pri_writeLet 45 = .ok (.iconst 0, 1) := by decide +kernel
theorem d_Pri_writeLet_46 : decode b_Pri_writeLet 46 = .ok (.iconst 0, 1) := by decide +kernel
theorem d_Pri_writeLet_47 : decode b_Pri_writeLet 47 = .ok (.invokevirtual 39, 3) := by decide +kernel
theorem d_Pri_writeLet_50 : decode b_Pri_writeLet 50 = .ok (.aload_n 0, 1) := by decide +kernel
theorem d_Pri_writeLet_51 : decode b_Pri_writeLet 51 = .ok (.aload_n 0, 1) := by decide +kernel
theorem d_Pri_writeLet_52 : decode b_Pri_writeLet 52 = .ok (.getfield 15, 3) := by decide +kernel
theorem d_Pri_writeLet_55 : decode b_Pri_writeLet 55 = .ok (.iload_n 3, 1) := by decide +kernel
theorem d_Pri_writeLet_56 : decode b_Pri_writeLet 56 = .ok (.invokevirtual 112, 3) := by decide +kernel
theorem d_Pri_writeLet_59 : decode b_Pri_writeLet 59 = .ok (.iload_n 2, 1) := by decide +kernel
theorem d_Pri_writeLet_60 : decode b_Pri_writeLet 60 = .ok (.iconst 0, 1) := by decide +kernel
theorem d_Pri_writeLet_61 : decode b_Pri_writeLet 61 = .ok (.invokevirtual 39, 3) := by decide +kernel
theorem d_Pri_writeLet_64 : decode b_Pri_writeLet 64 = .ok (.aload_n 0, 1) := by decide +kernel
theorem d_Pri_writeLet_65 : decode b_Pri_writeLet 65 = .ok (.bipush (-6), 2) := by decide +kernel
theorem d_Pri_writeLet_67 : decode b_Pri_writeLet 67 = .ok (.iconst 0, 1) := by decide +kernel
theorem d_Pri_writeLet_68 : decode b_Pri_writeLet 68 = .ok (.iconst 0, 1) := by decide +kernel
theorem d_Pri_writeLet_69 : decode b_Pri_writeLet 69 = .ok (.invokevirtual 39, 3) := by decide +kernel
theorem d_Pri_writeLet_72 : decode b_Pri_writeLet 72 = .ok (.aload_n 0, 1) := by decide +kernel
theorem d_Pri_writeLet_73 : decode b_Pri_writeLet 73 = .ok (.aload_n 0, 1) := by decide +kernel
theorem d_Pri_writeLet_74 : decode b_Pri_writeLet 74 = .ok (.getfield 15, 3) := by decide +kernel
theorem d_Pri_writeLet_77 : decode b_Pri_writeLet 77 = .ok (.iload_n 1, 1) := by decide +kernel
theorem d_Pri_writeLet_78 : decode b_Pri_writeLet 78 = .ok (.invokevirtual 112, 3) := by decide +kernel
theorem d_Pri_writeLet_81 : decode b_Pri_writeLet 81 = .ok (.iload_n 2, 1) := by decide +kernel
theorem d_Pri_writeLet_82 : decode b_Pri_writeLet 82 = .ok (.iconst 0, 1) := by decide +kernel
theorem d_Pri_writeLet_83 : decode b_Pri_writeLet 83 = .ok (.invokevirtual 39, 3) := by decide +kernel
theorem d_Pri_writeLet_86 : decode b_Pri_writeLet 86 = .ok (.return_, 1) := by decide +kernel
theorem d_Pri_writeBinder_0 : decode b_Pri_writeBinder 0 = .ok (.aload_n 0, 1) := by decide +kernel
theorem d_Pri_writeBinder_1 : decode b_Pri_writeBinder 1 = .ok (.getfield 15, 3) := by decide +kernel
theorem d_Pri_writeBinder_4 : decode b_Pri_writeBinder 4 = .ok (.iload_n 1, 1) := by decide +kernel
theorem d_Pri_writeBinder_5 : decode b_Pri_writeBinder 5 = .ok (.invokevirtual 53, 3) := by decide +kernel
theorem d_Pri_writeBinder_8 : decode b_Pri_writeBinder 8 = .ok (.bipush 6, 2) := by decide +kernel
theorem d_Pri_writeBinder_10 : decode b_Pri_writeBinder 10 = .ok (.if_icmp .ne 7, 3) := by decide +kernel
theorem d_Pri_writeBinder_13 : decode b_Pri_writeBinder 13 = .ok (.iconst 1, 1) := by decide +kernel
theorem d_Pri_writeBinder_14 : decode b_Pri_writeBinder 14 = .ok (.goto 4, 3) := by decide +kernel
theorem d_Pri_writeBinder_17 : decode b_Pri_writeBinder 17 = .ok (.iconst 0, 1) := by decide +kernel
theorem d_Pri_writeBinder_18 : decode b_Pri_writeBinder 18 = .ok (.istore_n 3, 1) := by decide +kernel
theorem d_Pri_writeBinder_19 : decode b_Pri_writeBinder 19 = .ok (.aload_n 0, 1) := by decide +kernel
theorem d_Pri_writeBinder_20 : decode b_Pri_writeBinder 20 = .ok (.getfield 15, 3) := by decide +kernel
theorem d_Pri_writeBinder_23 : decode b_Pri_writeBinder 23 = .ok (.iload_n 1, 1) := by decide +kernel
theorem d_Pri_writeBinder_24 : decode b_Pri_writeBinder 24 = .ok (.invokevirtual 120, 3) := by decide +kernel
theorem d_Pri_writeBinder_27 : decode b_Pri_writeBinder 27 = .ok (.istore 4, 2) := by decide +kernel
theorem d_Pri_writeBinder_29 : decode b_Pri_writeBinder 29 = .ok (.aload_n 0, 1) := by decide +kernel
theorem d_Pri_writeBinder_30 : decode b_Pri_writeBinder 30 = .ok (.iload 4, 2) := by decide +kernel
theorem d_Pri_writeBinder_32 : decode b_Pri_writeBinder 32 = .ok (.iload_n 2, 1) := by decide +kernel
theorem d_Pri_writeBinder_33 : decode b_Pri_writeBinder 33 = .ok (.iconst 1, 1) := by decide +kernel
theorem d_Pri_writeBinder_34 : decode b_Pri_writeBinder 34 = .ok (.iadd, 1) := by decide +kernel
theorem d_Pri_writeBinder_35 : decode b_Pri_writeBinder 35 = .ok (.iconst 0, 1) := by decide +kernel
theorem d_Pri_writeBinder_36 : decode b_Pri_writeBinder 36 = .ok (.invokevirtual 39, 3) := by decide +kernel
theorem d_Pri_writeBinder_39 : decode b_Pri_writeBinder 39 = .ok (.iload_n 3, 1) := by decide +kernel
theorem d_Pri_writeBinder_40 : decode b_Pri_writeBinder 40 = .ok (.ifCond .eq 40, 3) := by decide +kernel
theorem d_Pri_writeBinder_43 : decode b_Pri_writeBinder 43 = .ok (.aload_n 0, 1) := by decide +kernel
theorem d_Pri_writeBinder_44 : decode b_Pri_writeBinder 44 = .ok (.getfield 15, 3) := by decide +kernel
theorem d_Pri_writeBinder_47 : decode b_Pri_writeBinder 47 = .ok (.iload 4, 2) := by decide +kernel
theorem d_Pri_writeBinder_49 : decode b_Pri_writeBinder 49 = .ok (.iconst 0, 1) := by decide +kernel
theorem d_Pri_writeBinder_50 : decode b_Pri_writeBinder 50 = .ok (.iconst 0, 1) := by decide +kernel
theorem d_Pri_writeBinder_51 : decode b_Pri_writeBinder 51 = .ok (.invokevirtual 129, 3) := by decide +kernel
theorem d_Pri_writeBinder_54 : decode b_Pri_writeBinder 54 = .ok (.ifCond .ne 26, 3) := by decide +kernel
theorem d_Pri_writeBinder_57 : decode b_Pri_writeBinder 57 = .ok (.aload_n 0, 1) := by decide +kernel
theorem d_Pri_writeBinder_58 : decode b_Pri_writeBinder 58 = .ok (.bipush (-3), 2) := by decide +kernel
theorem d_Pri_writeBinder_60 : decode b_Pri_writeBinder 60 = .ok (.iconst 0, 1) := by decide +kernel
theorem d_Pri_writeBinder_61 : decode b_Pri_writeBinder 61 = .ok (.iconst 0, 1) := by decide +kernel
theorem d_Pri_writeBinder_62 : decode b_Pri_writeBinder 62 = .ok (.invokevirtual 39, 3) := by decide +kernel
theorem d_Pri_writeBinder_65 : decode b_Pri_writeBinder 65 = .ok (.aload_n 0, 1) := by decide +kernel
theorem d_Pri_writeBinder_66 : decode b_Pri_writeBinder 66 = .ok (.aload_n 0, 1) := by decide +kernel
theorem d_Pri_writeBinder_67 : decode b_Pri_writeBinder 67 = .ok (.getfield 15, 3) := by decide +kernel
theorem d_Pri_writeBinder_70 : decode b_Pri_writeBinder 70 = .ok (.iload_n 1, 1) := by decide +kernel
theorem d_Pri_writeBinder_71 : decode b_Pri_writeBinder 71 = .ok (.invokevirtual 112, 3) := by decide +kernel
theorem d_Pri_writeBinder_74 : decode b_Pri_writeBinder 74 = .ok (.iload_n 2, 1) := by decide +kernel
theorem d_Pri_writeBinder_75 : decode b_Pri_writeBinder 75 = .ok (.iconst 1, 1) := by decide +kernel
theorem d_Pri_writeBinder_76 : decode b_Pri_writeBinder 76 = .ok (.invokevirtual 39, 3) := by decide +kernel
theorem d_Pri_writeBinder_79 : decode b_Pri_writeBinder 79 = .ok (.return_, 1) := by decide +kernel
theorem d_Pri_writeBinder_80 : decode b_Pri_writeBinder 80 = .ok (.aload_n 0, 1) := by decide +kernel
theorem d_Pri_writeBinder_81 : decode b_Pri_writeBinder 81 = .ok (.iload_n 3, 1) := by decide +kernel
theorem d_Pri_writeBinder_82 : decode b_Pri_writeBinder 82 = .ok (.ifCond .eq 8, 3) := by decide +kernel
theorem d_Pri_writeBinder_85 : decode b_Pri_writeBinder 85 = .ok (.ldc 133, 2) := by decide +kernel
theorem d_Pri_writeBinder_87 : decode b_Pri_writeBinder 87 = .ok (.goto 5, 3) := by decide +kernel
theorem d_Pri_writeBinder_90 : decode b_Pri_writeBinder 90 = .ok (.ldc 135, 2) := by decide +kernel
theorem d_Pri_writeBinder_92 : decode b_Pri_writeBinder 92 = .ok (.invokevirtual 89, 3) := by decide +kernel
theorem d_Pri_writeBinder_95 : decode b_Pri_writeBinder 95 = .ok (.aload_n 0, 1) := by decide +kernel
theorem d_Pri_writeBinder_96 : decode b_Pri_writeBinder 96 = .ok (.iload_n 2, 1) := by decide +kernel
theorem d_Pri_writeBinder_97 : decode b_Pri_writeBinder 97 = .ok (.invokevirtual 95, 3) := by decide +kernel
theorem d_Pri_writeBinder_100 : decode b_Pri_writeBinder 100 = .ok (.aload_n 0, 1) := by decide +kernel
theorem d_Pri_writeBinder_101 : decode b_Pri_writeBinder 101 = .ok (.ldc 137, 2) := by decide +kernel
theorem d_Pri_writeBinder_103 : decode b_Pri_writeBinder 103 = .ok (.invokevirtual 89, 3) := by decide +kernel
theorem d_Pri_writeBinder_106 : decode b_Pri_writeBinder 106 = .ok (.aload_n 0, 1) := by decide +kernel
theorem d_Pri_writeBinder_107 : decode b_Pri_writeBinder 107 = .ok (.iload_n 3, 1) := by decide +kernel
theorem d_Pri_writeBinder_108 : decode b_Pri_writeBinder 108 = .ok (.ifCond .eq 8, 3) := by decide +kernel
theorem d_Pri_writeBinder_111 : decode b_Pri_writeBinder 111 = .ok (.bipush (-4), 2) := by decide +kernel
theorem d_Pri_writeBinder_113 : decode b_Pri_writeBinder 113 = .ok (.goto 5, 3) := by decide +kernel
theorem d_Pri_writeBinder_116 : decode b_Pri_writeBinder 116 = .ok (.bipush (-5), 2) := by decide +kernel
theorem d_Pri_writeBinder_118 : decode b_Pri_writeBinder 118 = .ok (.iconst 0, 1) := by decide +kernel
theorem d_Pri_writeBinder_119 : decode b_Pri_writeBinder 119 = .ok (.iconst 0, 1) := by decide +kernel
theorem d_Pri_writeBinder_120 : decode b_Pri_writeBinder 120 = .ok (.invokevirtual 39, 3) := by decide +kernel
theorem d_Pri_writeBinder_123 : decode b_Pri_writeBinder 123 = .ok (.aload_n 0, 1) := by decide +kernel
theorem d_Pri_writeBinder_124 : decode b_Pri_writeBinder 124 = .ok (.aload_n 0, 1) := by decide +kernel
theorem d_Pri_writeBinder_125 : decode b_Pri_writeBinder 125 = .ok (.getfield 15, 3) := by decide +kernel
theorem d_Pri_writeBinder_128 : decode b_Pri_writeBinder 128 = .ok (.iload_n 1, 1) := by decide +kernel
theorem d_Pri_writeBinder_129 : decode b_Pri_writeBinder 129 = .ok (.invokevirtual 112, 3) := by decide +kernel
theorem d_Pri_writeBinder_132 : decode b_Pri_writeBinder 132 = .ok (.iload_n 2, 1) := by decide +kernel
theorem d_Pri_writeBinder_133 : decode b_Pri_writeBinder 133 = .ok (.iconst 0, 1) := by decide +kernel
theorem d_Pri_writeBinder_134 : decode b_Pri_writeBinder 134 = .ok (.invokevirtual 39, 3) := by decide +kernel
theorem d_Pri_writeBinder_137 : decode b_Pri_writeBinder 137 = .ok (.return_, 1) := by decide +kernel
theorem d_Pri_write_0 : decode b_Pri_write 0 = .ok (.aload_n 0, 1) := by decide +kernel
theorem d_Pri_write_1 : decode b_Pri_write 1 = .ok (.getfield 15, 3) := by decide +kernel
theorem d_Pri_write_4 : decode b_Pri_write 4 = .ok (.iload_n 1, 1) := by decide +kernel
theorem d_Pri_write_5 : decode b_Pri_write 5 = .ok (.invokevirtual 112, 3) := by decide +kernel
theorem d_Pri_write_8 : decode b_Pri_write 8 = .ok (.istore 4, 2) := by decide +kernel
theorem d_Pri_write_10 : decode b_Pri_write 10 = .ok (.aload_n 0, 1) := by decide +kernel
theorem d_Pri_write_11 : decode b_Pri_write 11 = .ok (.getfield 15, 3) := by decide +kernel
theorem d_Pri_write_14 : decode b_Pri_write 14 = .ok (.iload_n 1, 1) := by decide +kernel
theorem d_Pri_write_15 : decode b_Pri_write 15 = .ok (.invokevirtual 53, 3) := by decide +kernel
theorem d_Pri_write_18 : decode b_Pri_write 18 = .ok (.tableswitch 179 0 8 #[50, 179, 72, 92, 101, 137, 179, 179, 170], 50) := by decide +kernel
theorem d_Pri_write_68 : decode b_Pri_write 68 = .ok (.aload_n 0, 1) := by decide +kernel
theorem d_Pri_write_69 : decode b_Pri_write 69 = .ok (.getfield 9, 3) := by decide +kernel
theorem d_Pri_write_72 : decode b_Pri_write 72 = .ok (.bipush 120, 2) := by decide +kernel
theorem d_Pri_write_74 : decode b_Pri_write 74 = .ok (.invokevirtual 63, 3) := by decide +kernel
theorem d_Pri_write_77 : decode b_Pri_write 77 = .ok (.aload_n 0, 1) := by decide +kernel
theorem d_Pri_write_78 : decode b_Pri_write 78 = .ok (.iload_n 2, 1) := by decide +kernel
theorem d_Pri_write_79 : decode b_Pri_write 79 = .ok (.iconst 1, 1) := by decide +kernel
theorem d_Pri_write_80 : decode b_Pri_write 80 = .ok (.isub, 1) := by decide +kernel
theorem d_Pri_write_81 : decode b_Pri_write 81 = .ok (.iload 4, 2) := by decide +kernel
theorem d_Pri_write_83 : decode b_Pri_write 83 = .ok (.isub, 1) := by decide +kernel
theorem d_Pri_write_84 : decode b_Pri_write 84 = .ok (.invokevirtual 95, 3) := by decide +kernel
theorem d_Pri_write_87 : decode b_Pri_write 87 = .ok (.goto 116, 3) := by decide +kernel
theorem d_Pri_write_90 : decode b_Pri_write 90 = .ok (.aload_n 0, 1) := by decide +kernel
theorem d_Pri_write_91 : decode b_Pri_write 91 = .ok (.iload 4, 2) := by decide +kernel
theorem d_Pri_write_93 : decode b_Pri_write 93 = .ok (.bipush 101, 2) := by decide +kernel
theorem d_Pri_write_95 : decode b_Pri_write 95 = .ok (.if_icmp .ne 7, 3) := by decide +kernel
theorem d_Pri_write_98 : decode b_Pri_write 98 = .ok (.iload_n 3, 1) := by decide +kernel
theorem d_Pri_write_99 : decode b_Pri_write 99 = .ok (.goto 5, 3) := by decide +kernel
theorem d_Pri_write_102 : decode b_Pri_write 102 = .ok (.iload 4, 2) := by decide +kernel
theorem d_Pri_write_104 : decode b_Pri_write 104 = .ok (.invokevirtual 115, 3) := by decide +kernel
theorem d_Pri_write_107 : decode b_Pri_write 107 = .ok (.goto 96, 3) := by decide +kernel
theorem d_Pri_write_110 : decode b_Pri_write 110 = .ok (.aload_n 0, 1) := by decide +kernel
theorem d_Pri_write_111 : decode b_Pri_write 111 = .ok (.iload 4, 2) := by decide +kernel
theorem d_Pri_write_113 : decode b_Pri_write 113 = .ok (.invokevirtual 36, 3) := by decide +kernel
theorem d_Pri_write_116 : decode b_Pri_write 116 = .ok (.goto 87, 3) := by decide +kernel
theorem d_Pri_write_119 : decode b_Pri_write 119 = .ok (.aload_n 0, 1) := by decide +kernel
theorem d_Pri_write_120 : decode b_Pri_write 120 = .ok (.ldc 118, 2) := by decide +kernel
theorem d_Pri_write_122 : decode b_Pri_write 122 = .ok (.invokevirtual 89, 3) := by decide +kernel
theorem d_Pri_write_125 : decode b_Pri_write 125 = .ok (.aload_n 0, 1) := by decide +kernel
theorem d_Pri_write_126 : decode b_Pri_write 126 = .ok (.iload 4, 2) := by decide +kernel
theorem d_Pri_write_128 : decode b_Pri_write 128 = .ok (.invokevirtual 36, 3) := by decide +kernel
theorem d_Pri_write_131 : decode b_Pri_write 131 = .ok (.aload_n 0, 1) := by decide +kernel
theorem d_Pri_write_132 : decode b_Pri_write 132 = .ok (.getfield 9, 3) := by decide +kernel
theorem d_Pri_write_135 : decode b_Pri_write 135 = .ok (.bipush 32, 2) := by decide +kernel
theorem d_Pri_write_137 : decode b_Pri_write 137 = .ok (.invokevirtual 63, 3) := by decide +kernel
theorem d_Pri_write_140 : decode b_Pri_write 140 = .ok (.aload_n 0, 1) := by decide +kernel
theorem d_Pri_write_141 : decode b_Pri_write 141 = .ok (.aload_n 0, 1) := by decide +kernel
theorem d_Pri_write_142 : decode b_Pri_write 142 = .ok (.getfield 15, 3) := by decide +kernel
theorem d_Pri_write_145 : decode b_Pri_write 145 = .ok (.iload_n 1, 1) := by decide +kernel
theorem d_Pri_write_146 : decode b_Pri_write 146 = .ok (.invokevirtual 120, 3) := by decide +kernel
theorem d_Pri_write_149 : decode b_Pri_write 149 = .ok (.invokevirtual 115, 3) := by decide +kernel
theorem d_Pri_write_152 : decode b_Pri_write 152 = .ok (.goto 51, 3) := by decide +kernel
theorem d_Pri_write_155 : decode b_Pri_write 155 = .ok (.aload_n 0, 1) := by decide +kernel
theorem d_Pri_write_156 : decode b_Pri_write 156 = .ok (.aload_n 0, 1) := by decide +kernel
theorem d_Pri_write_157 : decode b_Pri_write 157 = .ok (.getfield 15, 3) := by decide +kernel
theorem d_Pri_write_160 : decode b_Pri_write 160 = .ok (.iload_n 1, 1) := by decide +kernel
theorem d_Pri_write_161 : decode b_Pri_write 161 = .ok (.invokevirtual 120, 3) := by decide +kernel
theorem d_Pri_write_164 : decode b_Pri_write 164 = .ok (.iload_n 2, 1) := by decide +kernel
theorem d_Pri_write_165 : decode b_Pri_write 165 = .ok (.iconst 2, 1) := by decide +kernel
theorem d_Pri_write_166 : decode b_Pri_write 166 = .ok (.invokevirtual 39, 3) := by decide +kernel
theorem d_Pri_write_169 : decode b_Pri_write 169 = .ok (.aload_n 0, 1) := by decide +kernel
theorem d_Pri_write_170 : decode b_Pri_write 170 = .ok (.bipush (-2), 2) := by decide +kernel
theorem d_Pri_write_172 : decode b_Pri_write 172 = .ok (.iconst 0, 1) := by decide +kernel
theorem d_Pri_write_173 : decode b_Pri_write 173 = .ok (.iconst 0, 1) := by decide +kernel
theorem d_Pri_write_174 : decode b_Pri_write 174 = .ok (.invokevirtual 39, 3) := by decide +kernel
theorem d_Pri_write_177 : decode b_Pri_write 177 = .ok (.aload_n 0, 1) := by decide +kernel
theorem d_Pri_write_178 : decode b_Pri_write 178 = .ok (.iload 4, 2) := by decide +kernel
theorem d_Pri_write_180 : decode b_Pri_write 180 = .ok (.iload_n 2, 1) := by decide +kernel
theorem d_Pri_write_181 : decode b_Pri_write 181 = .ok (.iconst 1, 1) := by decide +kernel
theorem d_Pri_write_182 : decode b_Pri_write 182 = .ok (.invokevirtual 39, 3) := by decide +kernel
theorem d_Pri_write_185 : decode b_Pri_write 185 = .ok (.goto 18, 3) := by decide +kernel
theorem d_Pri_write_188 : decode b_Pri_write 188 = .ok (.aload_n 0, 1) := by decide +kernel
theorem d_Pri_write_189 : decode b_Pri_write 189 = .ok (.iload_n 1, 1) := by decide +kernel
theorem d_Pri_write_190 : decode b_Pri_write 190 = .ok (.iload_n 2, 1) := by decide +kernel
theorem d_Pri_write_191 : decode b_Pri_write 191 = .ok (.invokevirtual 123, 3) := by decide +kernel
theorem d_Pri_write_194 : decode b_Pri_write 194 = .ok (.goto 9, 3) := by decide +kernel
theorem d_Pri_write_197 : decode b_Pri_write 197 = .ok (.aload_n 0, 1) := by decide +kernel
theorem d_Pri_write_198 : decode b_Pri_write 198 = .ok (.iload_n 1, 1) := by decide +kernel
theorem d_Pri_write_199 : decode b_Pri_write 199 = .ok (.iload_n 2, 1) := by decide +kernel
theorem d_Pri_write_200 : decode b_Pri_write 200 = .ok (.invokevirtual 126, 3) := by decide +kernel
theorem d_Pri_write_203 : decode b_Pri_write 203 = .ok (.return_, 1) := by decide +kernel
theorem d_Pri_print_0 : decode b_Pri_print 0 = .ok (.aload_n 0, 1) := by decide +kernel
theorem d_Pri_print_1 : decode b_Pri_print 1 = .ok (.getfield 9, 3) := by decide +kernel
theorem d_Pri_print_4 : decode b_Pri_print 4 = .ok (.iconst 0, 1) := by decide +kernel
theorem d_Pri_print_5 : decode b_Pri_print 5 = .ok (.invokevirtual 32, 3) := by decide +kernel
theorem d_Pri_print_8 : decode b_Pri_print 8 = .ok (.aload_n 0, 1) := by decide +kernel
theorem d_Pri_print_9 : decode b_Pri_print 9 = .ok (.getfield 29, 3) := by decide +kernel
theorem d_Pri_print_12 : decode b_Pri_print 12 = .ok (.iconst 0, 1) := by decide +kernel
theorem d_Pri_print_13 : decode b_Pri_print 13 = .ok (.invokevirtual 32, 3) := by decide +kernel
theorem d_Pri_print_16 : decode b_Pri_print 16 = .ok (.aload_n 0, 1) := by decide +kernel
theorem d_Pri_print_17 : decode b_Pri_print 17 = .ok (.iload_n 1, 1) := by decide +kernel
theorem d_Pri_print_18 : decode b_Pri_print 18 = .ok (.iconst 0, 1) := by decide +kernel
theorem d_Pri_print_19 : decode b_Pri_print 19 = .ok (.iconst 0, 1) := by decide +kernel
theorem d_Pri_print_20 : decode b_Pri_print 20 = .ok (.invokevirtual 39, 3) := by decide +kernel
theorem d_Pri_print_23 : decode b_Pri_print 23 = .ok (.iconst 0, 1) := by decide +kernel
theorem d_Pri_print_24 : decode b_Pri_print 24 = .ok (.istore_n 3, 1) := by decide +kernel
theorem d_Pri_print_25 : decode b_Pri_print 25 = .ok (.iload_n 3, 1) := by decide +kernel
theorem d_Pri_print_26 : decode b_Pri_print 26 = .ok (.ldc 25, 2) := by decide +kernel
theorem d_Pri_print_28 : decode b_Pri_print 28 = .ok (.if_icmp .ge 114, 3) := by decide +kernel
theorem d_Pri_print_31 : decode b_Pri_print 31 = .ok (.aload_n 0, 1) := by decide +kernel
theorem d_Pri_print_32 : decode b_Pri_print 32 = .ok (.getfield 29, 3) := by decide +kernel
theorem d_Pri_print_35 : decode b_Pri_print 35 = .ok (.invokevirtual 43, 3) := by decide +kernel
theorem d_Pri_print_38 : decode b_Pri_print 38 = .ok (.ifCond .le 104, 3) := by decide +kernel
theorem d_Pri_print_41 : decode b_Pri_print 41 = .ok (.aload_n 0, 1) := by decide +kernel
theorem d_Pri_print_42 : decode b_Pri_print 42 = .ok (.getfield 29, 3) := by decide +kernel
theorem d_Pri_print_45 : decode b_Pri_print 45 = .ok (.invokevirtual 47, 3) := by decide +kernel
theorem d_Pri_print_48 : decode b_Pri_print 48 = .ok (.istore 4, 2) := by decide +kernel
theorem d_Pri_print_50 : decode b_Pri_print 50 = .ok (.aload_n 0, 1) := by decide +kernel
theorem d_Pri_print_51 : decode b_Pri_print 51 = .ok (.getfield 29, 3) := by decide +kernel
theorem d_Pri_print_54 : decode b_Pri_print 54 = .ok (.invokevirtual 47, 3) := by decide +kernel
theorem d_Pri_print_57 : decode b_Pri_print 57 = .ok (.istore 5, 2) := by decide +kernel
theorem d_Pri_print_59 : decode b_Pri_print 59 = .ok (.aload_n 0, 1) := by decide +kernel
theorem d_Pri_print_60 : decode b_Pri_print 60 = .ok (.getfield 29, 3) := by decide +kernel
theorem d_Pri_print_63 : decode b_Pri_print 63 = .ok (.invokevirtual 47, 3) := by decide +kernel
theorem d_Pri_print_66 : decode b_Pri_print 66 = .ok (.istore 6, 2) := by decide +kernel
theorem d_Pri_print_68 : decode b_Pri_print 68 = .ok (.iload 6, 2) := by decide +kernel
theorem d_Pri_print_70 : decode b_Pri_print 70 = .ok (.ifCond .ge 12, 3) := by decide +kernel
theorem d_Pri_print_73 : decode b_Pri_print 73 = .ok (.aload_n 0, 1) := by decide +kernel
theorem d_Pri_print_74 : decode b_Pri_print 74 = .ok (.iload 6, 2) := by decide +kernel
theorem d_Pri_print_76 : decode b_Pri_print 76 = .ok (.invokevirtual 50, 3) := by decide +kernel
theorem d_Pri_print_79 : decode b_Pri_print 79 = .ok (.goto 57, 3) := by decide +kernel
theorem d_Pri_print_82 : decode b_Pri_print 82 = .ok (.aload_n 0, 1) := by decide +kernel
theorem d_Pri_print_83 : decode b_Pri_print 83 = .ok (.getfield 15, 3) := by decide +kernel
theorem d_Pri_print_86 : decode b_Pri_print 86 = .ok (.iload 6, 2) := by decide +kernel
theorem d_Pri_print_88 : decode b_Pri_print 88 = .ok (.invokevirtual 53, 3) := by decide +kernel
theorem d_Pri_print_91 : decode b_Pri_print 91 = .ok (.iload 4, 2) := by decide +kernel
theorem d_Pri_print_93 : decode b_Pri_print 93 = .ok (.invokestatic 59, 3) := by decide +kernel
theorem d_Pri_print_96 : decode b_Pri_print 96 = .ok (.ifCond .eq 31, 3) := by decide +kernel
theorem d_Pri_print_99 : decode b_Pri_print 99 = .ok (.aload_n 0, 1) := by decide +kernel
theorem d_Pri_print_100 : decode b_Pri_print 100 = .ok (.getfield 9, 3) := by decide +kernel
theorem d_Pri_print_103 : decode b_Pri_print 103 = .ok (.bipush 40, 2) := by decide +kernel
theorem d_Pri_print_105 : decode b_Pri_print 105 = .ok (.invokevirtual 63, 3) := by decide +kernel
theorem d_Pri_print_108 : decode b_Pri_print 108 = .ok (.aload_n 0, 1) := by decide +kernel
theorem d_Pri_print_109 : decode b_Pri_print 109 = .ok (.iconst (-1), 1) := by decide +kernel
theorem d_Pri_print_110 : decode b_Pri_print 110 = .ok (.iconst 0, 1) := by decide +kernel
theorem d_Pri_print_111 : decode b_Pri_print 111 = .ok (.iconst 0, 1) := by decide +kernel
theorem d_Pri_print_112 : decode b_Pri_print 112 = .ok (.invokevirtual 39, 3) := by decide +kernel
theorem d_Pri_print_115 : decode b_Pri_print 115 = .ok (.aload_n 0, 1) := by decide +kernel
theorem d_Pri_print_116 : decode b_Pri_print 116 = .ok (.iload 6, 2) := by decide +kernel
theorem d_Pri_print_118 : decode b_Pri_print 118 = .ok (.iload 5, 2) := by decide +kernel
theorem d_Pri_print_120 : decode b_Pri_print 120 = .ok (.iconst 0, 1) := by decide +kernel
theorem d_Pri_print_121 : decode b_Pri_print 121 = .ok (.invokevirtual 39, 3) := by decide +kernel
theorem d_Pri_print_124 : decode b_Pri_print 124 = .ok (.goto 12, 3) := by decide +kernel
theorem d_Pri_print_127 : decode b_Pri_print 127 = .ok (.aload_n 0, 1) := by decide +kernel
theorem d_Pri_print_128 : decode b_Pri_print 128 = .ok (.iload 6, 2) := by decide +kernel
theorem d_Pri_print_130 : decode b_Pri_print 130 = .ok (.iload 5, 2) := by decide +kernel
theorem d_Pri_print_132 : decode b_Pri_print 132 = .ok (.iload_n 2, 1) := by decide +kernel
theorem d_Pri_print_133 : decode b_Pri_print 133 = .ok (.invokevirtual 66, 3) := by decide +kernel
theorem d_Pri_print_136 : decode b_Pri_print 136 = .ok (.iinc 3 1, 3) := by decide +kernel
theorem d_Pri_print_139 : decode b_Pri_print 139 = .ok (.goto (-114), 3) := by decide +kernel
theorem d_Pri_print_142 : decode b_Pri_print 142 = .ok (.return_, 1) := by decide +kernel
theorem d_Pri_printName_0 : decode b_Pri_printName 0 = .ok (.aload_n 0, 1) := by decide +kernel
theorem d_Pri_printName_1 : decode b_Pri_printName 1 = .ok (.getfield 9, 3) := by decide +kernel
theorem d_Pri_printName_4 : decode b_Pri_printName 4 = .ok (.iconst 0, 1) := by decide +kernel
theorem d_Pri_printName_5 : decode b_Pri_printName 5 = .ok (.invokevirtual 32, 3) := by decide +kernel
theorem d_Pri_printName_8 : decode b_Pri_printName 8 = .ok (.aload_n 0, 1) := by decide +kernel
theorem d_Pri_printName_9 : decode b_Pri_printName 9 = .ok (.iload_n 1, 1) := by decide +kernel
theorem d_Pri_printName_10 : decode b_Pri_printName 10 = .ok (.invokevirtual 36, 3) := by decide +kernel
theorem d_Pri_printName_13 : decode b_Pri_printName 13 = .ok (.return_, 1) := by decide +kernel
