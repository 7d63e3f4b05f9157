theorem d_Lex_scanWord_18 : decode b_Lex_scanWord 18 = .ok (.aload_n 0, 1) := by decide +kernel
theorem d_Lex_scanWord_19 : decode b_Lex_scanWord 19 = .ok (.getfield 28, 3) := by decide +kernel
theorem d_Lex_scanWord_22 : decode b_Lex_scanWord 22 = .ok (.invokevirtual 58, 3) := by decide +kernel
theorem d_Lex_scanWord_25 : decode b_Lex_scanWord 25 = .ok (.invokestatic 93, 3) := by decide +kernel
theorem d_Lex_scanWord_28 : decode b_Lex_scanWord 28 = .ok (.ifCond .eq 16, 3) := by decide +kernel
theorem d_Lex_scanWord_31 : decode b_Lex_scanWord 31 = .ok (.aload_n 0, 1) := by decide +kernel
theorem d_Lex_scanWord_32 : decode b_Lex_scanWord 32 = .ok (.dup, 1) := by decide +kernel
theorem d_Lex_scanWord_33 : decode b_Lex_scanWord 33 = .ok (.getfield 28, 3) := by decide +kernel
theorem d_Lex_scanWord_36 : decode b_Lex_scanWord 36 = .ok (.iconst 1, 1) := by decide +kernel
theorem d_Lex_scanWord_37 : decode b_Lex_scanWord 37 = .ok (.iadd, 1) := by decide +kernel
theorem d_Lex_scanWord_38 : decode b_Lex_scanWord 38 = .ok (.putfield 28, 3) := by decide +kernel
theorem d_Lex_scanWord_41 : decode b_Lex_scanWord 41 = .ok (.goto (-41), 3) := by decide +kernel
theorem d_Lex_scanWord_44 : decode b_Lex_scanWord 44 = .ok (.aload_n 0, 1) := by decide +kernel
theorem d_Lex_scanWord_45 : decode b_Lex_scanWord 45 = .ok (.getfield 28, 3) := by decide +kernel
theorem d_Lex_scanWord_48 : decode b_Lex_scanWord 48 = .ok (.aload_n 0, 1) := by decide +kernel
theorem d_Lex_scanWord_49 : decode b_Lex_scanWord 49 = .ok (.getfield 39, 3) := by decide +kernel
theorem d_Lex_scanWord_52 : decode b_Lex_scanWord 52 = .ok (.isub, 1) := by decide +kernel
theorem d_Lex_scanWord_53 : decode b_Lex_scanWord 53 = .ok (.bipush 31, 2) := by decide +kernel
theorem d_Lex_scanWord_55 : decode b_Lex_scanWord 55 = .ok (.if_icmp .gt 7, 3) := by decide +kernel
theorem d_Lex_scanWord_58 : decode b_Lex_scanWord 58 = .ok (.iconst 1, 1) := by decide +kernel
theorem d_Lex_scanWord_59 : decode b_Lex_scanWord 59 = .ok (.goto 4, 3) := by decide +kernel
theorem d_Lex_scanWord_62 : decode b_Lex_scanWord 62 = .ok (.iconst 0, 1) := by decide +kernel
theorem d_Lex_scanWord_63 : decode b_Lex_scanWord 63 = .ok (.istore_n 1, 1) := by decide +kernel
theorem d_Lex_scanWord_64 : decode b_Lex_scanWord 64 = .ok (.aload_n 0, 1) := by decide +kernel
theorem d_Lex_scanWord_65 : decode b_Lex_scanWord 65 = .ok (.iload_n 1, 1) := by decide +kernel
theorem d_Lex_scanWord_66 : decode b_Lex_scanWord 66 = .ok (.ifCond .eq 15, 3) := by decide +kernel
theorem d_Lex_scanWord_69 : decode b_Lex_scanWord 69 = .ok (.aload_n 0, 1) := by decide +kernel
theorem d_Lex_scanWord_70 : decode b_Lex_scanWord 70 = .ok (.getfield 28, 3) := by decide +kernel
theorem d_Lex_scanWord_73 : decode b_Lex_scanWord 73 = .ok (.aload_n 0, 1) := by decide +kernel
theorem d_Lex_scanWord_74 : decode b_Lex_scanWord 74 = .ok (.getfield 39, 3) := by decide +kernel
theorem d_Lex_scanWord_77 : decode b_Lex_scanWord 77 = .ok (.isub, 1) := by decide +kernel
theorem d_Lex_scanWord_78 : decode b_Lex_scanWord 78 = .ok (.goto 4, 3) := by decide +kernel
theorem d_Lex_scanWord_81 : decode b_Lex_scanWord 81 = .ok (.iconst 0, 1) := by decide +kernel
theorem d_Lex_scanWord_82 : decode b_Lex_scanWord 82 = .ok (.putfield 42, 3) := by decide +kernel
theorem d_Lex_scanWord_85 : decode b_Lex_scanWord 85 = .ok (.aload_n 0, 1) := by decide +kernel
theorem d_Lex_scanWord_86 : decode b_Lex_scanWord 86 = .ok (.iload_n 1, 1) := by decide +kernel
theorem d_Lex_scanWord_87 : decode b_Lex_scanWord 87 = .ok (.ifCond .eq 10, 3) := by decide +kernel
theorem d_Lex_scanWord_90 : decode b_Lex_scanWord 90 = .ok (.aload_n 0, 1) := by decide +kernel
theorem d_Lex_scanWord_91 : decode b_Lex_scanWord 91 = .ok (.invokevirtual 96, 3) := by decide +kernel
theorem d_Lex_scanWord_94 : decode b_Lex_scanWord 94 = .ok (.goto 4, 3) := by decide +kernel
theorem d_Lex_scanWord_97 : decode b_Lex_scanWord 97 = .ok (.iconst 1, 1) := by decide +kernel
theorem d_Lex_scanWord_98 : decode b_Lex_scanWord 98 = .ok (.putfield 32, 3) := by decide +kernel
theorem d_Lex_scanWord_101 : decode b_Lex_scanWord 101 = .ok (.return_, 1) := by decide +kernel
theorem d_Lex_scanNumber_0 : decode b_Lex_scanNumber 0 = .ok (.aload_n 0, 1) := by decide +kernel
theorem d_Lex_scanNumber_1 : decode b_Lex_scanNumber 1 = .ok (.getfield 28, 3) := by decide +kernel
theorem d_Lex_scanNumber_4 : decode b_Lex_scanNumber 4 = .ok (.aload_n 0, 1) := by decide +kernel
theorem d_Lex_scanNumber_5 : decode b_Lex_scanNumber 5 = .ok (.getfield 9, 3) := by decide +kernel
theorem d_Lex_scanNumber_8 : decode b_Lex_scanNumber 8 = .ok (.invokevirtual 73, 3) := by decide +kernel
theorem d_Lex_scanNumber_11 : decode b_Lex_scanNumber 11 = .ok (.if_icmp .ge 33, 3) := by decide +kernel
theorem d_Lex_scanNumber_14 : decode b_Lex_scanNumber 14 = .ok (.aload_n 0, 1) := by decide +kernel
theorem d_Lex_scanNumber_15 : decode b_Lex_scanNumber 15 = .ok (.getfield 9, 3) := by decide +kernel
theorem d_Lex_scanNumber_18 : decode b_Lex_scanNumber 18 = .ok (.aload_n 0, 1) := by decide +kernel
theorem d_Lex_scanNumber_19 : decode b_Lex_scanNumber 19 = .ok (.getfield 28, 3) := by decide +kernel
theorem d_Lex_scanNumber_22 : decode b_Lex_scanNumber 22 = .ok (.invokevirtual 58, 3) := by decide +kernel
theorem d_Lex_scanNumber_25 : decode b_Lex_scanNumber 25 = .ok (.invokestatic 84, 3) := by decide +kernel
theorem d_Lex_scanNumber_28 : decode b_Lex_scanNumber 28 = .ok (.ifCond .eq 16, 3) := by decide +kernel
theorem d_Lex_scanNumber_31 : decode b_Lex_scanNumber 31 = .ok (.aload_n 0, 1) := by decide +kernel
theorem d_Lex_scanNumber_32 : decode b_Lex_scanNumber 32 = .ok (.dup, 1) := by decide +kernel
theorem d_Lex_scanNumber_33 : decode b_Lex_scanNumber 33 = .ok (.getfield 28, 3) := by decide +kernel
theorem d_Lex_scanNumber_36 : decode b_Lex_scanNumber 36 = .ok (.iconst 1, 1) := by decide +kernel
