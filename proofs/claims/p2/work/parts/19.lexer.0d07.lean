theorem d_Lex_scanSign_268 : decode b_Lex_scanSign 268 = .ok (.iconst 1, 1) := by decide +kernel
theorem d_Lex_scanSign_269 : decode b_Lex_scanSign 269 = .ok (.putfield 32, 3) := by decide +kernel
theorem d_Lex_scanSign_272 : decode b_Lex_scanSign 272 = .ok (.return_, 1) := by decide +kernel
theorem d_Lex_scan_0 : decode b_Lex_scan 0 = .ok (.aload_n 0, 1) := by decide +kernel
theorem d_Lex_scan_1 : decode b_Lex_scan 1 = .ok (.invokevirtual 70, 3) := by decide +kernel
theorem d_Lex_scan_4 : decode b_Lex_scan 4 = .ok (.aload_n 0, 1) := by decide +kernel
theorem d_Lex_scan_5 : decode b_Lex_scan 5 = .ok (.aload_n 0, 1) := by decide +kernel
theorem d_Lex_scan_6 : decode b_Lex_scan 6 = .ok (.getfield 28, 3) := by decide +kernel
theorem d_Lex_scan_9 : decode b_Lex_scan 9 = .ok (.putfield 39, 3) := by decide +kernel
theorem d_Lex_scan_12 : decode b_Lex_scan 12 = .ok (.aload_n 0, 1) := by decide +kernel
theorem d_Lex_scan_13 : decode b_Lex_scan 13 = .ok (.iconst 0, 1) := by decide +kernel
theorem d_Lex_scan_14 : decode b_Lex_scan 14 = .ok (.putfield 42, 3) := by decide +kernel
theorem d_Lex_scan_17 : decode b_Lex_scan 17 = .ok (.aload_n 0, 1) := by decide +kernel
theorem d_Lex_scan_18 : decode b_Lex_scan 18 = .ok (.getfield 9, 3) := by decide +kernel
theorem d_Lex_scan_21 : decode b_Lex_scan 21 = .ok (.aload_n 0, 1) := by decide +kernel
theorem d_Lex_scan_22 : decode b_Lex_scan 22 = .ok (.getfield 28, 3) := by decide +kernel
theorem d_Lex_scan_25 : decode b_Lex_scan 25 = .ok (.invokevirtual 58, 3) := by decide +kernel
theorem d_Lex_scan_28 : decode b_Lex_scan 28 = .ok (.istore_n 1, 1) := by decide +kernel
theorem d_Lex_scan_29 : decode b_Lex_scan 29 = .ok (.aload_n 0, 1) := by decide +kernel
theorem d_Lex_scan_30 : decode b_Lex_scan 30 = .ok (.getfield 28, 3) := by decide +kernel
theorem d_Lex_scan_33 : decode b_Lex_scan 33 = .ok (.aload_n 0, 1) := by decide +kernel
theorem d_Lex_scan_34 : decode b_Lex_scan 34 = .ok (.getfield 9, 3) := by decide +kernel
theorem d_Lex_scan_37 : decode b_Lex_scan 37 = .ok (.invokevirtual 73, 3) := by decide +kernel
theorem d_Lex_scan_40 : decode b_Lex_scan 40 = .ok (.if_icmp .lt 11, 3) := by decide +kernel
theorem d_Lex_scan_43 : decode b_Lex_scan 43 = .ok (.aload_n 0, 1) := by decide +kernel
theorem d_Lex_scan_44 : decode b_Lex_scan 44 = .ok (.iconst 0, 1) := by decide +kernel
theorem d_Lex_scan_45 : decode b_Lex_scan 45 = .ok (.putfield 32, 3) := by decide +kernel
theorem d_Lex_scan_48 : decode b_Lex_scan 48 = .ok (.goto 49, 3) := by decide +kernel
theorem d_Lex_scan_51 : decode b_Lex_scan 51 = .ok (.iload_n 1, 1) := by decide +kernel
theorem d_Lex_scan_52 : decode b_Lex_scan 52 = .ok (.invokestatic 77, 3) := by decide +kernel
theorem d_Lex_scan_55 : decode b_Lex_scan 55 = .ok (.ifCond .eq 10, 3) := by decide +kernel
theorem d_Lex_scan_58 : decode b_Lex_scan 58 = .ok (.aload_n 0, 1) := by decide +kernel
theorem d_Lex_scan_59 : decode b_Lex_scan 59 = .ok (.invokevirtual 81, 3) := by decide +kernel
theorem d_Lex_scan_62 : decode b_Lex_scan 62 = .ok (.goto 35, 3) := by decide +kernel
theorem d_Lex_scan_65 : decode b_Lex_scan 65 = .ok (.iload_n 1, 1) := by decide +kernel
theorem d_Lex_scan_66 : decode b_Lex_scan 66 = .ok (.invokestatic 84, 3) := by decide +kernel
theorem d_Lex_scan_69 : decode b_Lex_scan 69 = .ok (.ifCond .eq 10, 3) := by decide +kernel
theorem d_Lex_scan_72 : decode b_Lex_scan 72 = .ok (.aload_n 0, 1) := by decide +kernel
theorem d_Lex_scan_73 : decode b_Lex_scan 73 = .ok (.invokevirtual 87, 3) := by decide +kernel
theorem d_Lex_scan_76 : decode b_Lex_scan 76 = .ok (.goto 21, 3) := by decide +kernel
theorem d_Lex_scan_79 : decode b_Lex_scan 79 = .ok (.aload_n 0, 1) := by decide +kernel
theorem d_Lex_scan_80 : decode b_Lex_scan 80 = .ok (.iload_n 1, 1) := by decide +kernel
theorem d_Lex_scan_81 : decode b_Lex_scan 81 = .ok (.aload_n 0, 1) := by decide +kernel
theorem d_Lex_scan_82 : decode b_Lex_scan 82 = .ok (.getfield 9, 3) := by decide +kernel
theorem d_Lex_scan_85 : decode b_Lex_scan 85 = .ok (.aload_n 0, 1) := by decide +kernel
theorem d_Lex_scan_86 : decode b_Lex_scan 86 = .ok (.getfield 28, 3) := by decide +kernel
theorem d_Lex_scan_89 : decode b_Lex_scan 89 = .ok (.iconst 1, 1) := by decide +kernel
theorem d_Lex_scan_90 : decode b_Lex_scan 90 = .ok (.iadd, 1) := by decide +kernel
theorem d_Lex_scan_91 : decode b_Lex_scan 91 = .ok (.invokevirtual 58, 3) := by decide +kernel
theorem d_Lex_scan_94 : decode b_Lex_scan 94 = .ok (.invokevirtual 90, 3) := by decide +kernel
theorem d_Lex_scan_97 : decode b_Lex_scan 97 = .ok (.return_, 1) := by decide +kernel
theorem d_Lex_named_0 : decode b_Lex_named 0 = .ok (.iload_n 0, 1) := by decide +kernel
theorem d_Lex_named_1 : decode b_Lex_named 1 = .ok (.bipush 32, 2) := by decide +kernel
theorem d_Lex_named_3 : decode b_Lex_named 3 = .ok (.imul, 1) := by decide +kernel
theorem d_Lex_named_4 : decode b_Lex_named 4 = .ok (.iload_n 1, 1) := by decide +kernel
theorem d_Lex_named_5 : decode b_Lex_named 5 = .ok (.iadd, 1) := by decide +kernel
theorem d_Lex_named_6 : decode b_Lex_named 6 = .ok (.ireturn, 1) := by decide +kernel
theorem d_Lex_advance_0 : decode b_Lex_advance 0 = .ok (.aload_n 0, 1) := by decide +kernel
theorem d_Lex_advance_1 : decode b_Lex_advance 1 = .ok (.dup, 1) := by decide +kernel
theorem d_Lex_advance_2 : decode b_Lex_advance 2 = .ok (.getfield 52, 3) := by decide +kernel
