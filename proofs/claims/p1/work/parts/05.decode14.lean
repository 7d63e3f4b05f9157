theorem d_Lex_init_0 : decode b_Lex_init 0 = .ok (.aload_n 0, 1) := by decide +kernel
theorem d_Lex_init_1 : decode b_Lex_init 1 = .ok (.invokespecial 3, 3) := by decide +kernel
theorem d_Lex_init_4 : decode b_Lex_init 4 = .ok (.aload_n 0, 1) := by decide +kernel
theorem d_Lex_init_5 : decode b_Lex_init 5 = .ok (.aload_n 1, 1) := by decide +kernel
theorem d_Lex_init_6 : decode b_Lex_init 6 = .ok (.putfield 9, 3) := by decide +kernel
theorem d_Lex_init_9 : decode b_Lex_init 9 = .ok (.aload_n 0, 1) := by decide +kernel
theorem d_Lex_init_10 : decode b_Lex_init 10 = .ok (.new 15, 3) := by decide +kernel
theorem d_Lex_init_13 : decode b_Lex_init 13 = .ok (.dup, 1) := by decide +kernel
theorem d_Lex_init_14 : decode b_Lex_init 14 = .ok (.bipush 64, 2) := by decide +kernel
theorem d_Lex_init_16 : decode b_Lex_init 16 = .ok (.ldc 17, 2) := by decide +kernel
theorem d_Lex_init_18 : decode b_Lex_init 18 = .ok (.invokespecial 18, 3) := by decide +kernel
theorem d_Lex_init_21 : decode b_Lex_init 21 = .ok (.putfield 21, 3) := by decide +kernel
theorem d_Lex_init_24 : decode b_Lex_init 24 = .ok (.return_, 1) := by decide +kernel
theorem d_Lex_kind_0 : decode b_Lex_kind 0 = .ok (.aload_n 0, 1) := by decide +kernel
theorem d_Lex_kind_1 : decode b_Lex_kind 1 = .ok (.getfield 32, 3) := by decide +kernel
theorem d_Lex_kind_4 : decode b_Lex_kind 4 = .ok (.ireturn, 1) := by decide +kernel
theorem d_Lex_named_0 : decode b_Lex_named 0 = .ok (.iload_n 0, 1) := by decide +kernel
theorem d_Lex_named_1 : decode b_Lex_named 1 = .ok (.bipush 32, 2) := by decide +kernel
theorem d_Lex_named_3 : decode b_Lex_named 3 = .ok (.imul, 1) := by decide +kernel
theorem d_Lex_named_4 : decode b_Lex_named 4 = .ok (.iload_n 1, 1) := by decide +kernel
theorem d_Lex_named_5 : decode b_Lex_named 5 = .ok (.iadd, 1) := by decide +kernel
theorem d_Lex_named_6 : decode b_Lex_named 6 = .ok (.ireturn, 1) := by decide +kernel
theorem d_Lex_scan_0 : decode b_Lex_scan 0 = .ok (.aload_n 0, 1) := by decide +kernel
theorem d_Lex_scan_1 : decode b_Lex_scan 1 = .ok (.invokevirtual 70, 3) := by decide +kernel
theorem d_Lex_scan_4 : decode b_Lex_scan 4 = .ok (.aload_n 0, 1) := by decide +kernel
theorem d_Lex_scan_5 : decode b_Lex_scan 5 = .ok (.aload_n 0, 1) := by decide +kernel
theorem d_Lex_scan_6 : decode b_Lex_scan 6 = .ok (.getfield 28, 3) := by decide +kernel
theorem d_Lex_scan_9 : decode b_Lex_scan 9 = .ok (.putfield 39, 3) := by decide +kernel
theorem d_Lex_scan_12 : decode b_Lex_scan 12 = .ok (.aload_n 0, 1) := by decide +kernel
theorem d_Lex_scan_13 : decode b_Lex_scan 13 = .ok (.iconst 0, 1) := by decide +kernel
theorem d_Lex_scan_14 : decode b_Lex_scan 14 = .ok (.putfield 42, 3) := by decide +kernel
theorem d_Lex_scan_17 : decode b_Lex_scan 17 = .ok (.aload_n 0, 1) := by decide +kernel
theorem d_Lex_scan_18 : decode b_Lex_scan 18 = .ok (.getfield 9, 3) := by decide +kernel
theorem d_Lex_scan_21 : decode b_Lex_scan 21 = .ok (.aload_n 0, 1) := by decide +kernel
theorem d_Lex_scan_22 : decode b_Lex_scan 22 = .ok (.getfield 28, 3) := by decide +kernel
theorem d_Lex_scan_25 : decode b_Lex_scan 25 = .ok (.invokevirtual 58, 3) := by decide +kernel
theorem d_Lex_scan_28 : decode b_Lex_scan 28 = .ok (.istore_n 1, 1) := by decide +kernel
theorem d_Lex_scan_29 : decode b_Lex_scan 29 = .ok (.aload_n 0, 1) := by decide +kernel
theorem d_Lex_scan_30 : decode b_Lex_scan 30 = .ok (.getfield 28, 3) := by decide +kernel
theorem d_Lex_scan_33 : decode b_Lex_scan 33 = .ok (.aload_n 0, 1) := by decide +kernel
theorem d_Lex_scan_34 : decode b_Lex_scan 34 = .ok (.getfield 9, 3) := by decide +kernel
theorem d_Lex_scan_37 : decode b_Lex_scan 37 = .ok (.invokevirtual 73, 3) := by decide +kernel
theorem d_Lex_scan_40 : decode b_Lex_scan 40 = .ok (.if_icmp .lt 11, 3) := by decide +kernel
theorem d_Lex_scan_43 : decode b_Lex_scan 43 = .ok (.aload_n 0, 1) := by decide +kernel
theorem d_Lex_scan_44 : decode b_Lex_scan 44 = .ok (.iconst 0, 1) := by decide +kernel
theorem d_Lex_scan_45 : decode b_Lex_scan 45 = .ok (.putfield 32, 3) := by decide +kernel
theorem d_Lex_scan_48 : decode b_Lex_scan 48 = .ok (.goto 49, 3) := by decide +kernel
theorem d_Lex_scan_97 : decode b_Lex_scan 97 = .ok (.return_, 1) := by decide +kernel
theorem d_Lex_skip_0 : decode b_Lex_skip 0 = .ok (.iconst 0, 1) := by decide +kernel
theorem d_Lex_skip_1 : decode b_Lex_skip 1 = .ok (.istore_n 1, 1) := by decide +kernel
theorem d_Lex_skip_2 : decode b_Lex_skip 2 = .ok (.aload_n 0, 1) := by decide +kernel
theorem d_Lex_skip_3 : decode b_Lex_skip 3 = .ok (.getfield 28, 3) := by decide +kernel
theorem d_Lex_skip_6 : decode b_Lex_skip 6 = .ok (.aload_n 0, 1) := by decide +kernel
theorem d_Lex_skip_7 : decode b_Lex_skip 7 = .ok (.getfield 9, 3) := by decide +kernel
theorem d_Lex_skip_10 : decode b_Lex_skip 10 = .ok (.invokevirtual 73, 3) := by decide +kernel
theorem d_Lex_skip_13 : decode b_Lex_skip 13 = .ok (.if_icmp .ge 73, 3) := by decide +kernel
theorem d_Lex_skip_86 : decode b_Lex_skip 86 = .ok (.return_, 1) := by decide +kernel
theorem d_Meter_code_0 : decode b_Meter_code 0 = .ok (.aload_n 0, 1) := by decide +kernel
theorem d_Meter_code_1 : decode b_Meter_code 1 = .ok (.getfield 9, 3) := by decide +kernel
theorem d_Meter_code_4 : decode b_Meter_code 4 = .ok (.ireturn, 1) := by decide +kernel
