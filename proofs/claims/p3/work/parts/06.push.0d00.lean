theorem d_Row_push_0 : decode b_Row_push 0 = .ok (.aload_n 0, 1) := by decide +kernel
theorem d_Row_push_1 : decode b_Row_push 1 = .ok (.getfield 17, 3) := by decide +kernel
theorem d_Row_push_4 : decode b_Row_push 4 = .ok (.aload_n 0, 1) := by decide +kernel
theorem d_Row_push_5 : decode b_Row_push 5 = .ok (.getfield 13, 3) := by decide +kernel
theorem d_Row_push_8 : decode b_Row_push 8 = .ok (.if_icmp .lt 4, 3) := by decide +kernel
theorem d_Row_push_12 : decode b_Row_push 12 = .ok (.aload_n 0, 1) := by decide +kernel
theorem d_Row_push_13 : decode b_Row_push 13 = .ok (.getfield 17, 3) := by decide +kernel
theorem d_Row_push_16 : decode b_Row_push 16 = .ok (.aload_n 0, 1) := by decide +kernel
theorem d_Row_push_17 : decode b_Row_push 17 = .ok (.getfield 7, 3) := by decide +kernel
theorem d_Row_push_20 : decode b_Row_push 20 = .ok (.arraylength, 1) := by decide +kernel
theorem d_Row_push_21 : decode b_Row_push 21 = .ok (.if_icmp .ne 20, 3) := by decide +kernel
theorem d_Row_push_24 : decode b_Row_push 24 = .ok (.aload_n 0, 1) := by decide +kernel
theorem d_Row_push_25 : decode b_Row_push 25 = .ok (.aload_n 0, 1) := by decide +kernel
theorem d_Row_push_26 : decode b_Row_push 26 = .ok (.getfield 7, 3) := by decide +kernel
theorem d_Row_push_29 : decode b_Row_push 29 = .ok (.iconst 2, 1) := by decide +kernel
theorem d_Row_push_30 : decode b_Row_push 30 = .ok (.aload_n 0, 1) := by decide +kernel
theorem d_Row_push_31 : decode b_Row_push 31 = .ok (.getfield 17, 3) := by decide +kernel
theorem d_Row_push_34 : decode b_Row_push 34 = .ok (.imul, 1) := by decide +kernel
theorem d_Row_push_35 : decode b_Row_push 35 = .ok (.invokestatic 20, 3) := by decide +kernel
theorem d_Row_push_38 : decode b_Row_push 38 = .ok (.putfield 7, 3) := by decide +kernel
theorem d_Row_push_41 : decode b_Row_push 41 = .ok (.aload_n 0, 1) := by decide +kernel
theorem d_Row_push_42 : decode b_Row_push 42 = .ok (.getfield 7, 3) := by decide +kernel
theorem d_Row_push_45 : decode b_Row_push 45 = .ok (.aload_n 0, 1) := by decide +kernel
theorem d_Row_push_46 : decode b_Row_push 46 = .ok (.getfield 17, 3) := by decide +kernel
theorem d_Row_push_49 : decode b_Row_push 49 = .ok (.iload_n 1, 1) := by decide +kernel
theorem d_Row_push_50 : decode b_Row_push 50 = .ok (.iastore, 1) := by decide +kernel
theorem d_Row_push_51 : decode b_Row_push 51 = .ok (.aload_n 0, 1) := by decide +kernel
theorem d_Row_push_52 : decode b_Row_push 52 = .ok (.dup, 1) := by decide +kernel
theorem d_Row_push_53 : decode b_Row_push 53 = .ok (.getfield 17, 3) := by decide +kernel
theorem d_Row_push_56 : decode b_Row_push 56 = .ok (.iconst 1, 1) := by decide +kernel
theorem d_Row_push_57 : decode b_Row_push 57 = .ok (.iadd, 1) := by decide +kernel
theorem d_Row_push_58 : decode b_Row_push 58 = .ok (.putfield 17, 3) := by decide +kernel
theorem d_Row_push_61 : decode b_Row_push 61 = .ok (.return_, 1) := by decide +kernel
theorem d_Row_push_11 : decode b_Row_push 11 = .ok (.return_, 1) := by decide +kernel
