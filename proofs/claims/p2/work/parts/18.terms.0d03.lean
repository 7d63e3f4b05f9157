theorem d_Terms_behind_4 : decode b_Terms_behind 4 = .ok (.iload_n 2, 1) := by decide +kernel
theorem d_Terms_behind_5 : decode b_Terms_behind 5 = .ok (.sipush 3000, 3) := by decide +kernel
theorem d_Terms_behind_8 : decode b_Terms_behind 8 = .ok (.if_icmp .ge 24, 3) := by decide +kernel
theorem d_Terms_behind_11 : decode b_Terms_behind 11 = .ok (.aload_n 0, 1) := by decide +kernel
theorem d_Terms_behind_12 : decode b_Terms_behind 12 = .ok (.iload_n 3, 1) := by decide +kernel
theorem d_Terms_behind_13 : decode b_Terms_behind 13 = .ok (.invokevirtual 52, 3) := by decide +kernel
theorem d_Terms_behind_16 : decode b_Terms_behind 16 = .ok (.iconst 5, 1) := by decide +kernel
theorem d_Terms_behind_17 : decode b_Terms_behind 17 = .ok (.if_icmp .ne 15, 3) := by decide +kernel
theorem d_Terms_behind_20 : decode b_Terms_behind 20 = .ok (.iinc 2 1, 3) := by decide +kernel
theorem d_Terms_behind_23 : decode b_Terms_behind 23 = .ok (.aload_n 0, 1) := by decide +kernel
theorem d_Terms_behind_24 : decode b_Terms_behind 24 = .ok (.iload_n 3, 1) := by decide +kernel
theorem d_Terms_behind_25 : decode b_Terms_behind 25 = .ok (.invokevirtual 56, 3) := by decide +kernel
theorem d_Terms_behind_28 : decode b_Terms_behind 28 = .ok (.istore_n 3, 1) := by decide +kernel
theorem d_Terms_behind_29 : decode b_Terms_behind 29 = .ok (.goto (-25), 3) := by decide +kernel
theorem d_Terms_behind_32 : decode b_Terms_behind 32 = .ok (.iload_n 2, 1) := by decide +kernel
theorem d_Terms_behind_33 : decode b_Terms_behind 33 = .ok (.ireturn, 1) := by decide +kernel
theorem d_Terms_fromLast_0 : decode b_Terms_fromLast 0 = .ok (.iload_n 1, 1) := by decide +kernel
theorem d_Terms_fromLast_1 : decode b_Terms_fromLast 1 = .ok (.istore_n 3, 1) := by decide +kernel
theorem d_Terms_fromLast_2 : decode b_Terms_fromLast 2 = .ok (.iconst 0, 1) := by decide +kernel
theorem d_Terms_fromLast_3 : decode b_Terms_fromLast 3 = .ok (.istore 4, 2) := by decide +kernel
theorem d_Terms_fromLast_5 : decode b_Terms_fromLast 5 = .ok (.iload 4, 2) := by decide +kernel
theorem d_Terms_fromLast_7 : decode b_Terms_fromLast 7 = .ok (.iload_n 2, 1) := by decide +kernel
theorem d_Terms_fromLast_8 : decode b_Terms_fromLast 8 = .ok (.if_icmp .ge 15, 3) := by decide +kernel
theorem d_Terms_fromLast_11 : decode b_Terms_fromLast 11 = .ok (.aload_n 0, 1) := by decide +kernel
theorem d_Terms_fromLast_12 : decode b_Terms_fromLast 12 = .ok (.iload_n 3, 1) := by decide +kernel
theorem d_Terms_fromLast_13 : decode b_Terms_fromLast 13 = .ok (.invokevirtual 56, 3) := by decide +kernel
theorem d_Terms_fromLast_16 : decode b_Terms_fromLast 16 = .ok (.istore_n 3, 1) := by decide +kernel
theorem d_Terms_fromLast_17 : decode b_Terms_fromLast 17 = .ok (.iinc 4 1, 3) := by decide +kernel
theorem d_Terms_fromLast_20 : decode b_Terms_fromLast 20 = .ok (.goto (-15), 3) := by decide +kernel
theorem d_Terms_fromLast_23 : decode b_Terms_fromLast 23 = .ok (.aload_n 0, 1) := by decide +kernel
theorem d_Terms_fromLast_24 : decode b_Terms_fromLast 24 = .ok (.iload_n 3, 1) := by decide +kernel
theorem d_Terms_fromLast_25 : decode b_Terms_fromLast 25 = .ok (.invokevirtual 59, 3) := by decide +kernel
theorem d_Terms_fromLast_28 : decode b_Terms_fromLast 28 = .ok (.ireturn, 1) := by decide +kernel
