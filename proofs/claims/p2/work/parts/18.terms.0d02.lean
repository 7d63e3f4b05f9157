theorem d_Terms_binds_6 : decode b_Terms_binds 6 = .ok (.iload_n 0, 1) := by decide +kernel
theorem d_Terms_binds_7 : decode b_Terms_binds 7 = .ok (.bipush 7, 2) := by decide +kernel
theorem d_Terms_binds_9 : decode b_Terms_binds 9 = .ok (.if_icmp .eq 9, 3) := by decide +kernel
theorem d_Terms_binds_12 : decode b_Terms_binds 12 = .ok (.iload_n 0, 1) := by decide +kernel
theorem d_Terms_binds_13 : decode b_Terms_binds 13 = .ok (.bipush 9, 2) := by decide +kernel
theorem d_Terms_binds_15 : decode b_Terms_binds 15 = .ok (.if_icmp .ne 7, 3) := by decide +kernel
theorem d_Terms_binds_18 : decode b_Terms_binds 18 = .ok (.iconst 1, 1) := by decide +kernel
theorem d_Terms_binds_19 : decode b_Terms_binds 19 = .ok (.goto 4, 3) := by decide +kernel
theorem d_Terms_binds_22 : decode b_Terms_binds 22 = .ok (.iconst 0, 1) := by decide +kernel
theorem d_Terms_binds_23 : decode b_Terms_binds 23 = .ok (.ireturn, 1) := by decide +kernel
theorem d_Terms_slot_0 : decode b_Terms_slot 0 = .ok (.iload_n 1, 1) := by decide +kernel
theorem d_Terms_slot_1 : decode b_Terms_slot 1 = .ok (.ldc 97, 2) := by decide +kernel
theorem d_Terms_slot_3 : decode b_Terms_slot 3 = .ok (.imul, 1) := by decide +kernel
theorem d_Terms_slot_4 : decode b_Terms_slot 4 = .ok (.iload_n 2, 1) := by decide +kernel
theorem d_Terms_slot_5 : decode b_Terms_slot 5 = .ok (.ldc 98, 2) := by decide +kernel
theorem d_Terms_slot_7 : decode b_Terms_slot 7 = .ok (.imul, 1) := by decide +kernel
theorem d_Terms_slot_8 : decode b_Terms_slot 8 = .ok (.iadd, 1) := by decide +kernel
theorem d_Terms_slot_9 : decode b_Terms_slot 9 = .ok (.iload_n 3, 1) := by decide +kernel
theorem d_Terms_slot_10 : decode b_Terms_slot 10 = .ok (.ldc 99, 2) := by decide +kernel
theorem d_Terms_slot_12 : decode b_Terms_slot 12 = .ok (.imul, 1) := by decide +kernel
theorem d_Terms_slot_13 : decode b_Terms_slot 13 = .ok (.iadd, 1) := by decide +kernel
theorem d_Terms_slot_14 : decode b_Terms_slot 14 = .ok (.istore 4, 2) := by decide +kernel
theorem d_Terms_slot_16 : decode b_Terms_slot 16 = .ok (.iload 4, 2) := by decide +kernel
theorem d_Terms_slot_18 : decode b_Terms_slot 18 = .ok (.iload 4, 2) := by decide +kernel
theorem d_Terms_slot_20 : decode b_Terms_slot 20 = .ok (.bipush 15, 2) := by decide +kernel
theorem d_Terms_slot_22 : decode b_Terms_slot 22 = .ok (.iushr, 1) := by decide +kernel
theorem d_Terms_slot_23 : decode b_Terms_slot 23 = .ok (.ixor, 1) := by decide +kernel
theorem d_Terms_slot_24 : decode b_Terms_slot 24 = .ok (.istore 4, 2) := by decide +kernel
theorem d_Terms_slot_26 : decode b_Terms_slot 26 = .ok (.iload 4, 2) := by decide +kernel
theorem d_Terms_slot_28 : decode b_Terms_slot 28 = .ok (.aload_n 0, 1) := by decide +kernel
theorem d_Terms_slot_29 : decode b_Terms_slot 29 = .ok (.getfield 45, 3) := by decide +kernel
theorem d_Terms_slot_32 : decode b_Terms_slot 32 = .ok (.arraylength, 1) := by decide +kernel
theorem d_Terms_slot_33 : decode b_Terms_slot 33 = .ok (.iconst 1, 1) := by decide +kernel
theorem d_Terms_slot_34 : decode b_Terms_slot 34 = .ok (.isub, 1) := by decide +kernel
theorem d_Terms_slot_35 : decode b_Terms_slot 35 = .ok (.iand, 1) := by decide +kernel
theorem d_Terms_slot_36 : decode b_Terms_slot 36 = .ok (.ireturn, 1) := by decide +kernel
theorem d_Terms_head_0 : decode b_Terms_head 0 = .ok (.iload_n 1, 1) := by decide +kernel
theorem d_Terms_head_1 : decode b_Terms_head 1 = .ok (.istore_n 2, 1) := by decide +kernel
theorem d_Terms_head_2 : decode b_Terms_head 2 = .ok (.iconst 0, 1) := by decide +kernel
theorem d_Terms_head_3 : decode b_Terms_head 3 = .ok (.istore_n 3, 1) := by decide +kernel
theorem d_Terms_head_4 : decode b_Terms_head 4 = .ok (.iload_n 3, 1) := by decide +kernel
theorem d_Terms_head_5 : decode b_Terms_head 5 = .ok (.sipush 3000, 3) := by decide +kernel
theorem d_Terms_head_8 : decode b_Terms_head 8 = .ok (.if_icmp .ge 24, 3) := by decide +kernel
theorem d_Terms_head_11 : decode b_Terms_head 11 = .ok (.aload_n 0, 1) := by decide +kernel
theorem d_Terms_head_12 : decode b_Terms_head 12 = .ok (.iload_n 2, 1) := by decide +kernel
theorem d_Terms_head_13 : decode b_Terms_head 13 = .ok (.invokevirtual 52, 3) := by decide +kernel
theorem d_Terms_head_16 : decode b_Terms_head 16 = .ok (.iconst 5, 1) := by decide +kernel
theorem d_Terms_head_17 : decode b_Terms_head 17 = .ok (.if_icmp .ne 15, 3) := by decide +kernel
theorem d_Terms_head_20 : decode b_Terms_head 20 = .ok (.aload_n 0, 1) := by decide +kernel
theorem d_Terms_head_21 : decode b_Terms_head 21 = .ok (.iload_n 2, 1) := by decide +kernel
theorem d_Terms_head_22 : decode b_Terms_head 22 = .ok (.invokevirtual 56, 3) := by decide +kernel
theorem d_Terms_head_25 : decode b_Terms_head 25 = .ok (.istore_n 2, 1) := by decide +kernel
theorem d_Terms_head_26 : decode b_Terms_head 26 = .ok (.iinc 3 1, 3) := by decide +kernel
theorem d_Terms_head_29 : decode b_Terms_head 29 = .ok (.goto (-25), 3) := by decide +kernel
theorem d_Terms_head_32 : decode b_Terms_head 32 = .ok (.iload_n 2, 1) := by decide +kernel
theorem d_Terms_head_33 : decode b_Terms_head 33 = .ok (.ireturn, 1) := by decide +kernel
theorem d_Terms_behind_0 : decode b_Terms_behind 0 = .ok (.iconst 0, 1) := by decide +kernel
theorem d_Terms_behind_1 : decode b_Terms_behind 1 = .ok (.istore_n 2, 1) := by decide +kernel
theorem d_Terms_behind_2 : decode b_Terms_behind 2 = .ok (.iload_n 1, 1) := by decide +kernel
theorem d_Terms_behind_3 : decode b_Terms_behind 3 = .ok (.istore_n 3, 1) := by decide +kernel
