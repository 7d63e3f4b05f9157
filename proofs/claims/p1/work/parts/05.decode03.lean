theorem d_Ker_feed_4 : decode b_Ker_feed 4 = .ok (.invokevirtual 104, 3) := by decide +kernel
theorem d_Ker_feed_7 : decode b_Ker_feed 7 = .ok (.bipush 20, 2) := by decide +kernel
theorem d_Ker_feed_9 : decode b_Ker_feed 9 = .ok (.iadd, 1) := by decide +kernel
theorem d_Ker_feed_10 : decode b_Ker_feed 10 = .ok (.ldc 11, 2) := by decide +kernel
theorem d_Ker_feed_12 : decode b_Ker_feed 12 = .ok (.if_icmp .le 11, 3) := by decide +kernel
theorem d_Ker_feed_23 : decode b_Ker_feed 23 = .ok (.aload_n 0, 1) := by decide +kernel
theorem d_Ker_feed_24 : decode b_Ker_feed 24 = .ok (.iload_n 1, 1) := by decide +kernel
theorem d_Ker_feed_25 : decode b_Ker_feed 25 = .ok (.invokevirtual 111, 3) := by decide +kernel
theorem d_Ker_feed_28 : decode b_Ker_feed 28 = .ok (.aload_n 0, 1) := by decide +kernel
theorem d_Ker_feed_29 : decode b_Ker_feed 29 = .ok (.iload_n 2, 1) := by decide +kernel
theorem d_Ker_feed_30 : decode b_Ker_feed 30 = .ok (.invokevirtual 111, 3) := by decide +kernel
theorem d_Ker_feed_33 : decode b_Ker_feed 33 = .ok (.aload_n 0, 1) := by decide +kernel
theorem d_Ker_feed_34 : decode b_Ker_feed 34 = .ok (.iload_n 3, 1) := by decide +kernel
theorem d_Ker_feed_35 : decode b_Ker_feed 35 = .ok (.invokevirtual 111, 3) := by decide +kernel
theorem d_Ker_feed_38 : decode b_Ker_feed 38 = .ok (.aload_n 0, 1) := by decide +kernel
theorem d_Ker_feed_39 : decode b_Ker_feed 39 = .ok (.iload 4, 2) := by decide +kernel
theorem d_Ker_feed_41 : decode b_Ker_feed 41 = .ok (.invokevirtual 111, 3) := by decide +kernel
theorem d_Ker_feed_44 : decode b_Ker_feed 44 = .ok (.aload_n 0, 1) := by decide +kernel
theorem d_Ker_feed_45 : decode b_Ker_feed 45 = .ok (.iload 5, 2) := by decide +kernel
theorem d_Ker_feed_47 : decode b_Ker_feed 47 = .ok (.invokevirtual 111, 3) := by decide +kernel
theorem d_Ker_feed_50 : decode b_Ker_feed 50 = .ok (.aload_n 0, 1) := by decide +kernel
theorem d_Ker_feed_51 : decode b_Ker_feed 51 = .ok (.getfield 15, 3) := by decide +kernel
theorem d_Ker_feed_54 : decode b_Ker_feed 54 = .ok (.invokevirtual 104, 3) := by decide +kernel
theorem d_Ker_feed_57 : decode b_Ker_feed 57 = .ok (.ireturn, 1) := by decide +kernel
theorem d_Ker_init_0 : decode b_Ker_init 0 = .ok (.aload_n 0, 1) := by decide +kernel
theorem d_Ker_init_1 : decode b_Ker_init 1 = .ok (.invokespecial 1, 3) := by decide +kernel
theorem d_Ker_init_4 : decode b_Ker_init 4 = .ok (.aload_n 0, 1) := by decide +kernel
theorem d_Ker_init_5 : decode b_Ker_init 5 = .ok (.new 7, 3) := by decide +kernel
theorem d_Ker_init_8 : decode b_Ker_init 8 = .ok (.dup, 1) := by decide +kernel
theorem d_Ker_init_9 : decode b_Ker_init 9 = .ok (.sipush 256, 3) := by decide +kernel
theorem d_Ker_init_12 : decode b_Ker_init 12 = .ok (.ldc 11, 2) := by decide +kernel
theorem d_Ker_init_14 : decode b_Ker_init 14 = .ok (.invokespecial 12, 3) := by decide +kernel
theorem d_Ker_init_17 : decode b_Ker_init 17 = .ok (.putfield 15, 3) := by decide +kernel
theorem d_Ker_init_20 : decode b_Ker_init 20 = .ok (.aload_n 0, 1) := by decide +kernel
theorem d_Ker_init_21 : decode b_Ker_init 21 = .ok (.new 7, 3) := by decide +kernel
theorem d_Ker_init_24 : decode b_Ker_init 24 = .ok (.dup, 1) := by decide +kernel
theorem d_Ker_init_25 : decode b_Ker_init 25 = .ok (.sipush 256, 3) := by decide +kernel
theorem d_Ker_init_28 : decode b_Ker_init 28 = .ok (.ldc 11, 2) := by decide +kernel
theorem d_Ker_init_30 : decode b_Ker_init 30 = .ok (.invokespecial 12, 3) := by decide +kernel
theorem d_Ker_init_33 : decode b_Ker_init 33 = .ok (.putfield 19, 3) := by decide +kernel
theorem d_Ker_init_36 : decode b_Ker_init 36 = .ok (.aload_n 0, 1) := by decide +kernel
theorem d_Ker_init_37 : decode b_Ker_init 37 = .ok (.new 22, 3) := by decide +kernel
theorem d_Ker_init_40 : decode b_Ker_init 40 = .ok (.dup, 1) := by decide +kernel
theorem d_Ker_init_41 : decode b_Ker_init 41 = .ok (.invokespecial 24, 3) := by decide +kernel
theorem d_Ker_init_44 : decode b_Ker_init 44 = .ok (.putfield 25, 3) := by decide +kernel
theorem d_Ker_init_47 : decode b_Ker_init 47 = .ok (.aload_n 0, 1) := by decide +kernel
theorem d_Ker_init_48 : decode b_Ker_init 48 = .ok (.new 29, 3) := by decide +kernel
theorem d_Ker_init_51 : decode b_Ker_init 51 = .ok (.dup, 1) := by decide +kernel
theorem d_Ker_init_52 : decode b_Ker_init 52 = .ok (.aload_n 0, 1) := by decide +kernel
theorem d_Ker_init_53 : decode b_Ker_init 53 = .ok (.getfield 25, 3) := by decide +kernel
theorem d_Ker_init_56 : decode b_Ker_init 56 = .ok (.invokespecial 31, 3) := by decide +kernel
theorem d_Ker_init_59 : decode b_Ker_init 59 = .ok (.putfield 34, 3) := by decide +kernel
theorem d_Ker_init_62 : decode b_Ker_init 62 = .ok (.aload_n 0, 1) := by decide +kernel
theorem d_Ker_init_63 : decode b_Ker_init 63 = .ok (.new 38, 3) := by decide +kernel
theorem d_Ker_init_66 : decode b_Ker_init 66 = .ok (.dup, 1) := by decide +kernel
theorem d_Ker_init_67 : decode b_Ker_init 67 = .ok (.invokespecial 40, 3) := by decide +kernel
theorem d_Ker_init_70 : decode b_Ker_init 70 = .ok (.putfield 41, 3) := by decide +kernel
theorem d_Ker_init_73 : decode b_Ker_init 73 = .ok (.aload_n 0, 1) := by decide +kernel
theorem d_Ker_init_74 : decode b_Ker_init 74 = .ok (.new 45, 3) := by decide +kernel
theorem d_Ker_init_77 : decode b_Ker_init 77 = .ok (.dup, 1) := by decide +kernel
