theorem d_Typ_init_4 : decode b_Typ_init 4 = .ok (.aload_n 0, 1) := by decide +kernel
theorem d_Typ_init_5 : decode b_Typ_init 5 = .ok (.aload_n 1, 1) := by decide +kernel
theorem d_Typ_init_6 : decode b_Typ_init 6 = .ok (.putfield 9, 3) := by decide +kernel
theorem d_Typ_init_9 : decode b_Typ_init 9 = .ok (.aload_n 0, 1) := by decide +kernel
theorem d_Typ_init_10 : decode b_Typ_init 10 = .ok (.aload_n 2, 1) := by decide +kernel
theorem d_Typ_init_11 : decode b_Typ_init 11 = .ok (.putfield 15, 3) := by decide +kernel
theorem d_Typ_init_14 : decode b_Typ_init 14 = .ok (.aload_n 0, 1) := by decide +kernel
theorem d_Typ_init_15 : decode b_Typ_init 15 = .ok (.aload_n 3, 1) := by decide +kernel
theorem d_Typ_init_16 : decode b_Typ_init 16 = .ok (.putfield 19, 3) := by decide +kernel
theorem d_Typ_init_19 : decode b_Typ_init 19 = .ok (.aload_n 0, 1) := by decide +kernel
theorem d_Typ_init_20 : decode b_Typ_init 20 = .ok (.aload 4, 2) := by decide +kernel
theorem d_Typ_init_22 : decode b_Typ_init 22 = .ok (.putfield 23, 3) := by decide +kernel
theorem d_Typ_init_25 : decode b_Typ_init 25 = .ok (.return_, 1) := by decide +kernel
