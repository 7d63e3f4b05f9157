theorem d_Law_law_23 : decode b_Law_law 23 = .ok (.iload 4, 2) := by decide +kernel
theorem d_Law_law_25 : decode b_Law_law 25 = .ok (.aload_n 0, 1) := by decide +kernel
theorem d_Law_law_26 : decode b_Law_law 26 = .ok (.arraylength, 1) := by decide +kernel
theorem d_Law_law_27 : decode b_Law_law 27 = .ok (.bipush 6, 2) := by decide +kernel
theorem d_Law_law_29 : decode b_Law_law 29 = .ok (.isub, 1) := by decide +kernel
theorem d_Law_law_30 : decode b_Law_law 30 = .ok (.if_icmp .gt 428, 3) := by decide +kernel
theorem d_Law_law_33 : decode b_Law_law 33 = .ok (.aload_n 0, 1) := by decide +kernel
theorem d_Law_law_34 : decode b_Law_law 34 = .ok (.iload 4, 2) := by decide +kernel
theorem d_Law_law_36 : decode b_Law_law 36 = .ok (.iaload, 1) := by decide +kernel
theorem d_Law_law_37 : decode b_Law_law 37 = .ok (.bipush 15, 2) := by decide +kernel
theorem d_Law_law_39 : decode b_Law_law 39 = .ok (.iand, 1) := by decide +kernel
theorem d_Law_law_40 : decode b_Law_law 40 = .ok (.tableswitch 412 0 9 #[56, 132, 188, 201, 226, 239, 279, 319, 359, 387], 56) := by decide +kernel
theorem d_Law_law_452 : decode b_Law_law 452 = .ok (.iinc 4 6, 3) := by decide +kernel
theorem d_Law_law_455 : decode b_Law_law 455 = .ok (.goto (-432), 3) := by decide +kernel
theorem d_Law_law_458 : decode b_Law_law 458 = .ok (.iconst 1, 1) := by decide +kernel
theorem d_Law_law_459 : decode b_Law_law 459 = .ok (.ireturn, 1) := by decide +kernel
