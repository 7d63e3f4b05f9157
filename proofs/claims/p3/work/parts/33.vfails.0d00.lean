theorem d_Mod_fails_0 : decode b_Mod_fails 0 = .ok (.new 1, 3) := by decide +kernel
theorem d_Mod_fails_3 : decode b_Mod_fails 3 = .ok (.dup, 1) := by decide +kernel
theorem d_Mod_fails_4 : decode b_Mod_fails 4 = .ok (.iload_n 0, 1) := by decide +kernel
theorem d_Mod_fails_5 : decode b_Mod_fails 5 = .ok (.iconst (-1), 1) := by decide +kernel
theorem d_Mod_fails_6 : decode b_Mod_fails 6 = .ok (.invokespecial 3, 3) := by decide +kernel
theorem d_Mod_fails_9 : decode b_Mod_fails 9 = .ok (.areturn, 1) := by decide +kernel
