theorem d_Ker_init_202 : decode b_Ker_init 202 = .ok (.getfield 41, 3) := by decide +kernel
theorem d_Ker_init_205 : decode b_Ker_init 205 = .ok (.aload_n 0, 1) := by decide +kernel
theorem d_Ker_init_206 : decode b_Ker_init 206 = .ok (.getfield 59, 3) := by decide +kernel
theorem d_Ker_init_209 : decode b_Ker_init 209 = .ok (.invokespecial 88, 3) := by decide +kernel
theorem d_Ker_init_212 : decode b_Ker_init 212 = .ok (.putfield 91, 3) := by decide +kernel
theorem d_Ker_init_215 : decode b_Ker_init 215 = .ok (.aload_n 0, 1) := by decide +kernel
theorem d_Ker_init_216 : decode b_Ker_init 216 = .ok (.new 95, 3) := by decide +kernel
theorem d_Ker_init_219 : decode b_Ker_init 219 = .ok (.dup, 1) := by decide +kernel
theorem d_Ker_init_220 : decode b_Ker_init 220 = .ok (.aload_n 0, 1) := by decide +kernel
theorem d_Ker_init_221 : decode b_Ker_init 221 = .ok (.getfield 19, 3) := by decide +kernel
theorem d_Ker_init_224 : decode b_Ker_init 224 = .ok (.aload_n 0, 1) := by decide +kernel
theorem d_Ker_init_225 : decode b_Ker_init 225 = .ok (.getfield 34, 3) := by decide +kernel
theorem d_Ker_init_228 : decode b_Ker_init 228 = .ok (.aload_n 0, 1) := by decide +kernel
theorem d_Ker_init_229 : decode b_Ker_init 229 = .ok (.getfield 41, 3) := by decide +kernel
theorem d_Ker_init_232 : decode b_Ker_init 232 = .ok (.invokespecial 97, 3) := by decide +kernel
theorem d_Ker_init_235 : decode b_Ker_init 235 = .ok (.putfield 100, 3) := by decide +kernel
theorem d_Ker_init_238 : decode b_Ker_init 238 = .ok (.return_, 1) := by decide +kernel
theorem d_Ker_out_0 : decode b_Ker_out 0 = .ok (.iload_n 1, 1) := by decide +kernel
theorem d_Ker_out_1 : decode b_Ker_out 1 = .ok (.ifCond .lt 14, 3) := by decide +kernel
theorem d_Ker_out_4 : decode b_Ker_out 4 = .ok (.iload_n 1, 1) := by decide +kernel
theorem d_Ker_out_5 : decode b_Ker_out 5 = .ok (.aload_n 0, 1) := by decide +kernel
theorem d_Ker_out_6 : decode b_Ker_out 6 = .ok (.getfield 19, 3) := by decide +kernel
theorem d_Ker_out_9 : decode b_Ker_out 9 = .ok (.invokevirtual 104, 3) := by decide +kernel
theorem d_Ker_out_12 : decode b_Ker_out 12 = .ok (.if_icmp .lt 11, 3) := by decide +kernel
theorem d_Ker_out_15 : decode b_Ker_out 15 = .ok (.new 350, 3) := by decide +kernel
theorem d_Ker_out_18 : decode b_Ker_out 18 = .ok (.dup, 1) := by decide +kernel
theorem d_Ker_out_19 : decode b_Ker_out 19 = .ok (.invokespecial 352, 3) := by decide +kernel
theorem d_Ker_out_22 : decode b_Ker_out 22 = .ok (.athrow, 1) := by decide +kernel
theorem d_Ker_read_0 : decode b_Ker_read 0 = .ok (.aload_n 0, 1) := by decide +kernel
theorem d_Ker_read_1 : decode b_Ker_read 1 = .ok (.getfield 25, 3) := by decide +kernel
theorem d_Ker_read_4 : decode b_Ker_read 4 = .ok (.invokevirtual 124, 3) := by decide +kernel
theorem d_Ker_read_7 : decode b_Ker_read 7 = .ok (.aload_n 0, 1) := by decide +kernel
theorem d_Ker_read_8 : decode b_Ker_read 8 = .ok (.getfield 50, 3) := by decide +kernel
theorem d_Ker_read_11 : decode b_Ker_read 11 = .ok (.invokevirtual 127, 3) := by decide +kernel
theorem d_Ker_read_14 : decode b_Ker_read 14 = .ok (.iconst 0, 1) := by decide +kernel
theorem d_Ker_read_15 : decode b_Ker_read 15 = .ok (.istore_n 1, 1) := by decide +kernel
theorem d_Ker_read_16 : decode b_Ker_read 16 = .ok (.iconst 0, 1) := by decide +kernel
theorem d_Ker_read_17 : decode b_Ker_read 17 = .ok (.istore_n 2, 1) := by decide +kernel
theorem d_Ker_read_18 : decode b_Ker_read 18 = .ok (.iload_n 2, 1) := by decide +kernel
theorem d_Ker_read_19 : decode b_Ker_read 19 = .ok (.ldc 11, 2) := by decide +kernel
theorem d_Ker_read_21 : decode b_Ker_read 21 = .ok (.if_icmp .gt 138, 3) := by decide +kernel
theorem d_Ker_read_24 : decode b_Ker_read 24 = .ok (.aload_n 0, 1) := by decide +kernel
theorem d_Ker_read_25 : decode b_Ker_read 25 = .ok (.getfield 50, 3) := by decide +kernel
theorem d_Ker_read_28 : decode b_Ker_read 28 = .ok (.invokevirtual 130, 3) := by decide +kernel
theorem d_Ker_read_31 : decode b_Ker_read 31 = .ok (.ifCond .eq 128, 3) := by decide +kernel
theorem d_Ker_read_159 : decode b_Ker_read 159 = .ok (.aload_n 0, 1) := by decide +kernel
theorem d_Ker_read_160 : decode b_Ker_read 160 = .ok (.getfield 15, 3) := by decide +kernel
theorem d_Ker_read_163 : decode b_Ker_read 163 = .ok (.iconst 0, 1) := by decide +kernel
theorem d_Ker_read_164 : decode b_Ker_read 164 = .ok (.invokevirtual 121, 3) := by decide +kernel
theorem d_Ker_read_167 : decode b_Ker_read 167 = .ok (.iload_n 1, 1) := by decide +kernel
theorem d_Ker_read_168 : decode b_Ker_read 168 = .ok (.ireturn, 1) := by decide +kernel
theorem d_Ker_reset_0 : decode b_Ker_reset 0 = .ok (.aload_n 0, 1) := by decide +kernel
theorem d_Ker_reset_1 : decode b_Ker_reset 1 = .ok (.getfield 41, 3) := by decide +kernel
theorem d_Ker_reset_4 : decode b_Ker_reset 4 = .ok (.invokevirtual 133, 3) := by decide +kernel
theorem d_Ker_reset_7 : decode b_Ker_reset 7 = .ok (.istore_n 1, 1) := by decide +kernel
theorem d_Ker_reset_8 : decode b_Ker_reset 8 = .ok (.aload_n 0, 1) := by decide +kernel
theorem d_Ker_reset_9 : decode b_Ker_reset 9 = .ok (.getfield 41, 3) := by decide +kernel
theorem d_Ker_reset_12 : decode b_Ker_reset 12 = .ok (.invokevirtual 333, 3) := by decide +kernel
theorem d_Ker_reset_15 : decode b_Ker_reset 15 = .ok (.aload_n 0, 1) := by decide +kernel
theorem d_Ker_reset_16 : decode b_Ker_reset 16 = .ok (.getfield 34, 3) := by decide +kernel
