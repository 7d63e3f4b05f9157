theorem d_Fra_top_0 : decode b_Fra_top 0 = .ok (.aload_n 0, 1) := by decide +kernel
theorem d_Fra_top_1 : decode b_Fra_top 1 = .ok (.getfield 17, 3) := by decide +kernel
theorem d_Fra_top_4 : decode b_Fra_top 4 = .ok (.aload_n 0, 1) := by decide +kernel
theorem d_Fra_top_5 : decode b_Fra_top 5 = .ok (.getfield 17, 3) := by decide +kernel
theorem d_Fra_top_8 : decode b_Fra_top 8 = .ok (.invokevirtual 32, 3) := by decide +kernel
theorem d_Fra_top_11 : decode b_Fra_top 11 = .ok (.iconst 5, 1) := by decide +kernel
theorem d_Fra_top_12 : decode b_Fra_top 12 = .ok (.isub, 1) := by decide +kernel
theorem d_Fra_top_13 : decode b_Fra_top 13 = .ok (.iload_n 1, 1) := by decide +kernel
theorem d_Fra_top_14 : decode b_Fra_top 14 = .ok (.iadd, 1) := by decide +kernel
theorem d_Fra_top_15 : decode b_Fra_top 15 = .ok (.invokevirtual 38, 3) := by decide +kernel
theorem d_Fra_top_18 : decode b_Fra_top 18 = .ok (.ireturn, 1) := by decide +kernel
theorem d_Fra_set_0 : decode b_Fra_set 0 = .ok (.aload_n 0, 1) := by decide +kernel
theorem d_Fra_set_1 : decode b_Fra_set 1 = .ok (.getfield 17, 3) := by decide +kernel
theorem d_Fra_set_4 : decode b_Fra_set 4 = .ok (.aload_n 0, 1) := by decide +kernel
theorem d_Fra_set_5 : decode b_Fra_set 5 = .ok (.getfield 17, 3) := by decide +kernel
theorem d_Fra_set_8 : decode b_Fra_set 8 = .ok (.invokevirtual 32, 3) := by decide +kernel
theorem d_Fra_set_11 : decode b_Fra_set 11 = .ok (.iconst 5, 1) := by decide +kernel
theorem d_Fra_set_12 : decode b_Fra_set 12 = .ok (.isub, 1) := by decide +kernel
theorem d_Fra_set_13 : decode b_Fra_set 13 = .ok (.iload_n 1, 1) := by decide +kernel
theorem d_Fra_set_14 : decode b_Fra_set 14 = .ok (.iadd, 1) := by decide +kernel
theorem d_Fra_set_15 : decode b_Fra_set 15 = .ok (.iload_n 2, 1) := by decide +kernel
theorem d_Fra_set_16 : decode b_Fra_set 16 = .ok (.invokevirtual 42, 3) := by decide +kernel
theorem d_Fra_set_19 : decode b_Fra_set 19 = .ok (.return_, 1) := by decide +kernel
theorem d_Fra_pop_0 : decode b_Fra_pop 0 = .ok (.aload_n 0, 1) := by decide +kernel
theorem d_Fra_pop_1 : decode b_Fra_pop 1 = .ok (.getfield 17, 3) := by decide +kernel
theorem d_Fra_pop_4 : decode b_Fra_pop 4 = .ok (.aload_n 0, 1) := by decide +kernel
theorem d_Fra_pop_5 : decode b_Fra_pop 5 = .ok (.getfield 17, 3) := by decide +kernel
theorem d_Fra_pop_8 : decode b_Fra_pop 8 = .ok (.invokevirtual 32, 3) := by decide +kernel
theorem d_Fra_pop_11 : decode b_Fra_pop 11 = .ok (.iconst 5, 1) := by decide +kernel
theorem d_Fra_pop_12 : decode b_Fra_pop 12 = .ok (.isub, 1) := by decide +kernel
theorem d_Fra_pop_13 : decode b_Fra_pop 13 = .ok (.invokevirtual 24, 3) := by decide +kernel
theorem d_Fra_pop_16 : decode b_Fra_pop 16 = .ok (.return_, 1) := by decide +kernel
theorem d_Fra_give_0 : decode b_Fra_give 0 = .ok (.aload_n 0, 1) := by decide +kernel
theorem d_Fra_give_1 : decode b_Fra_give 1 = .ok (.iload_n 1, 1) := by decide +kernel
theorem d_Fra_give_2 : decode b_Fra_give 2 = .ok (.putfield 45, 3) := by decide +kernel
theorem d_Fra_give_5 : decode b_Fra_give 5 = .ok (.aload_n 0, 1) := by decide +kernel
theorem d_Fra_give_6 : decode b_Fra_give 6 = .ok (.invokevirtual 49, 3) := by decide +kernel
theorem d_Fra_give_9 : decode b_Fra_give 9 = .ok (.return_, 1) := by decide +kernel
theorem d_Fra_result_0 : decode b_Fra_result 0 = .ok (.aload_n 0, 1) := by decide +kernel
theorem d_Fra_result_1 : decode b_Fra_result 1 = .ok (.getfield 45, 3) := by decide +kernel
theorem d_Fra_result_4 : decode b_Fra_result 4 = .ok (.ireturn, 1) := by decide +kernel
theorem d_Fra_typeOf_0 : decode b_Fra_typeOf 0 = .ok (.aload_n 0, 1) := by decide +kernel
theorem d_Fra_typeOf_1 : decode b_Fra_typeOf 1 = .ok (.getfield 21, 3) := by decide +kernel
theorem d_Fra_typeOf_4 : decode b_Fra_typeOf 4 = .ok (.iload_n 1, 1) := by decide +kernel
theorem d_Fra_typeOf_5 : decode b_Fra_typeOf 5 = .ok (.invokevirtual 38, 3) := by decide +kernel
theorem d_Fra_typeOf_8 : decode b_Fra_typeOf 8 = .ok (.ireturn, 1) := by decide +kernel
theorem d_Fra_dropVariables_0 : decode b_Fra_dropVariables 0 = .ok (.aload_n 0, 1) := by decide +kernel
theorem d_Fra_dropVariables_1 : decode b_Fra_dropVariables 1 = .ok (.getfield 21, 3) := by decide +kernel
theorem d_Fra_dropVariables_4 : decode b_Fra_dropVariables 4 = .ok (.iconst 0, 1) := by decide +kernel
theorem d_Fra_dropVariables_5 : decode b_Fra_dropVariables 5 = .ok (.invokevirtual 24, 3) := by decide +kernel
theorem d_Fra_dropVariables_8 : decode b_Fra_dropVariables 8 = .ok (.return_, 1) := by decide +kernel
