theorem d_Par_declaration_314 : decode b_Par_declaration 314 = .ok (.return_, 1) := by decide +kernel
theorem d_Par_task_0 : decode b_Par_task 0 = .ok (.aload_n 0, 1) := by decide +kernel
theorem d_Par_task_1 : decode b_Par_task 1 = .ok (.getfield 49, 3) := by decide +kernel
theorem d_Par_task_4 : decode b_Par_task 4 = .ok (.ireturn, 1) := by decide +kernel
theorem d_Par_type_0 : decode b_Par_type 0 = .ok (.aload_n 0, 1) := by decide +kernel
theorem d_Par_type_1 : decode b_Par_type 1 = .ok (.getfield 56, 3) := by decide +kernel
theorem d_Par_type_4 : decode b_Par_type 4 = .ok (.ireturn, 1) := by decide +kernel
theorem d_Par_value_0 : decode b_Par_value 0 = .ok (.aload_n 0, 1) := by decide +kernel
theorem d_Par_value_1 : decode b_Par_value 1 = .ok (.getfield 59, 3) := by decide +kernel
theorem d_Par_value_4 : decode b_Par_value 4 = .ok (.ireturn, 1) := by decide +kernel
theorem d_Par_declared_0 : decode b_Par_declared 0 = .ok (.aload_n 0, 1) := by decide +kernel
theorem d_Par_declared_1 : decode b_Par_declared 1 = .ok (.getfield 53, 3) := by decide +kernel
theorem d_Par_declared_4 : decode b_Par_declared 4 = .ok (.ireturn, 1) := by decide +kernel
theorem d_Par_parameters_0 : decode b_Par_parameters 0 = .ok (.aload_n 0, 1) := by decide +kernel
theorem d_Par_parameters_1 : decode b_Par_parameters 1 = .ok (.getfield 46, 3) := by decide +kernel
theorem d_Par_parameters_4 : decode b_Par_parameters 4 = .ok (.invokevirtual 65, 3) := by decide +kernel
theorem d_Par_parameters_7 : decode b_Par_parameters 7 = .ok (.ireturn, 1) := by decide +kernel
theorem d_Par_parameterType_0 : decode b_Par_parameterType 0 = .ok (.aload_n 0, 1) := by decide +kernel
theorem d_Par_parameterType_1 : decode b_Par_parameterType 1 = .ok (.getfield 46, 3) := by decide +kernel
theorem d_Par_parameterType_4 : decode b_Par_parameterType 4 = .ok (.iload_n 1, 1) := by decide +kernel
theorem d_Par_parameterType_5 : decode b_Par_parameterType 5 = .ok (.invokevirtual 69, 3) := by decide +kernel
theorem d_Par_parameterType_8 : decode b_Par_parameterType 8 = .ok (.ireturn, 1) := by decide +kernel
theorem d_Par_nodes_0 : decode b_Par_nodes 0 = .ok (.aload_n 0, 1) := by decide +kernel
theorem d_Par_nodes_1 : decode b_Par_nodes 1 = .ok (.getfield 62, 3) := by decide +kernel
theorem d_Par_nodes_4 : decode b_Par_nodes 4 = .ok (.ireturn, 1) := by decide +kernel
