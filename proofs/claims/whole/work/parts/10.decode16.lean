theorem d_LM_init_5 : decode c_LM_init 5 = .ok (.new 7, 3) := by decide +kernel
theorem d_LM_init_8 : decode c_LM_init 8 = .ok (.dup, 1) := by decide +kernel
theorem d_LM_init_9 : decode c_LM_init 9 = .ok (.invokespecial 9, 3) := by decide +kernel
theorem d_LM_init_12 : decode c_LM_init 12 = .ok (.putfield 10, 3) := by decide +kernel
theorem d_LM_init_15 : decode c_LM_init 15 = .ok (.aload_n 0, 1) := by decide +kernel
theorem d_LM_init_16 : decode c_LM_init 16 = .ok (.iload_n 1, 1) := by decide +kernel
theorem d_LM_init_17 : decode c_LM_init 17 = .ok (.putfield 16, 3) := by decide +kernel
theorem d_LM_init_20 : decode c_LM_init 20 = .ok (.aload_n 0, 1) := by decide +kernel
theorem d_LM_init_21 : decode c_LM_init 21 = .ok (.iload_n 2, 1) := by decide +kernel
theorem d_LM_init_22 : decode c_LM_init 22 = .ok (.putfield 20, 3) := by decide +kernel
theorem d_LM_init_25 : decode c_LM_init 25 = .ok (.return_, 1) := by decide +kernel
