theorem d_AW_near_31 : decode c_AW_near 31 = .ok (.getfield 186, 3) := by decide +kernel
theorem d_AW_near_34 : decode c_AW_near 34 = .ok (.aload_n 0, 1) := by decide +kernel
theorem d_AW_near_35 : decode c_AW_near 35 = .ok (.getfield 11, 3) := by decide +kernel
theorem d_AW_near_38 : decode c_AW_near 38 = .ok (.iload 5, 2) := by decide +kernel
theorem d_AW_near_40 : decode c_AW_near 40 = .ok (.aaload, 1) := by decide +kernel
theorem d_AW_near_41 : decode c_AW_near 41 = .ok (.getfield 196, 3) := by decide +kernel
theorem d_AW_near_44 : decode c_AW_near 44 = .ok (.invokestatic 202, 3) := by decide +kernel
theorem d_AW_near_47 : decode c_AW_near 47 = .ok (.istore 6, 2) := by decide +kernel
theorem d_AW_near_49 : decode c_AW_near 49 = .ok (.iload_n 3, 1) := by decide +kernel
theorem d_AW_near_50 : decode c_AW_near 50 = .ok (.iconst (-1), 1) := by decide +kernel
theorem d_AW_near_51 : decode c_AW_near 51 = .ok (.if_icmp .eq 10, 3) := by decide +kernel
theorem d_AW_near_54 : decode c_AW_near 54 = .ok (.iload 6, 2) := by decide +kernel
theorem d_AW_near_56 : decode c_AW_near 56 = .ok (.iload 4, 2) := by decide +kernel
theorem d_AW_near_58 : decode c_AW_near 58 = .ok (.if_icmp .ge 10, 3) := by decide +kernel
theorem d_AW_near_61 : decode c_AW_near 61 = .ok (.iload 5, 2) := by decide +kernel
theorem d_AW_near_63 : decode c_AW_near 63 = .ok (.istore_n 3, 1) := by decide +kernel
theorem d_AW_near_64 : decode c_AW_near 64 = .ok (.iload 6, 2) := by decide +kernel
theorem d_AW_near_66 : decode c_AW_near 66 = .ok (.istore 4, 2) := by decide +kernel
theorem d_AW_near_68 : decode c_AW_near 68 = .ok (.iinc 5 1, 3) := by decide +kernel
theorem d_AW_near_71 : decode c_AW_near 71 = .ok (.goto (-58), 3) := by decide +kernel
theorem d_AW_near_74 : decode c_AW_near 74 = .ok (.iload_n 3, 1) := by decide +kernel
theorem d_AW_near_75 : decode c_AW_near 75 = .ok (.ireturn, 1) := by decide +kernel
