theorem d_Mo_range_151 : decode c_Mo_range 151 = .ok (.getfield 26, 3) := by decide +kernel
theorem d_Mo_range_154 : decode c_Mo_range 154 = .ok (.iload_n 1, 1) := by decide +kernel
theorem d_Mo_range_155 : decode c_Mo_range 155 = .ok (.iaload, 1) := by decide +kernel
theorem d_Mo_range_156 : decode c_Mo_range 156 = .ok (.ireturn, 1) := by decide +kernel
