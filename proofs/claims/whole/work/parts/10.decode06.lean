theorem d_Mo_in_1 : decode c_Mo_in 1 = .ok (.iload_n 1, 1) := by decide +kernel
theorem d_Mo_in_2 : decode c_Mo_in 2 = .ok (.if_icmp .lt 12, 3) := by decide +kernel
theorem d_Mo_in_5 : decode c_Mo_in 5 = .ok (.iload_n 0, 1) := by decide +kernel
theorem d_Mo_in_6 : decode c_Mo_in 6 = .ok (.iload_n 2, 1) := by decide +kernel
theorem d_Mo_in_7 : decode c_Mo_in 7 = .ok (.if_icmp .gt 7, 3) := by decide +kernel
theorem d_Mo_in_10 : decode c_Mo_in 10 = .ok (.iconst 1, 1) := by decide +kernel
theorem d_Mo_in_11 : decode c_Mo_in 11 = .ok (.goto 4, 3) := by decide +kernel
theorem d_Mo_in_14 : decode c_Mo_in 14 = .ok (.iconst 0, 1) := by decide +kernel
theorem d_Mo_in_15 : decode c_Mo_in 15 = .ok (.ireturn, 1) := by decide +kernel
