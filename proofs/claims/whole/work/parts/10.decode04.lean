theorem d_AW_tellCandidate_26 : decode c_AW_tellCandidate 26 = .ok (.aload_n 1, 1) := by decide +kernel
theorem d_AW_tellCandidate_27 : decode c_AW_tellCandidate 27 = .ok (.iload 4, 2) := by decide +kernel
theorem d_AW_tellCandidate_29 : decode c_AW_tellCandidate 29 = .ok (.invokevirtual 338, 3) := by decide +kernel
theorem d_AW_tellCandidate_32 : decode c_AW_tellCandidate 32 = .ok (.goto 21, 3) := by decide +kernel
theorem d_AW_tellCandidate_35 : decode c_AW_tellCandidate 35 = .ok (.iload_n 2, 1) := by decide +kernel
theorem d_AW_tellCandidate_36 : decode c_AW_tellCandidate 36 = .ok (.ifCond .lt 17, 3) := by decide +kernel
theorem d_AW_tellCandidate_39 : decode c_AW_tellCandidate 39 = .ok (.iload_n 2, 1) := by decide +kernel
theorem d_AW_tellCandidate_40 : decode c_AW_tellCandidate 40 = .ok (.aload_n 0, 1) := by decide +kernel
theorem d_AW_tellCandidate_41 : decode c_AW_tellCandidate 41 = .ok (.getfield 62, 3) := by decide +kernel
theorem d_AW_tellCandidate_44 : decode c_AW_tellCandidate 44 = .ok (.if_icmp .ge 9, 3) := by decide +kernel
theorem d_AW_tellCandidate_47 : decode c_AW_tellCandidate 47 = .ok (.aload_n 0, 1) := by decide +kernel
theorem d_AW_tellCandidate_48 : decode c_AW_tellCandidate 48 = .ok (.aload_n 1, 1) := by decide +kernel
theorem d_AW_tellCandidate_49 : decode c_AW_tellCandidate 49 = .ok (.iload_n 2, 1) := by decide +kernel
theorem d_AW_tellCandidate_50 : decode c_AW_tellCandidate 50 = .ok (.invokevirtual 342, 3) := by decide +kernel
theorem d_AW_tellCandidate_53 : decode c_AW_tellCandidate 53 = .ok (.return_, 1) := by decide +kernel
