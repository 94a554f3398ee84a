theorem d_St_latestName_4 : decode c_St_latestName 4 = .ok (.aload_n 0, 1) := by decide +kernel
theorem d_St_latestName_5 : decode c_St_latestName 5 = .ok (.getfield 17, 3) := by decide +kernel
theorem d_St_latestName_8 : decode c_St_latestName 8 = .ok (.iconst 1, 1) := by decide +kernel
theorem d_St_latestName_9 : decode c_St_latestName 9 = .ok (.isub, 1) := by decide +kernel
theorem d_St_latestName_10 : decode c_St_latestName 10 = .ok (.aaload, 1) := by decide +kernel
theorem d_St_latestName_11 : decode c_St_latestName 11 = .ok (.areturn, 1) := by decide +kernel
