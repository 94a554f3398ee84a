theorem d_Mo_meet_122 : decode c_Mo_meet 122 = .ok (.getfield 68, 3) := by decide +kernel
theorem d_Mo_meet_125 : decode c_Mo_meet 125 = .ok (.aload_n 0, 1) := by decide +kernel
theorem d_Mo_meet_126 : decode c_Mo_meet 126 = .ok (.getfield 139, 3) := by decide +kernel
theorem d_Mo_meet_129 : decode c_Mo_meet 129 = .ok (.iload_n 2, 1) := by decide +kernel
theorem d_Mo_meet_130 : decode c_Mo_meet 130 = .ok (.iastore, 1) := by decide +kernel
theorem d_Mo_meet_131 : decode c_Mo_meet 131 = .ok (.aload_n 0, 1) := by decide +kernel
theorem d_Mo_meet_132 : decode c_Mo_meet 132 = .ok (.getfield 71, 3) := by decide +kernel
theorem d_Mo_meet_135 : decode c_Mo_meet 135 = .ok (.aload_n 0, 1) := by decide +kernel
theorem d_Mo_meet_136 : decode c_Mo_meet 136 = .ok (.getfield 139, 3) := by decide +kernel
theorem d_Mo_meet_139 : decode c_Mo_meet 139 = .ok (.iload_n 3, 1) := by decide +kernel
theorem d_Mo_meet_140 : decode c_Mo_meet 140 = .ok (.iastore, 1) := by decide +kernel
theorem d_Mo_meet_141 : decode c_Mo_meet 141 = .ok (.aload_n 0, 1) := by decide +kernel
theorem d_Mo_meet_142 : decode c_Mo_meet 142 = .ok (.getfield 74, 3) := by decide +kernel
theorem d_Mo_meet_145 : decode c_Mo_meet 145 = .ok (.aload_n 0, 1) := by decide +kernel
theorem d_Mo_meet_146 : decode c_Mo_meet 146 = .ok (.getfield 139, 3) := by decide +kernel
theorem d_Mo_meet_149 : decode c_Mo_meet 149 = .ok (.iload 4, 2) := by decide +kernel
theorem d_Mo_meet_151 : decode c_Mo_meet 151 = .ok (.iastore, 1) := by decide +kernel
theorem d_Mo_meet_152 : decode c_Mo_meet 152 = .ok (.aload_n 0, 1) := by decide +kernel
theorem d_Mo_meet_153 : decode c_Mo_meet 153 = .ok (.dup, 1) := by decide +kernel
theorem d_Mo_meet_154 : decode c_Mo_meet 154 = .ok (.getfield 139, 3) := by decide +kernel
theorem d_Mo_meet_157 : decode c_Mo_meet 157 = .ok (.iconst 1, 1) := by decide +kernel
theorem d_Mo_meet_158 : decode c_Mo_meet 158 = .ok (.iadd, 1) := by decide +kernel
theorem d_Mo_meet_159 : decode c_Mo_meet 159 = .ok (.putfield 139, 3) := by decide +kernel
theorem d_Mo_meet_162 : decode c_Mo_meet 162 = .ok (.return_, 1) := by decide +kernel
