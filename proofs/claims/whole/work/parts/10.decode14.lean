theorem d_Mo_place_92 : decode c_Mo_place 92 = .ok (.iconst 1, 1) := by decide +kernel
theorem d_Mo_place_93 : decode c_Mo_place 93 = .ok (.if_icmp .ne 39, 3) := by decide +kernel
theorem d_Mo_place_96 : decode c_Mo_place 96 = .ok (.iload 4, 2) := by decide +kernel
theorem d_Mo_place_98 : decode c_Mo_place 98 = .ok (.ifCond .lt 13, 3) := by decide +kernel
theorem d_Mo_place_101 : decode c_Mo_place 101 = .ok (.aload_n 0, 1) := by decide +kernel
theorem d_Mo_place_102 : decode c_Mo_place 102 = .ok (.getfield 56, 3) := by decide +kernel
theorem d_Mo_place_105 : decode c_Mo_place 105 = .ok (.iload 4, 2) := by decide +kernel
theorem d_Mo_place_107 : decode c_Mo_place 107 = .ok (.iaload, 1) := by decide +kernel
theorem d_Mo_place_108 : decode c_Mo_place 108 = .ok (.goto 23, 3) := by decide +kernel
theorem d_Mo_place_111 : decode c_Mo_place 111 = .ok (.iload 6, 2) := by decide +kernel
theorem d_Mo_place_113 : decode c_Mo_place 113 = .ok (.iconst 2, 1) := by decide +kernel
theorem d_Mo_place_114 : decode c_Mo_place 114 = .ok (.if_icmp .ne 7, 3) := by decide +kernel
theorem d_Mo_place_117 : decode c_Mo_place 117 = .ok (.iconst 0, 1) := by decide +kernel
theorem d_Mo_place_118 : decode c_Mo_place 118 = .ok (.goto 13, 3) := by decide +kernel
theorem d_Mo_place_121 : decode c_Mo_place 121 = .ok (.aload_n 0, 1) := by decide +kernel
theorem d_Mo_place_122 : decode c_Mo_place 122 = .ok (.iload 5, 2) := by decide +kernel
theorem d_Mo_place_124 : decode c_Mo_place 124 = .ok (.aload_n 0, 1) := by decide +kernel
theorem d_Mo_place_125 : decode c_Mo_place 125 = .ok (.getfield 172, 3) := by decide +kernel
theorem d_Mo_place_128 : decode c_Mo_place 128 = .ok (.invokevirtual 190, 3) := by decide +kernel
theorem d_Mo_place_131 : decode c_Mo_place 131 = .ok (.ireturn, 1) := by decide +kernel
theorem d_Mo_place_132 : decode c_Mo_place 132 = .ok (.iload_n 2, 1) := by decide +kernel
theorem d_Mo_place_133 : decode c_Mo_place 133 = .ok (.ifCond .ne 8, 3) := by decide +kernel
theorem d_Mo_place_136 : decode c_Mo_place 136 = .ok (.iload 5, 2) := by decide +kernel
theorem d_Mo_place_138 : decode c_Mo_place 138 = .ok (.goto 61, 3) := by decide +kernel
theorem d_Mo_place_141 : decode c_Mo_place 141 = .ok (.iload_n 2, 1) := by decide +kernel
theorem d_Mo_place_142 : decode c_Mo_place 142 = .ok (.iconst 2, 1) := by decide +kernel
theorem d_Mo_place_143 : decode c_Mo_place 143 = .ok (.if_icmp .ne 25, 3) := by decide +kernel
theorem d_Mo_place_146 : decode c_Mo_place 146 = .ok (.iload 6, 2) := by decide +kernel
theorem d_Mo_place_148 : decode c_Mo_place 148 = .ok (.aload_n 0, 1) := by decide +kernel
theorem d_Mo_place_149 : decode c_Mo_place 149 = .ok (.getfield 13, 3) := by decide +kernel
theorem d_Mo_place_152 : decode c_Mo_place 152 = .ok (.iload 5, 2) := by decide +kernel
theorem d_Mo_place_154 : decode c_Mo_place 154 = .ok (.baload, 1) := by decide +kernel
theorem d_Mo_place_155 : decode c_Mo_place 155 = .ok (.ifCond .eq 8, 3) := by decide +kernel
theorem d_Mo_place_158 : decode c_Mo_place 158 = .ok (.bipush 10, 2) := by decide +kernel
theorem d_Mo_place_160 : decode c_Mo_place 160 = .ok (.goto 4, 3) := by decide +kernel
theorem d_Mo_place_163 : decode c_Mo_place 163 = .ok (.iconst 0, 1) := by decide +kernel
theorem d_Mo_place_164 : decode c_Mo_place 164 = .ok (.iadd, 1) := by decide +kernel
theorem d_Mo_place_165 : decode c_Mo_place 165 = .ok (.goto 34, 3) := by decide +kernel
theorem d_Mo_place_168 : decode c_Mo_place 168 = .ok (.iload_n 2, 1) := by decide +kernel
theorem d_Mo_place_169 : decode c_Mo_place 169 = .ok (.iconst 3, 1) := by decide +kernel
theorem d_Mo_place_170 : decode c_Mo_place 170 = .ok (.if_icmp .ne 12, 3) := by decide +kernel
theorem d_Mo_place_173 : decode c_Mo_place 173 = .ok (.aload_n 0, 1) := by decide +kernel
theorem d_Mo_place_174 : decode c_Mo_place 174 = .ok (.getfield 83, 3) := by decide +kernel
theorem d_Mo_place_177 : decode c_Mo_place 177 = .ok (.iload_n 3, 1) := by decide +kernel
theorem d_Mo_place_178 : decode c_Mo_place 178 = .ok (.iaload, 1) := by decide +kernel
theorem d_Mo_place_179 : decode c_Mo_place 179 = .ok (.goto 20, 3) := by decide +kernel
theorem d_Mo_place_182 : decode c_Mo_place 182 = .ok (.iload_n 2, 1) := by decide +kernel
theorem d_Mo_place_183 : decode c_Mo_place 183 = .ok (.iconst 4, 1) := by decide +kernel
theorem d_Mo_place_184 : decode c_Mo_place 184 = .ok (.if_icmp .ne 13, 3) := by decide +kernel
theorem d_Mo_place_187 : decode c_Mo_place 187 = .ok (.aload_n 0, 1) := by decide +kernel
theorem d_Mo_place_188 : decode c_Mo_place 188 = .ok (.getfield 7, 3) := by decide +kernel
theorem d_Mo_place_191 : decode c_Mo_place 191 = .ok (.iload 5, 2) := by decide +kernel
theorem d_Mo_place_193 : decode c_Mo_place 193 = .ok (.iaload, 1) := by decide +kernel
theorem d_Mo_place_194 : decode c_Mo_place 194 = .ok (.goto 5, 3) := by decide +kernel
theorem d_Mo_place_197 : decode c_Mo_place 197 = .ok (.iload 4, 2) := by decide +kernel
theorem d_Mo_place_199 : decode c_Mo_place 199 = .ok (.ireturn, 1) := by decide +kernel
