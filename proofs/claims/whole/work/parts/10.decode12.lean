theorem d_Mo_distance_59 : decode c_Mo_distance 59 = .ok (.iload_n 3, 1) := by decide +kernel
theorem d_Mo_distance_60 : decode c_Mo_distance 60 = .ok (.imul, 1) := by decide +kernel
theorem d_Mo_distance_61 : decode c_Mo_distance 61 = .ok (.iload 5, 2) := by decide +kernel
theorem d_Mo_distance_63 : decode c_Mo_distance 63 = .ok (.iadd, 1) := by decide +kernel
theorem d_Mo_distance_64 : decode c_Mo_distance 64 = .ok (.iconst 1, 1) := by decide +kernel
theorem d_Mo_distance_65 : decode c_Mo_distance 65 = .ok (.isub, 1) := by decide +kernel
theorem d_Mo_distance_66 : decode c_Mo_distance 66 = .ok (.iaload, 1) := by decide +kernel
theorem d_Mo_distance_67 : decode c_Mo_distance 67 = .ok (.aload_n 0, 1) := by decide +kernel
theorem d_Mo_distance_68 : decode c_Mo_distance 68 = .ok (.getfield 86, 3) := by decide +kernel
theorem d_Mo_distance_71 : decode c_Mo_distance 71 = .ok (.iload 4, 2) := by decide +kernel
theorem d_Mo_distance_73 : decode c_Mo_distance 73 = .ok (.iconst 1, 1) := by decide +kernel
theorem d_Mo_distance_74 : decode c_Mo_distance 74 = .ok (.isub, 1) := by decide +kernel
theorem d_Mo_distance_75 : decode c_Mo_distance 75 = .ok (.iaload, 1) := by decide +kernel
theorem d_Mo_distance_76 : decode c_Mo_distance 76 = .ok (.aload_n 0, 1) := by decide +kernel
theorem d_Mo_distance_77 : decode c_Mo_distance 77 = .ok (.getfield 89, 3) := by decide +kernel
theorem d_Mo_distance_80 : decode c_Mo_distance 80 = .ok (.iload 5, 2) := by decide +kernel
theorem d_Mo_distance_82 : decode c_Mo_distance 82 = .ok (.iconst 1, 1) := by decide +kernel
theorem d_Mo_distance_83 : decode c_Mo_distance 83 = .ok (.isub, 1) := by decide +kernel
theorem d_Mo_distance_84 : decode c_Mo_distance 84 = .ok (.iaload, 1) := by decide +kernel
theorem d_Mo_distance_85 : decode c_Mo_distance 85 = .ok (.if_icmp .ne 7, 3) := by decide +kernel
theorem d_Mo_distance_88 : decode c_Mo_distance 88 = .ok (.iconst 0, 1) := by decide +kernel
theorem d_Mo_distance_89 : decode c_Mo_distance 89 = .ok (.goto 4, 3) := by decide +kernel
theorem d_Mo_distance_92 : decode c_Mo_distance 92 = .ok (.iconst 1, 1) := by decide +kernel
theorem d_Mo_distance_93 : decode c_Mo_distance 93 = .ok (.iadd, 1) := by decide +kernel
theorem d_Mo_distance_94 : decode c_Mo_distance 94 = .ok (.istore 6, 2) := by decide +kernel
theorem d_Mo_distance_96 : decode c_Mo_distance 96 = .ok (.iload 6, 2) := by decide +kernel
theorem d_Mo_distance_98 : decode c_Mo_distance 98 = .ok (.aload_n 0, 1) := by decide +kernel
theorem d_Mo_distance_99 : decode c_Mo_distance 99 = .ok (.getfield 92, 3) := by decide +kernel
theorem d_Mo_distance_102 : decode c_Mo_distance 102 = .ok (.iload 4, 2) := by decide +kernel
theorem d_Mo_distance_104 : decode c_Mo_distance 104 = .ok (.iconst 1, 1) := by decide +kernel
theorem d_Mo_distance_105 : decode c_Mo_distance 105 = .ok (.isub, 1) := by decide +kernel
theorem d_Mo_distance_106 : decode c_Mo_distance 106 = .ok (.iload_n 3, 1) := by decide +kernel
theorem d_Mo_distance_107 : decode c_Mo_distance 107 = .ok (.imul, 1) := by decide +kernel
theorem d_Mo_distance_108 : decode c_Mo_distance 108 = .ok (.iload 5, 2) := by decide +kernel
theorem d_Mo_distance_110 : decode c_Mo_distance 110 = .ok (.iadd, 1) := by decide +kernel
theorem d_Mo_distance_111 : decode c_Mo_distance 111 = .ok (.iaload, 1) := by decide +kernel
theorem d_Mo_distance_112 : decode c_Mo_distance 112 = .ok (.aload_n 0, 1) := by decide +kernel
theorem d_Mo_distance_113 : decode c_Mo_distance 113 = .ok (.getfield 92, 3) := by decide +kernel
theorem d_Mo_distance_116 : decode c_Mo_distance 116 = .ok (.iload 4, 2) := by decide +kernel
theorem d_Mo_distance_118 : decode c_Mo_distance 118 = .ok (.iload_n 3, 1) := by decide +kernel
theorem d_Mo_distance_119 : decode c_Mo_distance 119 = .ok (.imul, 1) := by decide +kernel
theorem d_Mo_distance_120 : decode c_Mo_distance 120 = .ok (.iload 5, 2) := by decide +kernel
theorem d_Mo_distance_122 : decode c_Mo_distance 122 = .ok (.iadd, 1) := by decide +kernel
theorem d_Mo_distance_123 : decode c_Mo_distance 123 = .ok (.iconst 1, 1) := by decide +kernel
theorem d_Mo_distance_124 : decode c_Mo_distance 124 = .ok (.isub, 1) := by decide +kernel
theorem d_Mo_distance_125 : decode c_Mo_distance 125 = .ok (.iaload, 1) := by decide +kernel
theorem d_Mo_distance_126 : decode c_Mo_distance 126 = .ok (.invokestatic 158, 3) := by decide +kernel
theorem d_Mo_distance_129 : decode c_Mo_distance 129 = .ok (.iconst 1, 1) := by decide +kernel
theorem d_Mo_distance_130 : decode c_Mo_distance 130 = .ok (.iadd, 1) := by decide +kernel
theorem d_Mo_distance_131 : decode c_Mo_distance 131 = .ok (.invokestatic 158, 3) := by decide +kernel
theorem d_Mo_distance_134 : decode c_Mo_distance 134 = .ok (.istore 6, 2) := by decide +kernel
theorem d_Mo_distance_136 : decode c_Mo_distance 136 = .ok (.iload 4, 2) := by decide +kernel
theorem d_Mo_distance_138 : decode c_Mo_distance 138 = .ok (.iconst 1, 1) := by decide +kernel
theorem d_Mo_distance_139 : decode c_Mo_distance 139 = .ok (.if_icmp .le 76, 3) := by decide +kernel
theorem d_Mo_distance_142 : decode c_Mo_distance 142 = .ok (.iload 5, 2) := by decide +kernel
theorem d_Mo_distance_144 : decode c_Mo_distance 144 = .ok (.iconst 1, 1) := by decide +kernel
theorem d_Mo_distance_145 : decode c_Mo_distance 145 = .ok (.if_icmp .le 70, 3) := by decide +kernel
theorem d_Mo_distance_148 : decode c_Mo_distance 148 = .ok (.aload_n 0, 1) := by decide +kernel
theorem d_Mo_distance_149 : decode c_Mo_distance 149 = .ok (.getfield 86, 3) := by decide +kernel
theorem d_Mo_distance_152 : decode c_Mo_distance 152 = .ok (.iload 4, 2) := by decide +kernel
theorem d_Mo_distance_154 : decode c_Mo_distance 154 = .ok (.iconst 1, 1) := by decide +kernel
theorem d_Mo_distance_155 : decode c_Mo_distance 155 = .ok (.isub, 1) := by decide +kernel
theorem d_Mo_distance_156 : decode c_Mo_distance 156 = .ok (.iaload, 1) := by decide +kernel
theorem d_Mo_distance_157 : decode c_Mo_distance 157 = .ok (.aload_n 0, 1) := by decide +kernel
theorem d_Mo_distance_158 : decode c_Mo_distance 158 = .ok (.getfield 89, 3) := by decide +kernel
theorem d_Mo_distance_161 : decode c_Mo_distance 161 = .ok (.iload 5, 2) := by decide +kernel
theorem d_Mo_distance_163 : decode c_Mo_distance 163 = .ok (.iconst 2, 1) := by decide +kernel
theorem d_Mo_distance_164 : decode c_Mo_distance 164 = .ok (.isub, 1) := by decide +kernel
theorem d_Mo_distance_165 : decode c_Mo_distance 165 = .ok (.iaload, 1) := by decide +kernel
theorem d_Mo_distance_166 : decode c_Mo_distance 166 = .ok (.if_icmp .ne 49, 3) := by decide +kernel
theorem d_Mo_distance_169 : decode c_Mo_distance 169 = .ok (.aload_n 0, 1) := by decide +kernel
theorem d_Mo_distance_170 : decode c_Mo_distance 170 = .ok (.getfield 86, 3) := by decide +kernel
theorem d_Mo_distance_173 : decode c_Mo_distance 173 = .ok (.iload 4, 2) := by decide +kernel
theorem d_Mo_distance_175 : decode c_Mo_distance 175 = .ok (.iconst 2, 1) := by decide +kernel
theorem d_Mo_distance_176 : decode c_Mo_distance 176 = .ok (.isub, 1) := by decide +kernel
theorem d_Mo_distance_177 : decode c_Mo_distance 177 = .ok (.iaload, 1) := by decide +kernel
theorem d_Mo_distance_178 : decode c_Mo_distance 178 = .ok (.aload_n 0, 1) := by decide +kernel
theorem d_Mo_distance_179 : decode c_Mo_distance 179 = .ok (.getfield 89, 3) := by decide +kernel
theorem d_Mo_distance_182 : decode c_Mo_distance 182 = .ok (.iload 5, 2) := by decide +kernel
theorem d_Mo_distance_184 : decode c_Mo_distance 184 = .ok (.iconst 1, 1) := by decide +kernel
theorem d_Mo_distance_185 : decode c_Mo_distance 185 = .ok (.isub, 1) := by decide +kernel
theorem d_Mo_distance_186 : decode c_Mo_distance 186 = .ok (.iaload, 1) := by decide +kernel
theorem d_Mo_distance_187 : decode c_Mo_distance 187 = .ok (.if_icmp .ne 28, 3) := by decide +kernel
theorem d_Mo_distance_190 : decode c_Mo_distance 190 = .ok (.iload 6, 2) := by decide +kernel
theorem d_Mo_distance_192 : decode c_Mo_distance 192 = .ok (.aload_n 0, 1) := by decide +kernel
theorem d_Mo_distance_193 : decode c_Mo_distance 193 = .ok (.getfield 92, 3) := by decide +kernel
theorem d_Mo_distance_196 : decode c_Mo_distance 196 = .ok (.iload 4, 2) := by decide +kernel
theorem d_Mo_distance_198 : decode c_Mo_distance 198 = .ok (.iconst 2, 1) := by decide +kernel
theorem d_Mo_distance_199 : decode c_Mo_distance 199 = .ok (.isub, 1) := by decide +kernel
theorem d_Mo_distance_200 : decode c_Mo_distance 200 = .ok (.iload_n 3, 1) := by decide +kernel
theorem d_Mo_distance_201 : decode c_Mo_distance 201 = .ok (.imul, 1) := by decide +kernel
theorem d_Mo_distance_202 : decode c_Mo_distance 202 = .ok (.iload 5, 2) := by decide +kernel
theorem d_Mo_distance_204 : decode c_Mo_distance 204 = .ok (.iadd, 1) := by decide +kernel
theorem d_Mo_distance_205 : decode c_Mo_distance 205 = .ok (.iconst 2, 1) := by decide +kernel
theorem d_Mo_distance_206 : decode c_Mo_distance 206 = .ok (.isub, 1) := by decide +kernel
theorem d_Mo_distance_207 : decode c_Mo_distance 207 = .ok (.iaload, 1) := by decide +kernel
theorem d_Mo_distance_208 : decode c_Mo_distance 208 = .ok (.iconst 1, 1) := by decide +kernel
theorem d_Mo_distance_209 : decode c_Mo_distance 209 = .ok (.iadd, 1) := by decide +kernel
theorem d_Mo_distance_210 : decode c_Mo_distance 210 = .ok (.invokestatic 158, 3) := by decide +kernel
theorem d_Mo_distance_213 : decode c_Mo_distance 213 = .ok (.istore 6, 2) := by decide +kernel
theorem d_Mo_distance_215 : decode c_Mo_distance 215 = .ok (.aload_n 0, 1) := by decide +kernel
theorem d_Mo_distance_216 : decode c_Mo_distance 216 = .ok (.getfield 92, 3) := by decide +kernel
theorem d_Mo_distance_219 : decode c_Mo_distance 219 = .ok (.iload 4, 2) := by decide +kernel
theorem d_Mo_distance_221 : decode c_Mo_distance 221 = .ok (.iload_n 3, 1) := by decide +kernel
theorem d_Mo_distance_222 : decode c_Mo_distance 222 = .ok (.imul, 1) := by decide +kernel
theorem d_Mo_distance_223 : decode c_Mo_distance 223 = .ok (.iload 5, 2) := by decide +kernel
theorem d_Mo_distance_225 : decode c_Mo_distance 225 = .ok (.iadd, 1) := by decide +kernel
theorem d_Mo_distance_226 : decode c_Mo_distance 226 = .ok (.iload 6, 2) := by decide +kernel
theorem d_Mo_distance_228 : decode c_Mo_distance 228 = .ok (.iastore, 1) := by decide +kernel
theorem d_Mo_distance_229 : decode c_Mo_distance 229 = .ok (.iinc 5 1, 3) := by decide +kernel
theorem d_Mo_distance_232 : decode c_Mo_distance 232 = .ok (.goto (-217), 3) := by decide +kernel
theorem d_Mo_distance_235 : decode c_Mo_distance 235 = .ok (.iinc 4 1, 3) := by decide +kernel
theorem d_Mo_distance_238 : decode c_Mo_distance 238 = .ok (.goto (-232), 3) := by decide +kernel
theorem d_Mo_distance_241 : decode c_Mo_distance 241 = .ok (.aload_n 0, 1) := by decide +kernel
theorem d_Mo_distance_242 : decode c_Mo_distance 242 = .ok (.getfield 92, 3) := by decide +kernel
theorem d_Mo_distance_245 : decode c_Mo_distance 245 = .ok (.iload_n 1, 1) := by decide +kernel
theorem d_Mo_distance_246 : decode c_Mo_distance 246 = .ok (.iload_n 3, 1) := by decide +kernel
theorem d_Mo_distance_247 : decode c_Mo_distance 247 = .ok (.imul, 1) := by decide +kernel
theorem d_Mo_distance_248 : decode c_Mo_distance 248 = .ok (.iload_n 2, 1) := by decide +kernel
theorem d_Mo_distance_249 : decode c_Mo_distance 249 = .ok (.iadd, 1) := by decide +kernel
theorem d_Mo_distance_250 : decode c_Mo_distance 250 = .ok (.iaload, 1) := by decide +kernel
theorem d_Mo_distance_251 : decode c_Mo_distance 251 = .ok (.ireturn, 1) := by decide +kernel
