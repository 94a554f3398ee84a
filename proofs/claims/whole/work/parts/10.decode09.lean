theorem d_Mo_isPlace_0 : decode c_Mo_isPlace 0 = .ok (.iload_n 0, 1) := by decide +kernel
theorem d_Mo_isPlace_1 : decode c_Mo_isPlace 1 = .ok (.sipush (-9999), 3) := by decide +kernel
theorem d_Mo_isPlace_4 : decode c_Mo_isPlace 4 = .ok (.sipush 9999, 3) := by decide +kernel
theorem d_Mo_isPlace_7 : decode c_Mo_isPlace 7 = .ok (.invokestatic 102, 3) := by decide +kernel
theorem d_Mo_isPlace_10 : decode c_Mo_isPlace 10 = .ok (.ireturn, 1) := by decide +kernel
theorem d_Mo_line_0 : decode c_Mo_line 0 = .ok (.aload_n 0, 1) := by decide +kernel
theorem d_Mo_line_1 : decode c_Mo_line 1 = .ok (.iconst 3, 1) := by decide +kernel
theorem d_Mo_line_2 : decode c_Mo_line 2 = .ok (.aload_n 0, 1) := by decide +kernel
theorem d_Mo_line_3 : decode c_Mo_line 3 = .ok (.iload_n 1, 1) := by decide +kernel
theorem d_Mo_line_4 : decode c_Mo_line 4 = .ok (.invokevirtual 117, 3) := by decide +kernel
theorem d_Mo_line_7 : decode c_Mo_line 7 = .ok (.iload_n 2, 1) := by decide +kernel
theorem d_Mo_line_8 : decode c_Mo_line 8 = .ok (.invokestatic 129, 3) := by decide +kernel
theorem d_Mo_line_11 : decode c_Mo_line 11 = .ok (.ifCond .eq 30, 3) := by decide +kernel
theorem d_Mo_line_14 : decode c_Mo_line 14 = .ok (.iload_n 3, 1) := by decide +kernel
theorem d_Mo_line_15 : decode c_Mo_line 15 = .ok (.invokestatic 129, 3) := by decide +kernel
theorem d_Mo_line_18 : decode c_Mo_line 18 = .ok (.ifCond .eq 23, 3) := by decide +kernel
theorem d_Mo_line_21 : decode c_Mo_line 21 = .ok (.iload 4, 2) := by decide +kernel
theorem d_Mo_line_23 : decode c_Mo_line 23 = .ok (.invokestatic 129, 3) := by decide +kernel
theorem d_Mo_line_26 : decode c_Mo_line 26 = .ok (.ifCond .eq 15, 3) := by decide +kernel
theorem d_Mo_line_29 : decode c_Mo_line 29 = .ok (.iload 5, 2) := by decide +kernel
theorem d_Mo_line_31 : decode c_Mo_line 31 = .ok (.invokestatic 129, 3) := by decide +kernel
theorem d_Mo_line_34 : decode c_Mo_line 34 = .ok (.ifCond .eq 7, 3) := by decide +kernel
theorem d_Mo_line_37 : decode c_Mo_line 37 = .ok (.iconst 1, 1) := by decide +kernel
theorem d_Mo_line_38 : decode c_Mo_line 38 = .ok (.goto 4, 3) := by decide +kernel
theorem d_Mo_line_41 : decode c_Mo_line 41 = .ok (.iconst 0, 1) := by decide +kernel
theorem d_Mo_line_42 : decode c_Mo_line 42 = .ok (.iconst 1, 1) := by decide +kernel
theorem d_Mo_line_43 : decode c_Mo_line 43 = .ok (.iconst 1, 1) := by decide +kernel
theorem d_Mo_line_44 : decode c_Mo_line 44 = .ok (.invokevirtual 110, 3) := by decide +kernel
theorem d_Mo_line_47 : decode c_Mo_line 47 = .ok (.ifCond .ne 5, 3) := by decide +kernel
theorem d_Mo_line_50 : decode c_Mo_line 50 = .ok (.iconst 0, 1) := by decide +kernel
theorem d_Mo_line_51 : decode c_Mo_line 51 = .ok (.ireturn, 1) := by decide +kernel
theorem d_Mo_line_52 : decode c_Mo_line 52 = .ok (.aload_n 0, 1) := by decide +kernel
theorem d_Mo_line_53 : decode c_Mo_line 53 = .ok (.getfield 38, 3) := by decide +kernel
theorem d_Mo_line_56 : decode c_Mo_line 56 = .ok (.iload_n 1, 1) := by decide +kernel
theorem d_Mo_line_57 : decode c_Mo_line 57 = .ok (.iload_n 2, 1) := by decide +kernel
theorem d_Mo_line_58 : decode c_Mo_line 58 = .ok (.iastore, 1) := by decide +kernel
theorem d_Mo_line_59 : decode c_Mo_line 59 = .ok (.aload_n 0, 1) := by decide +kernel
theorem d_Mo_line_60 : decode c_Mo_line 60 = .ok (.getfield 41, 3) := by decide +kernel
theorem d_Mo_line_63 : decode c_Mo_line 63 = .ok (.iload_n 1, 1) := by decide +kernel
theorem d_Mo_line_64 : decode c_Mo_line 64 = .ok (.iload_n 3, 1) := by decide +kernel
theorem d_Mo_line_65 : decode c_Mo_line 65 = .ok (.iastore, 1) := by decide +kernel
theorem d_Mo_line_66 : decode c_Mo_line 66 = .ok (.aload_n 0, 1) := by decide +kernel
theorem d_Mo_line_67 : decode c_Mo_line 67 = .ok (.getfield 44, 3) := by decide +kernel
theorem d_Mo_line_70 : decode c_Mo_line 70 = .ok (.iload_n 1, 1) := by decide +kernel
theorem d_Mo_line_71 : decode c_Mo_line 71 = .ok (.iload 4, 2) := by decide +kernel
theorem d_Mo_line_73 : decode c_Mo_line 73 = .ok (.iload_n 2, 1) := by decide +kernel
theorem d_Mo_line_74 : decode c_Mo_line 74 = .ok (.isub, 1) := by decide +kernel
theorem d_Mo_line_75 : decode c_Mo_line 75 = .ok (.iastore, 1) := by decide +kernel
theorem d_Mo_line_76 : decode c_Mo_line 76 = .ok (.aload_n 0, 1) := by decide +kernel
theorem d_Mo_line_77 : decode c_Mo_line 77 = .ok (.getfield 47, 3) := by decide +kernel
theorem d_Mo_line_80 : decode c_Mo_line 80 = .ok (.iload_n 1, 1) := by decide +kernel
theorem d_Mo_line_81 : decode c_Mo_line 81 = .ok (.iload 5, 2) := by decide +kernel
theorem d_Mo_line_83 : decode c_Mo_line 83 = .ok (.iload_n 3, 1) := by decide +kernel
theorem d_Mo_line_84 : decode c_Mo_line 84 = .ok (.isub, 1) := by decide +kernel
theorem d_Mo_line_85 : decode c_Mo_line 85 = .ok (.iastore, 1) := by decide +kernel
theorem d_Mo_line_86 : decode c_Mo_line 86 = .ok (.aload_n 0, 1) := by decide +kernel
theorem d_Mo_line_87 : decode c_Mo_line 87 = .ok (.getfield 44, 3) := by decide +kernel
theorem d_Mo_line_90 : decode c_Mo_line 90 = .ok (.iload_n 1, 1) := by decide +kernel
theorem d_Mo_line_91 : decode c_Mo_line 91 = .ok (.iaload, 1) := by decide +kernel
theorem d_Mo_line_92 : decode c_Mo_line 92 = .ok (.i2l, 1) := by decide +kernel
theorem d_Mo_line_93 : decode c_Mo_line 93 = .ok (.aload_n 0, 1) := by decide +kernel
theorem d_Mo_line_94 : decode c_Mo_line 94 = .ok (.getfield 44, 3) := by decide +kernel
theorem d_Mo_line_97 : decode c_Mo_line 97 = .ok (.iload_n 1, 1) := by decide +kernel
theorem d_Mo_line_98 : decode c_Mo_line 98 = .ok (.iaload, 1) := by decide +kernel
theorem d_Mo_line_99 : decode c_Mo_line 99 = .ok (.i2l, 1) := by decide +kernel
theorem d_Mo_line_100 : decode c_Mo_line 100 = .ok (.lmul, 1) := by decide +kernel
theorem d_Mo_line_101 : decode c_Mo_line 101 = .ok (.aload_n 0, 1) := by decide +kernel
theorem d_Mo_line_102 : decode c_Mo_line 102 = .ok (.getfield 47, 3) := by decide +kernel
theorem d_Mo_line_105 : decode c_Mo_line 105 = .ok (.iload_n 1, 1) := by decide +kernel
theorem d_Mo_line_106 : decode c_Mo_line 106 = .ok (.iaload, 1) := by decide +kernel
theorem d_Mo_line_107 : decode c_Mo_line 107 = .ok (.i2l, 1) := by decide +kernel
theorem d_Mo_line_108 : decode c_Mo_line 108 = .ok (.aload_n 0, 1) := by decide +kernel
theorem d_Mo_line_109 : decode c_Mo_line 109 = .ok (.getfield 47, 3) := by decide +kernel
theorem d_Mo_line_112 : decode c_Mo_line 112 = .ok (.iload_n 1, 1) := by decide +kernel
theorem d_Mo_line_113 : decode c_Mo_line 113 = .ok (.iaload, 1) := by decide +kernel
theorem d_Mo_line_114 : decode c_Mo_line 114 = .ok (.i2l, 1) := by decide +kernel
theorem d_Mo_line_115 : decode c_Mo_line 115 = .ok (.lmul, 1) := by decide +kernel
theorem d_Mo_line_116 : decode c_Mo_line 116 = .ok (.ladd, 1) := by decide +kernel
theorem d_Mo_line_117 : decode c_Mo_line 117 = .ok (.lstore 6, 2) := by decide +kernel
theorem d_Mo_line_119 : decode c_Mo_line 119 = .ok (.iconst 0, 1) := by decide +kernel
theorem d_Mo_line_120 : decode c_Mo_line 120 = .ok (.istore 8, 2) := by decide +kernel
theorem d_Mo_line_122 : decode c_Mo_line 122 = .ok (.ldc 132, 2) := by decide +kernel
theorem d_Mo_line_124 : decode c_Mo_line 124 = .ok (.istore 9, 2) := by decide +kernel
theorem d_Mo_line_126 : decode c_Mo_line 126 = .ok (.iload 9, 2) := by decide +kernel
theorem d_Mo_line_128 : decode c_Mo_line 128 = .ok (.ifCond .le 38, 3) := by decide +kernel
theorem d_Mo_line_131 : decode c_Mo_line 131 = .ok (.iload 8, 2) := by decide +kernel
theorem d_Mo_line_133 : decode c_Mo_line 133 = .ok (.iload 9, 2) := by decide +kernel
theorem d_Mo_line_135 : decode c_Mo_line 135 = .ok (.iadd, 1) := by decide +kernel
theorem d_Mo_line_136 : decode c_Mo_line 136 = .ok (.i2l, 1) := by decide +kernel
theorem d_Mo_line_137 : decode c_Mo_line 137 = .ok (.iload 8, 2) := by decide +kernel
theorem d_Mo_line_139 : decode c_Mo_line 139 = .ok (.iload 9, 2) := by decide +kernel
theorem d_Mo_line_141 : decode c_Mo_line 141 = .ok (.iadd, 1) := by decide +kernel
theorem d_Mo_line_142 : decode c_Mo_line 142 = .ok (.i2l, 1) := by decide +kernel
theorem d_Mo_line_143 : decode c_Mo_line 143 = .ok (.lmul, 1) := by decide +kernel
theorem d_Mo_line_144 : decode c_Mo_line 144 = .ok (.lload 6, 2) := by decide +kernel
theorem d_Mo_line_146 : decode c_Mo_line 146 = .ok (.lcmp, 1) := by decide +kernel
theorem d_Mo_line_147 : decode c_Mo_line 147 = .ok (.ifCond .gt 10, 3) := by decide +kernel
theorem d_Mo_line_150 : decode c_Mo_line 150 = .ok (.iload 8, 2) := by decide +kernel
theorem d_Mo_line_152 : decode c_Mo_line 152 = .ok (.iload 9, 2) := by decide +kernel
theorem d_Mo_line_154 : decode c_Mo_line 154 = .ok (.iadd, 1) := by decide +kernel
theorem d_Mo_line_155 : decode c_Mo_line 155 = .ok (.istore 8, 2) := by decide +kernel
theorem d_Mo_line_157 : decode c_Mo_line 157 = .ok (.iload 9, 2) := by decide +kernel
theorem d_Mo_line_159 : decode c_Mo_line 159 = .ok (.iconst 2, 1) := by decide +kernel
theorem d_Mo_line_160 : decode c_Mo_line 160 = .ok (.idiv, 1) := by decide +kernel
theorem d_Mo_line_161 : decode c_Mo_line 161 = .ok (.istore 9, 2) := by decide +kernel
theorem d_Mo_line_163 : decode c_Mo_line 163 = .ok (.goto (-37), 3) := by decide +kernel
theorem d_Mo_line_166 : decode c_Mo_line 166 = .ok (.aload_n 0, 1) := by decide +kernel
theorem d_Mo_line_167 : decode c_Mo_line 167 = .ok (.getfield 50, 3) := by decide +kernel
theorem d_Mo_line_170 : decode c_Mo_line 170 = .ok (.iload_n 1, 1) := by decide +kernel
theorem d_Mo_line_171 : decode c_Mo_line 171 = .ok (.iload 8, 2) := by decide +kernel
theorem d_Mo_line_173 : decode c_Mo_line 173 = .ok (.iastore, 1) := by decide +kernel
theorem d_Mo_line_174 : decode c_Mo_line 174 = .ok (.aload_n 0, 1) := by decide +kernel
theorem d_Mo_line_175 : decode c_Mo_line 175 = .ok (.iconst 0, 1) := by decide +kernel
theorem d_Mo_line_176 : decode c_Mo_line 176 = .ok (.putfield 114, 3) := by decide +kernel
theorem d_Mo_line_179 : decode c_Mo_line 179 = .ok (.iload 8, 2) := by decide +kernel
theorem d_Mo_line_181 : decode c_Mo_line 181 = .ok (.ireturn, 1) := by decide +kernel
theorem d_Mo_close_0 : decode c_Mo_close 0 = .ok (.aload_n 0, 1) := by decide +kernel
theorem d_Mo_close_1 : decode c_Mo_close 1 = .ok (.iconst 1, 1) := by decide +kernel
theorem d_Mo_close_2 : decode c_Mo_close 2 = .ok (.aload_n 0, 1) := by decide +kernel
theorem d_Mo_close_3 : decode c_Mo_close 3 = .ok (.iload_n 1, 1) := by decide +kernel
theorem d_Mo_close_4 : decode c_Mo_close 4 = .ok (.invokevirtual 117, 3) := by decide +kernel
theorem d_Mo_close_7 : decode c_Mo_close 7 = .ok (.iconst 1, 1) := by decide +kernel
theorem d_Mo_close_8 : decode c_Mo_close 8 = .ok (.iconst 1, 1) := by decide +kernel
theorem d_Mo_close_9 : decode c_Mo_close 9 = .ok (.iconst 1, 1) := by decide +kernel
theorem d_Mo_close_10 : decode c_Mo_close 10 = .ok (.invokevirtual 110, 3) := by decide +kernel
theorem d_Mo_close_13 : decode c_Mo_close 13 = .ok (.ifCond .ne 4, 3) := by decide +kernel
theorem d_Mo_close_16 : decode c_Mo_close 16 = .ok (.return_, 1) := by decide +kernel
theorem d_Mo_close_17 : decode c_Mo_close 17 = .ok (.aload_n 0, 1) := by decide +kernel
theorem d_Mo_close_18 : decode c_Mo_close 18 = .ok (.getfield 13, 3) := by decide +kernel
theorem d_Mo_close_21 : decode c_Mo_close 21 = .ok (.iload_n 1, 1) := by decide +kernel
theorem d_Mo_close_22 : decode c_Mo_close 22 = .ok (.iload_n 2, 1) := by decide +kernel
theorem d_Mo_close_23 : decode c_Mo_close 23 = .ok (.bastore, 1) := by decide +kernel
theorem d_Mo_close_24 : decode c_Mo_close 24 = .ok (.aload_n 0, 1) := by decide +kernel
theorem d_Mo_close_25 : decode c_Mo_close 25 = .ok (.iconst 0, 1) := by decide +kernel
theorem d_Mo_close_26 : decode c_Mo_close 26 = .ok (.putfield 114, 3) := by decide +kernel
theorem d_Mo_close_29 : decode c_Mo_close 29 = .ok (.return_, 1) := by decide +kernel
theorem d_Mo_hasMark_0 : decode c_Mo_hasMark 0 = .ok (.iconst 0, 1) := by decide +kernel
theorem d_Mo_hasMark_1 : decode c_Mo_hasMark 1 = .ok (.istore 4, 2) := by decide +kernel
theorem d_Mo_hasMark_3 : decode c_Mo_hasMark 3 = .ok (.iload 4, 2) := by decide +kernel
theorem d_Mo_hasMark_5 : decode c_Mo_hasMark 5 = .ok (.aload_n 0, 1) := by decide +kernel
theorem d_Mo_hasMark_6 : decode c_Mo_hasMark 6 = .ok (.getfield 133, 3) := by decide +kernel
theorem d_Mo_hasMark_9 : decode c_Mo_hasMark 9 = .ok (.if_icmp .ge 84, 3) := by decide +kernel
theorem d_Mo_hasMark_12 : decode c_Mo_hasMark 12 = .ok (.aload_n 0, 1) := by decide +kernel
theorem d_Mo_hasMark_13 : decode c_Mo_hasMark 13 = .ok (.getfield 59, 3) := by decide +kernel
theorem d_Mo_hasMark_16 : decode c_Mo_hasMark 16 = .ok (.iload 4, 2) := by decide +kernel
theorem d_Mo_hasMark_18 : decode c_Mo_hasMark 18 = .ok (.iaload, 1) := by decide +kernel
theorem d_Mo_hasMark_19 : decode c_Mo_hasMark 19 = .ok (.iload_n 3, 1) := by decide +kernel
theorem d_Mo_hasMark_20 : decode c_Mo_hasMark 20 = .ok (.if_icmp .ne 7, 3) := by decide +kernel
theorem d_Mo_hasMark_23 : decode c_Mo_hasMark 23 = .ok (.iconst 1, 1) := by decide +kernel
theorem d_Mo_hasMark_24 : decode c_Mo_hasMark 24 = .ok (.goto 4, 3) := by decide +kernel
theorem d_Mo_hasMark_27 : decode c_Mo_hasMark 27 = .ok (.iconst 0, 1) := by decide +kernel
theorem d_Mo_hasMark_28 : decode c_Mo_hasMark 28 = .ok (.istore 5, 2) := by decide +kernel
theorem d_Mo_hasMark_30 : decode c_Mo_hasMark 30 = .ok (.iconst 0, 1) := by decide +kernel
theorem d_Mo_hasMark_31 : decode c_Mo_hasMark 31 = .ok (.istore 6, 2) := by decide +kernel
theorem d_Mo_hasMark_33 : decode c_Mo_hasMark 33 = .ok (.iload 6, 2) := by decide +kernel
theorem d_Mo_hasMark_35 : decode c_Mo_hasMark 35 = .ok (.iload_n 3, 1) := by decide +kernel
theorem d_Mo_hasMark_36 : decode c_Mo_hasMark 36 = .ok (.if_icmp .ge 44, 3) := by decide +kernel
theorem d_Mo_hasMark_39 : decode c_Mo_hasMark 39 = .ok (.iload 5, 2) := by decide +kernel
theorem d_Mo_hasMark_41 : decode c_Mo_hasMark 41 = .ok (.ifCond .eq 39, 3) := by decide +kernel
theorem d_Mo_hasMark_44 : decode c_Mo_hasMark 44 = .ok (.aload_n 0, 1) := by decide +kernel
theorem d_Mo_hasMark_45 : decode c_Mo_hasMark 45 = .ok (.getfield 62, 3) := by decide +kernel
theorem d_Mo_hasMark_48 : decode c_Mo_hasMark 48 = .ok (.iload 4, 2) := by decide +kernel
theorem d_Mo_hasMark_50 : decode c_Mo_hasMark 50 = .ok (.bipush 8, 2) := by decide +kernel
theorem d_Mo_hasMark_52 : decode c_Mo_hasMark 52 = .ok (.imul, 1) := by decide +kernel
theorem d_Mo_hasMark_53 : decode c_Mo_hasMark 53 = .ok (.iload 6, 2) := by decide +kernel
theorem d_Mo_hasMark_55 : decode c_Mo_hasMark 55 = .ok (.iadd, 1) := by decide +kernel
theorem d_Mo_hasMark_56 : decode c_Mo_hasMark 56 = .ok (.iaload, 1) := by decide +kernel
theorem d_Mo_hasMark_57 : decode c_Mo_hasMark 57 = .ok (.lload_n 1, 1) := by decide +kernel
theorem d_Mo_hasMark_58 : decode c_Mo_hasMark 58 = .ok (.iload_n 3, 1) := by decide +kernel
theorem d_Mo_hasMark_59 : decode c_Mo_hasMark 59 = .ok (.iload 6, 2) := by decide +kernel
theorem d_Mo_hasMark_61 : decode c_Mo_hasMark 61 = .ok (.invokestatic 106, 3) := by decide +kernel
theorem d_Mo_hasMark_64 : decode c_Mo_hasMark 64 = .ok (.if_icmp .ne 7, 3) := by decide +kernel
theorem d_Mo_hasMark_67 : decode c_Mo_hasMark 67 = .ok (.iconst 1, 1) := by decide +kernel
theorem d_Mo_hasMark_68 : decode c_Mo_hasMark 68 = .ok (.goto 4, 3) := by decide +kernel
theorem d_Mo_hasMark_71 : decode c_Mo_hasMark 71 = .ok (.iconst 0, 1) := by decide +kernel
theorem d_Mo_hasMark_72 : decode c_Mo_hasMark 72 = .ok (.istore 5, 2) := by decide +kernel
theorem d_Mo_hasMark_74 : decode c_Mo_hasMark 74 = .ok (.iinc 6 1, 3) := by decide +kernel
theorem d_Mo_hasMark_77 : decode c_Mo_hasMark 77 = .ok (.goto (-44), 3) := by decide +kernel
theorem d_Mo_hasMark_80 : decode c_Mo_hasMark 80 = .ok (.iload 5, 2) := by decide +kernel
theorem d_Mo_hasMark_82 : decode c_Mo_hasMark 82 = .ok (.ifCond .eq 5, 3) := by decide +kernel
theorem d_Mo_hasMark_85 : decode c_Mo_hasMark 85 = .ok (.iconst 1, 1) := by decide +kernel
theorem d_Mo_hasMark_86 : decode c_Mo_hasMark 86 = .ok (.ireturn, 1) := by decide +kernel
theorem d_Mo_hasMark_87 : decode c_Mo_hasMark 87 = .ok (.iinc 4 1, 3) := by decide +kernel
theorem d_Mo_hasMark_90 : decode c_Mo_hasMark 90 = .ok (.goto (-87), 3) := by decide +kernel
theorem d_Mo_hasMark_93 : decode c_Mo_hasMark 93 = .ok (.iconst 0, 1) := by decide +kernel
theorem d_Mo_hasMark_94 : decode c_Mo_hasMark 94 = .ok (.ireturn, 1) := by decide +kernel
theorem d_Mo_landmark_0 : decode c_Mo_landmark 0 = .ok (.iload_n 2, 1) := by decide +kernel
theorem d_Mo_landmark_1 : decode c_Mo_landmark 1 = .ok (.iconst 1, 1) := by decide +kernel
theorem d_Mo_landmark_2 : decode c_Mo_landmark 2 = .ok (.sipush 9999, 3) := by decide +kernel
theorem d_Mo_landmark_5 : decode c_Mo_landmark 5 = .ok (.invokestatic 102, 3) := by decide +kernel
theorem d_Mo_landmark_8 : decode c_Mo_landmark 8 = .ok (.ifCond .eq 42, 3) := by decide +kernel
theorem d_Mo_landmark_11 : decode c_Mo_landmark 11 = .ok (.iload 5, 2) := by decide +kernel
theorem d_Mo_landmark_13 : decode c_Mo_landmark 13 = .ok (.iconst 1, 1) := by decide +kernel
theorem d_Mo_landmark_14 : decode c_Mo_landmark 14 = .ok (.bipush 8, 2) := by decide +kernel
theorem d_Mo_landmark_16 : decode c_Mo_landmark 16 = .ok (.invokestatic 102, 3) := by decide +kernel
theorem d_Mo_landmark_19 : decode c_Mo_landmark 19 = .ok (.ifCond .eq 31, 3) := by decide +kernel
theorem d_Mo_landmark_22 : decode c_Mo_landmark 22 = .ok (.lload_n 3, 1) := by decide +kernel
theorem d_Mo_landmark_23 : decode c_Mo_landmark 23 = .ok (.iload 5, 2) := by decide +kernel
theorem d_Mo_landmark_25 : decode c_Mo_landmark 25 = .ok (.iconst 1, 1) := by decide +kernel
theorem d_Mo_landmark_26 : decode c_Mo_landmark 26 = .ok (.bipush 8, 2) := by decide +kernel
theorem d_Mo_landmark_28 : decode c_Mo_landmark 28 = .ok (.invokestatic 102, 3) := by decide +kernel
theorem d_Mo_landmark_31 : decode c_Mo_landmark 31 = .ok (.ifCond .eq 8, 3) := by decide +kernel
theorem d_Mo_landmark_34 : decode c_Mo_landmark 34 = .ok (.iload 5, 2) := by decide +kernel
theorem d_Mo_landmark_36 : decode c_Mo_landmark 36 = .ok (.goto 4, 3) := by decide +kernel
theorem d_Mo_landmark_39 : decode c_Mo_landmark 39 = .ok (.iconst 0, 1) := by decide +kernel
theorem d_Mo_landmark_40 : decode c_Mo_landmark 40 = .ok (.invokestatic 121, 3) := by decide +kernel
theorem d_Mo_landmark_43 : decode c_Mo_landmark 43 = .ok (.ifCond .eq 7, 3) := by decide +kernel
theorem d_Mo_landmark_46 : decode c_Mo_landmark 46 = .ok (.iconst 1, 1) := by decide +kernel
theorem d_Mo_landmark_47 : decode c_Mo_landmark 47 = .ok (.goto 4, 3) := by decide +kernel
theorem d_Mo_landmark_50 : decode c_Mo_landmark 50 = .ok (.iconst 0, 1) := by decide +kernel
theorem d_Mo_landmark_51 : decode c_Mo_landmark 51 = .ok (.istore 6, 2) := by decide +kernel
theorem d_Mo_landmark_53 : decode c_Mo_landmark 53 = .ok (.aload_n 0, 1) := by decide +kernel
theorem d_Mo_landmark_54 : decode c_Mo_landmark 54 = .ok (.bipush 15, 2) := by decide +kernel
theorem d_Mo_landmark_56 : decode c_Mo_landmark 56 = .ok (.aload_n 0, 1) := by decide +kernel
theorem d_Mo_landmark_57 : decode c_Mo_landmark 57 = .ok (.iload_n 1, 1) := by decide +kernel
theorem d_Mo_landmark_58 : decode c_Mo_landmark 58 = .ok (.invokevirtual 117, 3) := by decide +kernel
theorem d_Mo_landmark_61 : decode c_Mo_landmark 61 = .ok (.iload 6, 2) := by decide +kernel
theorem d_Mo_landmark_63 : decode c_Mo_landmark 63 = .ok (.iload 6, 2) := by decide +kernel
theorem d_Mo_landmark_65 : decode c_Mo_landmark 65 = .ok (.ifCond .eq 17, 3) := by decide +kernel
theorem d_Mo_landmark_68 : decode c_Mo_landmark 68 = .ok (.aload_n 0, 1) := by decide +kernel
theorem d_Mo_landmark_69 : decode c_Mo_landmark 69 = .ok (.lload_n 3, 1) := by decide +kernel
theorem d_Mo_landmark_70 : decode c_Mo_landmark 70 = .ok (.iload 5, 2) := by decide +kernel
theorem d_Mo_landmark_72 : decode c_Mo_landmark 72 = .ok (.invokevirtual 136, 3) := by decide +kernel
theorem d_Mo_landmark_75 : decode c_Mo_landmark 75 = .ok (.ifCond .ne 7, 3) := by decide +kernel
theorem d_Mo_landmark_78 : decode c_Mo_landmark 78 = .ok (.iconst 1, 1) := by decide +kernel
theorem d_Mo_landmark_79 : decode c_Mo_landmark 79 = .ok (.goto 4, 3) := by decide +kernel
theorem d_Mo_landmark_82 : decode c_Mo_landmark 82 = .ok (.iconst 0, 1) := by decide +kernel
theorem d_Mo_landmark_83 : decode c_Mo_landmark 83 = .ok (.aload_n 0, 1) := by decide +kernel
theorem d_Mo_landmark_84 : decode c_Mo_landmark 84 = .ok (.getfield 133, 3) := by decide +kernel
theorem d_Mo_landmark_87 : decode c_Mo_landmark 87 = .ok (.bipush 20, 2) := by decide +kernel
theorem d_Mo_landmark_89 : decode c_Mo_landmark 89 = .ok (.if_icmp .ge 7, 3) := by decide +kernel
theorem d_Mo_landmark_92 : decode c_Mo_landmark 92 = .ok (.iconst 1, 1) := by decide +kernel
theorem d_Mo_landmark_93 : decode c_Mo_landmark 93 = .ok (.goto 4, 3) := by decide +kernel
theorem d_Mo_landmark_96 : decode c_Mo_landmark 96 = .ok (.iconst 0, 1) := by decide +kernel
theorem d_Mo_landmark_97 : decode c_Mo_landmark 97 = .ok (.invokevirtual 110, 3) := by decide +kernel
theorem d_Mo_landmark_100 : decode c_Mo_landmark 100 = .ok (.ifCond .ne 5, 3) := by decide +kernel
theorem d_Mo_landmark_103 : decode c_Mo_landmark 103 = .ok (.iconst 0, 1) := by decide +kernel
theorem d_Mo_landmark_104 : decode c_Mo_landmark 104 = .ok (.ireturn, 1) := by decide +kernel
theorem d_Mo_landmark_105 : decode c_Mo_landmark 105 = .ok (.aload_n 0, 1) := by decide +kernel
theorem d_Mo_landmark_106 : decode c_Mo_landmark 106 = .ok (.getfield 53, 3) := by decide +kernel
theorem d_Mo_landmark_109 : decode c_Mo_landmark 109 = .ok (.aload_n 0, 1) := by decide +kernel
theorem d_Mo_landmark_110 : decode c_Mo_landmark 110 = .ok (.getfield 133, 3) := by decide +kernel
theorem d_Mo_landmark_113 : decode c_Mo_landmark 113 = .ok (.iload_n 1, 1) := by decide +kernel
theorem d_Mo_landmark_114 : decode c_Mo_landmark 114 = .ok (.iastore, 1) := by decide +kernel
theorem d_Mo_landmark_115 : decode c_Mo_landmark 115 = .ok (.aload_n 0, 1) := by decide +kernel
theorem d_Mo_landmark_116 : decode c_Mo_landmark 116 = .ok (.getfield 56, 3) := by decide +kernel
theorem d_Mo_landmark_119 : decode c_Mo_landmark 119 = .ok (.aload_n 0, 1) := by decide +kernel
theorem d_Mo_landmark_120 : decode c_Mo_landmark 120 = .ok (.getfield 133, 3) := by decide +kernel
theorem d_Mo_landmark_123 : decode c_Mo_landmark 123 = .ok (.iload_n 2, 1) := by decide +kernel
theorem d_Mo_landmark_124 : decode c_Mo_landmark 124 = .ok (.iastore, 1) := by decide +kernel
theorem d_Mo_landmark_125 : decode c_Mo_landmark 125 = .ok (.aload_n 0, 1) := by decide +kernel
theorem d_Mo_landmark_126 : decode c_Mo_landmark 126 = .ok (.getfield 59, 3) := by decide +kernel
theorem d_Mo_landmark_129 : decode c_Mo_landmark 129 = .ok (.aload_n 0, 1) := by decide +kernel
theorem d_Mo_landmark_130 : decode c_Mo_landmark 130 = .ok (.getfield 133, 3) := by decide +kernel
theorem d_Mo_landmark_133 : decode c_Mo_landmark 133 = .ok (.iload 5, 2) := by decide +kernel
theorem d_Mo_landmark_135 : decode c_Mo_landmark 135 = .ok (.iastore, 1) := by decide +kernel
theorem d_Mo_landmark_136 : decode c_Mo_landmark 136 = .ok (.iconst 0, 1) := by decide +kernel
theorem d_Mo_landmark_137 : decode c_Mo_landmark 137 = .ok (.istore 7, 2) := by decide +kernel
theorem d_Mo_landmark_139 : decode c_Mo_landmark 139 = .ok (.iload 7, 2) := by decide +kernel
theorem d_Mo_landmark_141 : decode c_Mo_landmark 141 = .ok (.iload 5, 2) := by decide +kernel
theorem d_Mo_landmark_143 : decode c_Mo_landmark 143 = .ok (.if_icmp .ge 32, 3) := by decide +kernel
theorem d_Mo_landmark_146 : decode c_Mo_landmark 146 = .ok (.aload_n 0, 1) := by decide +kernel
theorem d_Mo_landmark_147 : decode c_Mo_landmark 147 = .ok (.getfield 62, 3) := by decide +kernel
theorem d_Mo_landmark_150 : decode c_Mo_landmark 150 = .ok (.aload_n 0, 1) := by decide +kernel
theorem d_Mo_landmark_151 : decode c_Mo_landmark 151 = .ok (.getfield 133, 3) := by decide +kernel
theorem d_Mo_landmark_154 : decode c_Mo_landmark 154 = .ok (.bipush 8, 2) := by decide +kernel
theorem d_Mo_landmark_156 : decode c_Mo_landmark 156 = .ok (.imul, 1) := by decide +kernel
theorem d_Mo_landmark_157 : decode c_Mo_landmark 157 = .ok (.iload 7, 2) := by decide +kernel
theorem d_Mo_landmark_159 : decode c_Mo_landmark 159 = .ok (.iadd, 1) := by decide +kernel
theorem d_Mo_landmark_160 : decode c_Mo_landmark 160 = .ok (.lload_n 3, 1) := by decide +kernel
theorem d_Mo_landmark_161 : decode c_Mo_landmark 161 = .ok (.iload 5, 2) := by decide +kernel
theorem d_Mo_landmark_163 : decode c_Mo_landmark 163 = .ok (.iload 7, 2) := by decide +kernel
theorem d_Mo_landmark_165 : decode c_Mo_landmark 165 = .ok (.invokestatic 106, 3) := by decide +kernel
theorem d_Mo_landmark_168 : decode c_Mo_landmark 168 = .ok (.iastore, 1) := by decide +kernel
theorem d_Mo_landmark_169 : decode c_Mo_landmark 169 = .ok (.iinc 7 1, 3) := by decide +kernel
theorem d_Mo_landmark_172 : decode c_Mo_landmark 172 = .ok (.goto (-33), 3) := by decide +kernel
theorem d_Mo_landmark_175 : decode c_Mo_landmark 175 = .ok (.aload_n 0, 1) := by decide +kernel
theorem d_Mo_landmark_176 : decode c_Mo_landmark 176 = .ok (.dup, 1) := by decide +kernel
theorem d_Mo_landmark_177 : decode c_Mo_landmark 177 = .ok (.getfield 133, 3) := by decide +kernel
theorem d_Mo_landmark_180 : decode c_Mo_landmark 180 = .ok (.iconst 1, 1) := by decide +kernel
theorem d_Mo_landmark_181 : decode c_Mo_landmark 181 = .ok (.iadd, 1) := by decide +kernel
theorem d_Mo_landmark_182 : decode c_Mo_landmark 182 = .ok (.putfield 133, 3) := by decide +kernel
theorem d_Mo_landmark_185 : decode c_Mo_landmark 185 = .ok (.aload_n 0, 1) := by decide +kernel
theorem d_Mo_landmark_186 : decode c_Mo_landmark 186 = .ok (.iconst 0, 1) := by decide +kernel
theorem d_Mo_landmark_187 : decode c_Mo_landmark 187 = .ok (.putfield 114, 3) := by decide +kernel
theorem d_Mo_landmark_190 : decode c_Mo_landmark 190 = .ok (.aload_n 0, 1) := by decide +kernel
theorem d_Mo_landmark_191 : decode c_Mo_landmark 191 = .ok (.getfield 133, 3) := by decide +kernel
theorem d_Mo_landmark_194 : decode c_Mo_landmark 194 = .ok (.iconst 1, 1) := by decide +kernel
theorem d_Mo_landmark_195 : decode c_Mo_landmark 195 = .ok (.isub, 1) := by decide +kernel
theorem d_Mo_landmark_196 : decode c_Mo_landmark 196 = .ok (.ireturn, 1) := by decide +kernel
theorem d_Mo_cornerOf_0 : decode c_Mo_cornerOf 0 = .ok (.iconst 0, 1) := by decide +kernel
theorem d_Mo_cornerOf_1 : decode c_Mo_cornerOf 1 = .ok (.istore_n 3, 1) := by decide +kernel
theorem d_Mo_cornerOf_2 : decode c_Mo_cornerOf 2 = .ok (.iload_n 3, 1) := by decide +kernel
theorem d_Mo_cornerOf_3 : decode c_Mo_cornerOf 3 = .ok (.aload_n 0, 1) := by decide +kernel
theorem d_Mo_cornerOf_4 : decode c_Mo_cornerOf 4 = .ok (.getfield 139, 3) := by decide +kernel
theorem d_Mo_cornerOf_7 : decode c_Mo_cornerOf 7 = .ok (.if_icmp .ge 63, 3) := by decide +kernel
theorem d_Mo_cornerOf_10 : decode c_Mo_cornerOf 10 = .ok (.aload_n 0, 1) := by decide +kernel
theorem d_Mo_cornerOf_11 : decode c_Mo_cornerOf 11 = .ok (.getfield 65, 3) := by decide +kernel
theorem d_Mo_cornerOf_14 : decode c_Mo_cornerOf 14 = .ok (.iload_n 3, 1) := by decide +kernel
theorem d_Mo_cornerOf_15 : decode c_Mo_cornerOf 15 = .ok (.iaload, 1) := by decide +kernel
theorem d_Mo_cornerOf_16 : decode c_Mo_cornerOf 16 = .ok (.iload_n 1, 1) := by decide +kernel
theorem d_Mo_cornerOf_17 : decode c_Mo_cornerOf 17 = .ok (.if_icmp .ne 20, 3) := by decide +kernel
theorem d_Mo_cornerOf_20 : decode c_Mo_cornerOf 20 = .ok (.aload_n 0, 1) := by decide +kernel
theorem d_Mo_cornerOf_21 : decode c_Mo_cornerOf 21 = .ok (.getfield 68, 3) := by decide +kernel
theorem d_Mo_cornerOf_24 : decode c_Mo_cornerOf 24 = .ok (.iload_n 3, 1) := by decide +kernel
theorem d_Mo_cornerOf_25 : decode c_Mo_cornerOf 25 = .ok (.iaload, 1) := by decide +kernel
theorem d_Mo_cornerOf_26 : decode c_Mo_cornerOf 26 = .ok (.iload_n 2, 1) := by decide +kernel
theorem d_Mo_cornerOf_27 : decode c_Mo_cornerOf 27 = .ok (.if_icmp .ne 10, 3) := by decide +kernel
theorem d_Mo_cornerOf_30 : decode c_Mo_cornerOf 30 = .ok (.aload_n 0, 1) := by decide +kernel
theorem d_Mo_cornerOf_31 : decode c_Mo_cornerOf 31 = .ok (.getfield 71, 3) := by decide +kernel
theorem d_Mo_cornerOf_34 : decode c_Mo_cornerOf 34 = .ok (.iload_n 3, 1) := by decide +kernel
theorem d_Mo_cornerOf_35 : decode c_Mo_cornerOf 35 = .ok (.iaload, 1) := by decide +kernel
theorem d_Mo_cornerOf_36 : decode c_Mo_cornerOf 36 = .ok (.ireturn, 1) := by decide +kernel
theorem d_Mo_cornerOf_37 : decode c_Mo_cornerOf 37 = .ok (.aload_n 0, 1) := by decide +kernel
theorem d_Mo_cornerOf_38 : decode c_Mo_cornerOf 38 = .ok (.getfield 65, 3) := by decide +kernel
theorem d_Mo_cornerOf_41 : decode c_Mo_cornerOf 41 = .ok (.iload_n 3, 1) := by decide +kernel
theorem d_Mo_cornerOf_42 : decode c_Mo_cornerOf 42 = .ok (.iaload, 1) := by decide +kernel
theorem d_Mo_cornerOf_43 : decode c_Mo_cornerOf 43 = .ok (.iload_n 2, 1) := by decide +kernel
theorem d_Mo_cornerOf_44 : decode c_Mo_cornerOf 44 = .ok (.if_icmp .ne 20, 3) := by decide +kernel
theorem d_Mo_cornerOf_47 : decode c_Mo_cornerOf 47 = .ok (.aload_n 0, 1) := by decide +kernel
theorem d_Mo_cornerOf_48 : decode c_Mo_cornerOf 48 = .ok (.getfield 68, 3) := by decide +kernel
theorem d_Mo_cornerOf_51 : decode c_Mo_cornerOf 51 = .ok (.iload_n 3, 1) := by decide +kernel
theorem d_Mo_cornerOf_52 : decode c_Mo_cornerOf 52 = .ok (.iaload, 1) := by decide +kernel
theorem d_Mo_cornerOf_53 : decode c_Mo_cornerOf 53 = .ok (.iload_n 1, 1) := by decide +kernel
theorem d_Mo_cornerOf_54 : decode c_Mo_cornerOf 54 = .ok (.if_icmp .ne 10, 3) := by decide +kernel
theorem d_Mo_cornerOf_57 : decode c_Mo_cornerOf 57 = .ok (.aload_n 0, 1) := by decide +kernel
theorem d_Mo_cornerOf_58 : decode c_Mo_cornerOf 58 = .ok (.getfield 74, 3) := by decide +kernel
theorem d_Mo_cornerOf_61 : decode c_Mo_cornerOf 61 = .ok (.iload_n 3, 1) := by decide +kernel
theorem d_Mo_cornerOf_62 : decode c_Mo_cornerOf 62 = .ok (.iaload, 1) := by decide +kernel
theorem d_Mo_cornerOf_63 : decode c_Mo_cornerOf 63 = .ok (.ireturn, 1) := by decide +kernel
theorem d_Mo_cornerOf_64 : decode c_Mo_cornerOf 64 = .ok (.iinc 3 1, 3) := by decide +kernel
theorem d_Mo_cornerOf_67 : decode c_Mo_cornerOf 67 = .ok (.goto (-65), 3) := by decide +kernel
theorem d_Mo_cornerOf_70 : decode c_Mo_cornerOf 70 = .ok (.iconst (-1), 1) := by decide +kernel
theorem d_Mo_cornerOf_71 : decode c_Mo_cornerOf 71 = .ok (.ireturn, 1) := by decide +kernel
theorem d_Mo_meet_0 : decode c_Mo_meet 0 = .ok (.aload_n 0, 1) := by decide +kernel
theorem d_Mo_meet_1 : decode c_Mo_meet 1 = .ok (.iload_n 1, 1) := by decide +kernel
theorem d_Mo_meet_2 : decode c_Mo_meet 2 = .ok (.invokevirtual 117, 3) := by decide +kernel
theorem d_Mo_meet_5 : decode c_Mo_meet 5 = .ok (.ifCond .eq 15, 3) := by decide +kernel
theorem d_Mo_meet_8 : decode c_Mo_meet 8 = .ok (.aload_n 0, 1) := by decide +kernel
theorem d_Mo_meet_9 : decode c_Mo_meet 9 = .ok (.iload_n 2, 1) := by decide +kernel
theorem d_Mo_meet_10 : decode c_Mo_meet 10 = .ok (.invokevirtual 117, 3) := by decide +kernel
theorem d_Mo_meet_13 : decode c_Mo_meet 13 = .ok (.ifCond .eq 7, 3) := by decide +kernel
theorem d_Mo_meet_16 : decode c_Mo_meet 16 = .ok (.iconst 1, 1) := by decide +kernel
theorem d_Mo_meet_17 : decode c_Mo_meet 17 = .ok (.goto 4, 3) := by decide +kernel
theorem d_Mo_meet_20 : decode c_Mo_meet 20 = .ok (.iconst 0, 1) := by decide +kernel
theorem d_Mo_meet_21 : decode c_Mo_meet 21 = .ok (.istore 5, 2) := by decide +kernel
theorem d_Mo_meet_23 : decode c_Mo_meet 23 = .ok (.iload 5, 2) := by decide +kernel
theorem d_Mo_meet_25 : decode c_Mo_meet 25 = .ok (.ifCond .eq 36, 3) := by decide +kernel
theorem d_Mo_meet_28 : decode c_Mo_meet 28 = .ok (.iload_n 3, 1) := by decide +kernel
theorem d_Mo_meet_29 : decode c_Mo_meet 29 = .ok (.iconst 0, 1) := by decide +kernel
theorem d_Mo_meet_30 : decode c_Mo_meet 30 = .ok (.aload_n 0, 1) := by decide +kernel
theorem d_Mo_meet_31 : decode c_Mo_meet 31 = .ok (.getfield 50, 3) := by decide +kernel
theorem d_Mo_meet_34 : decode c_Mo_meet 34 = .ok (.iload_n 1, 1) := by decide +kernel
theorem d_Mo_meet_35 : decode c_Mo_meet 35 = .ok (.iaload, 1) := by decide +kernel
theorem d_Mo_meet_36 : decode c_Mo_meet 36 = .ok (.invokestatic 102, 3) := by decide +kernel
theorem d_Mo_meet_39 : decode c_Mo_meet 39 = .ok (.ifCond .eq 22, 3) := by decide +kernel
theorem d_Mo_meet_42 : decode c_Mo_meet 42 = .ok (.iload 4, 2) := by decide +kernel
theorem d_Mo_meet_44 : decode c_Mo_meet 44 = .ok (.iconst 0, 1) := by decide +kernel
theorem d_Mo_meet_45 : decode c_Mo_meet 45 = .ok (.aload_n 0, 1) := by decide +kernel
theorem d_Mo_meet_46 : decode c_Mo_meet 46 = .ok (.getfield 50, 3) := by decide +kernel
theorem d_Mo_meet_49 : decode c_Mo_meet 49 = .ok (.iload_n 2, 1) := by decide +kernel
theorem d_Mo_meet_50 : decode c_Mo_meet 50 = .ok (.iaload, 1) := by decide +kernel
theorem d_Mo_meet_51 : decode c_Mo_meet 51 = .ok (.invokestatic 102, 3) := by decide +kernel
theorem d_Mo_meet_54 : decode c_Mo_meet 54 = .ok (.ifCond .eq 7, 3) := by decide +kernel
theorem d_Mo_meet_57 : decode c_Mo_meet 57 = .ok (.iconst 1, 1) := by decide +kernel
theorem d_Mo_meet_58 : decode c_Mo_meet 58 = .ok (.goto 4, 3) := by decide +kernel
theorem d_Mo_meet_61 : decode c_Mo_meet 61 = .ok (.iconst 0, 1) := by decide +kernel
theorem d_Mo_meet_62 : decode c_Mo_meet 62 = .ok (.istore 6, 2) := by decide +kernel
theorem d_Mo_meet_64 : decode c_Mo_meet 64 = .ok (.aload_n 0, 1) := by decide +kernel
theorem d_Mo_meet_65 : decode c_Mo_meet 65 = .ok (.bipush 15, 2) := by decide +kernel
theorem d_Mo_meet_67 : decode c_Mo_meet 67 = .ok (.iload 5, 2) := by decide +kernel
theorem d_Mo_meet_69 : decode c_Mo_meet 69 = .ok (.iload 6, 2) := by decide +kernel
theorem d_Mo_meet_71 : decode c_Mo_meet 71 = .ok (.iload_n 1, 1) := by decide +kernel
theorem d_Mo_meet_72 : decode c_Mo_meet 72 = .ok (.iload_n 2, 1) := by decide +kernel
theorem d_Mo_meet_73 : decode c_Mo_meet 73 = .ok (.if_icmp .eq 16, 3) := by decide +kernel
theorem d_Mo_meet_76 : decode c_Mo_meet 76 = .ok (.aload_n 0, 1) := by decide +kernel
theorem d_Mo_meet_77 : decode c_Mo_meet 77 = .ok (.iload_n 1, 1) := by decide +kernel
theorem d_Mo_meet_78 : decode c_Mo_meet 78 = .ok (.iload_n 2, 1) := by decide +kernel
theorem d_Mo_meet_79 : decode c_Mo_meet 79 = .ok (.invokevirtual 142, 3) := by decide +kernel
theorem d_Mo_meet_82 : decode c_Mo_meet 82 = .ok (.ifCond .ge 7, 3) := by decide +kernel
theorem d_Mo_meet_85 : decode c_Mo_meet 85 = .ok (.iconst 1, 1) := by decide +kernel
theorem d_Mo_meet_86 : decode c_Mo_meet 86 = .ok (.goto 4, 3) := by decide +kernel
theorem d_Mo_meet_89 : decode c_Mo_meet 89 = .ok (.iconst 0, 1) := by decide +kernel
theorem d_Mo_meet_90 : decode c_Mo_meet 90 = .ok (.aload_n 0, 1) := by decide +kernel
theorem d_Mo_meet_91 : decode c_Mo_meet 91 = .ok (.getfield 139, 3) := by decide +kernel
theorem d_Mo_meet_94 : decode c_Mo_meet 94 = .ok (.bipush 40, 2) := by decide +kernel
theorem d_Mo_meet_96 : decode c_Mo_meet 96 = .ok (.if_icmp .ge 7, 3) := by decide +kernel
theorem d_Mo_meet_99 : decode c_Mo_meet 99 = .ok (.iconst 1, 1) := by decide +kernel
theorem d_Mo_meet_100 : decode c_Mo_meet 100 = .ok (.goto 4, 3) := by decide +kernel
theorem d_Mo_meet_103 : decode c_Mo_meet 103 = .ok (.iconst 0, 1) := by decide +kernel
theorem d_Mo_meet_104 : decode c_Mo_meet 104 = .ok (.invokevirtual 110, 3) := by decide +kernel
theorem d_Mo_meet_107 : decode c_Mo_meet 107 = .ok (.ifCond .ne 4, 3) := by decide +kernel
theorem d_Mo_meet_110 : decode c_Mo_meet 110 = .ok (.return_, 1) := by decide +kernel
theorem d_Mo_meet_111 : decode c_Mo_meet 111 = .ok (.aload_n 0, 1) := by decide +kernel
theorem d_Mo_meet_112 : decode c_Mo_meet 112 = .ok (.getfield 65, 3) := by decide +kernel
theorem d_Mo_meet_115 : decode c_Mo_meet 115 = .ok (.aload_n 0, 1) := by decide +kernel
theorem d_Mo_meet_116 : decode c_Mo_meet 116 = .ok (.getfield 139, 3) := by decide +kernel
theorem d_Mo_meet_119 : decode c_Mo_meet 119 = .ok (.iload_n 1, 1) := by decide +kernel
theorem d_Mo_meet_120 : decode c_Mo_meet 120 = .ok (.iastore, 1) := by decide +kernel
theorem d_Mo_meet_121 : decode c_Mo_meet 121 = .ok (.aload_n 0, 1) := by decide +kernel
