theorem d_Mo_corner_0 : decode c_Mo_corner 0 = .ok (.aload_n 0, 1) := by decide +kernel
theorem d_Mo_corner_1 : decode c_Mo_corner 1 = .ok (.iconst 1, 1) := by decide +kernel
theorem d_Mo_corner_2 : decode c_Mo_corner 2 = .ok (.aload_n 0, 1) := by decide +kernel
theorem d_Mo_corner_3 : decode c_Mo_corner 3 = .ok (.iload_n 1, 1) := by decide +kernel
theorem d_Mo_corner_4 : decode c_Mo_corner 4 = .ok (.invokevirtual 117, 3) := by decide +kernel
theorem d_Mo_corner_7 : decode c_Mo_corner 7 = .ok (.ifCond .eq 15, 3) := by decide +kernel
theorem d_Mo_corner_10 : decode c_Mo_corner 10 = .ok (.aload_n 0, 1) := by decide +kernel
theorem d_Mo_corner_11 : decode c_Mo_corner 11 = .ok (.iload_n 2, 1) := by decide +kernel
theorem d_Mo_corner_12 : decode c_Mo_corner 12 = .ok (.invokevirtual 117, 3) := by decide +kernel
theorem d_Mo_corner_15 : decode c_Mo_corner 15 = .ok (.ifCond .eq 7, 3) := by decide +kernel
theorem d_Mo_corner_18 : decode c_Mo_corner 18 = .ok (.iconst 1, 1) := by decide +kernel
theorem d_Mo_corner_19 : decode c_Mo_corner 19 = .ok (.goto 4, 3) := by decide +kernel
theorem d_Mo_corner_22 : decode c_Mo_corner 22 = .ok (.iconst 0, 1) := by decide +kernel
theorem d_Mo_corner_23 : decode c_Mo_corner 23 = .ok (.iconst 1, 1) := by decide +kernel
theorem d_Mo_corner_24 : decode c_Mo_corner 24 = .ok (.iconst 1, 1) := by decide +kernel
theorem d_Mo_corner_25 : decode c_Mo_corner 25 = .ok (.iconst 1, 1) := by decide +kernel
theorem d_Mo_corner_26 : decode c_Mo_corner 26 = .ok (.invokevirtual 110, 3) := by decide +kernel
theorem d_Mo_corner_29 : decode c_Mo_corner 29 = .ok (.ifCond .ne 5, 3) := by decide +kernel
theorem d_Mo_corner_32 : decode c_Mo_corner 32 = .ok (.iconst 0, 1) := by decide +kernel
theorem d_Mo_corner_33 : decode c_Mo_corner 33 = .ok (.ireturn, 1) := by decide +kernel
theorem d_Mo_corner_34 : decode c_Mo_corner 34 = .ok (.aload_n 0, 1) := by decide +kernel
theorem d_Mo_corner_35 : decode c_Mo_corner 35 = .ok (.iload_n 1, 1) := by decide +kernel
theorem d_Mo_corner_36 : decode c_Mo_corner 36 = .ok (.iload_n 2, 1) := by decide +kernel
theorem d_Mo_corner_37 : decode c_Mo_corner 37 = .ok (.invokevirtual 142, 3) := by decide +kernel
theorem d_Mo_corner_40 : decode c_Mo_corner 40 = .ok (.ireturn, 1) := by decide +kernel
theorem d_Mo_part_0 : decode c_Mo_part 0 = .ok (.ldc2_w 146, 3) := by decide +kernel
theorem d_Mo_part_3 : decode c_Mo_part 3 = .ok (.iload_n 0, 1) := by decide +kernel
theorem d_Mo_part_4 : decode c_Mo_part 4 = .ok (.i2l, 1) := by decide +kernel
theorem d_Mo_part_5 : decode c_Mo_part 5 = .ok (.lmul, 1) := by decide +kernel
theorem d_Mo_part_6 : decode c_Mo_part 6 = .ok (.iload_n 1, 1) := by decide +kernel
theorem d_Mo_part_7 : decode c_Mo_part 7 = .ok (.i2l, 1) := by decide +kernel
theorem d_Mo_part_8 : decode c_Mo_part 8 = .ok (.lmul, 1) := by decide +kernel
theorem d_Mo_part_9 : decode c_Mo_part 9 = .ok (.iload_n 2, 1) := by decide +kernel
theorem d_Mo_part_10 : decode c_Mo_part 10 = .ok (.i2l, 1) := by decide +kernel
theorem d_Mo_part_11 : decode c_Mo_part 11 = .ok (.ladd, 1) := by decide +kernel
theorem d_Mo_part_12 : decode c_Mo_part 12 = .ok (.lstore_n 3, 1) := by decide +kernel
theorem d_Mo_part_13 : decode c_Mo_part 13 = .ok (.lload_n 3, 1) := by decide +kernel
theorem d_Mo_part_14 : decode c_Mo_part 14 = .ok (.ldc2_w 146, 3) := by decide +kernel
theorem d_Mo_part_17 : decode c_Mo_part 17 = .ok (.iload_n 2, 1) := by decide +kernel
theorem d_Mo_part_18 : decode c_Mo_part 18 = .ok (.i2l, 1) := by decide +kernel
theorem d_Mo_part_19 : decode c_Mo_part 19 = .ok (.lmul, 1) := by decide +kernel
theorem d_Mo_part_20 : decode c_Mo_part 20 = .ok (.ldiv, 1) := by decide +kernel
theorem d_Mo_part_21 : decode c_Mo_part 21 = .ok (.lstore 5, 2) := by decide +kernel
theorem d_Mo_part_23 : decode c_Mo_part 23 = .ok (.lload_n 3, 1) := by decide +kernel
theorem d_Mo_part_24 : decode c_Mo_part 24 = .ok (.ldc2_w 146, 3) := by decide +kernel
theorem d_Mo_part_27 : decode c_Mo_part 27 = .ok (.iload_n 2, 1) := by decide +kernel
theorem d_Mo_part_28 : decode c_Mo_part 28 = .ok (.i2l, 1) := by decide +kernel
theorem d_Mo_part_29 : decode c_Mo_part 29 = .ok (.lmul, 1) := by decide +kernel
theorem d_Mo_part_30 : decode c_Mo_part 30 = .ok (.lrem, 1) := by decide +kernel
theorem d_Mo_part_31 : decode c_Mo_part 31 = .ok (.lconst 0, 1) := by decide +kernel
theorem d_Mo_part_32 : decode c_Mo_part 32 = .ok (.lcmp, 1) := by decide +kernel
theorem d_Mo_part_33 : decode c_Mo_part 33 = .ok (.ifCond .ge 10, 3) := by decide +kernel
theorem d_Mo_part_36 : decode c_Mo_part 36 = .ok (.lload 5, 2) := by decide +kernel
theorem d_Mo_part_38 : decode c_Mo_part 38 = .ok (.lconst 1, 1) := by decide +kernel
theorem d_Mo_part_39 : decode c_Mo_part 39 = .ok (.lsub, 1) := by decide +kernel
theorem d_Mo_part_40 : decode c_Mo_part 40 = .ok (.goto 5, 3) := by decide +kernel
theorem d_Mo_part_43 : decode c_Mo_part 43 = .ok (.lload 5, 2) := by decide +kernel
theorem d_Mo_part_45 : decode c_Mo_part 45 = .ok (.l2i, 1) := by decide +kernel
theorem d_Mo_part_46 : decode c_Mo_part 46 = .ok (.ireturn, 1) := by decide +kernel
theorem d_Mo_post_0 : decode c_Mo_post 0 = .ok (.aload_n 0, 1) := by decide +kernel
theorem d_Mo_post_1 : decode c_Mo_post 1 = .ok (.iload_n 1, 1) := by decide +kernel
theorem d_Mo_post_2 : decode c_Mo_post 2 = .ok (.invokevirtual 117, 3) := by decide +kernel
theorem d_Mo_post_5 : decode c_Mo_post 5 = .ok (.istore_n 3, 1) := by decide +kernel
theorem d_Mo_post_6 : decode c_Mo_post 6 = .ok (.aload_n 0, 1) := by decide +kernel
theorem d_Mo_post_7 : decode c_Mo_post 7 = .ok (.iconst 3, 1) := by decide +kernel
theorem d_Mo_post_8 : decode c_Mo_post 8 = .ok (.iload_n 3, 1) := by decide +kernel
theorem d_Mo_post_9 : decode c_Mo_post 9 = .ok (.iload_n 3, 1) := by decide +kernel
theorem d_Mo_post_10 : decode c_Mo_post 10 = .ok (.ifCond .eq 21, 3) := by decide +kernel
theorem d_Mo_post_13 : decode c_Mo_post 13 = .ok (.iload_n 2, 1) := by decide +kernel
theorem d_Mo_post_14 : decode c_Mo_post 14 = .ok (.iconst 0, 1) := by decide +kernel
theorem d_Mo_post_15 : decode c_Mo_post 15 = .ok (.aload_n 0, 1) := by decide +kernel
theorem d_Mo_post_16 : decode c_Mo_post 16 = .ok (.getfield 50, 3) := by decide +kernel
theorem d_Mo_post_19 : decode c_Mo_post 19 = .ok (.iload_n 1, 1) := by decide +kernel
theorem d_Mo_post_20 : decode c_Mo_post 20 = .ok (.iaload, 1) := by decide +kernel
theorem d_Mo_post_21 : decode c_Mo_post 21 = .ok (.invokestatic 102, 3) := by decide +kernel
theorem d_Mo_post_24 : decode c_Mo_post 24 = .ok (.ifCond .eq 7, 3) := by decide +kernel
theorem d_Mo_post_27 : decode c_Mo_post 27 = .ok (.iconst 1, 1) := by decide +kernel
theorem d_Mo_post_28 : decode c_Mo_post 28 = .ok (.goto 4, 3) := by decide +kernel
theorem d_Mo_post_31 : decode c_Mo_post 31 = .ok (.iconst 0, 1) := by decide +kernel
theorem d_Mo_post_32 : decode c_Mo_post 32 = .ok (.iconst 1, 1) := by decide +kernel
theorem d_Mo_post_33 : decode c_Mo_post 33 = .ok (.iconst 1, 1) := by decide +kernel
theorem d_Mo_post_34 : decode c_Mo_post 34 = .ok (.invokevirtual 110, 3) := by decide +kernel
theorem d_Mo_post_37 : decode c_Mo_post 37 = .ok (.ifCond .ne 5, 3) := by decide +kernel
theorem d_Mo_post_40 : decode c_Mo_post 40 = .ok (.iconst 0, 1) := by decide +kernel
theorem d_Mo_post_41 : decode c_Mo_post 41 = .ok (.ireturn, 1) := by decide +kernel
theorem d_Mo_post_42 : decode c_Mo_post 42 = .ok (.aload_n 0, 1) := by decide +kernel
theorem d_Mo_post_43 : decode c_Mo_post 43 = .ok (.getfield 50, 3) := by decide +kernel
theorem d_Mo_post_46 : decode c_Mo_post 46 = .ok (.iload_n 1, 1) := by decide +kernel
theorem d_Mo_post_47 : decode c_Mo_post 47 = .ok (.iaload, 1) := by decide +kernel
theorem d_Mo_post_48 : decode c_Mo_post 48 = .ok (.ifCond .ne 12, 3) := by decide +kernel
theorem d_Mo_post_51 : decode c_Mo_post 51 = .ok (.aload_n 0, 1) := by decide +kernel
theorem d_Mo_post_52 : decode c_Mo_post 52 = .ok (.getfield 38, 3) := by decide +kernel
theorem d_Mo_post_55 : decode c_Mo_post 55 = .ok (.iload_n 1, 1) := by decide +kernel
theorem d_Mo_post_56 : decode c_Mo_post 56 = .ok (.iaload, 1) := by decide +kernel
theorem d_Mo_post_57 : decode c_Mo_post 57 = .ok (.goto 26, 3) := by decide +kernel
theorem d_Mo_post_60 : decode c_Mo_post 60 = .ok (.aload_n 0, 1) := by decide +kernel
theorem d_Mo_post_61 : decode c_Mo_post 61 = .ok (.getfield 38, 3) := by decide +kernel
theorem d_Mo_post_64 : decode c_Mo_post 64 = .ok (.iload_n 1, 1) := by decide +kernel
theorem d_Mo_post_65 : decode c_Mo_post 65 = .ok (.iaload, 1) := by decide +kernel
theorem d_Mo_post_66 : decode c_Mo_post 66 = .ok (.aload_n 0, 1) := by decide +kernel
theorem d_Mo_post_67 : decode c_Mo_post 67 = .ok (.getfield 44, 3) := by decide +kernel
theorem d_Mo_post_70 : decode c_Mo_post 70 = .ok (.iload_n 1, 1) := by decide +kernel
theorem d_Mo_post_71 : decode c_Mo_post 71 = .ok (.iaload, 1) := by decide +kernel
theorem d_Mo_post_72 : decode c_Mo_post 72 = .ok (.iload_n 2, 1) := by decide +kernel
theorem d_Mo_post_73 : decode c_Mo_post 73 = .ok (.aload_n 0, 1) := by decide +kernel
theorem d_Mo_post_74 : decode c_Mo_post 74 = .ok (.getfield 50, 3) := by decide +kernel
theorem d_Mo_post_77 : decode c_Mo_post 77 = .ok (.iload_n 1, 1) := by decide +kernel
theorem d_Mo_post_78 : decode c_Mo_post 78 = .ok (.iaload, 1) := by decide +kernel
theorem d_Mo_post_79 : decode c_Mo_post 79 = .ok (.invokestatic 148, 3) := by decide +kernel
theorem d_Mo_post_82 : decode c_Mo_post 82 = .ok (.iadd, 1) := by decide +kernel
theorem d_Mo_post_83 : decode c_Mo_post 83 = .ok (.istore 4, 2) := by decide +kernel
theorem d_Mo_post_85 : decode c_Mo_post 85 = .ok (.aload_n 0, 1) := by decide +kernel
theorem d_Mo_post_86 : decode c_Mo_post 86 = .ok (.getfield 50, 3) := by decide +kernel
theorem d_Mo_post_89 : decode c_Mo_post 89 = .ok (.iload_n 1, 1) := by decide +kernel
theorem d_Mo_post_90 : decode c_Mo_post 90 = .ok (.iaload, 1) := by decide +kernel
theorem d_Mo_post_91 : decode c_Mo_post 91 = .ok (.ifCond .ne 12, 3) := by decide +kernel
theorem d_Mo_post_94 : decode c_Mo_post 94 = .ok (.aload_n 0, 1) := by decide +kernel
theorem d_Mo_post_95 : decode c_Mo_post 95 = .ok (.getfield 41, 3) := by decide +kernel
theorem d_Mo_post_98 : decode c_Mo_post 98 = .ok (.iload_n 1, 1) := by decide +kernel
theorem d_Mo_post_99 : decode c_Mo_post 99 = .ok (.iaload, 1) := by decide +kernel
theorem d_Mo_post_100 : decode c_Mo_post 100 = .ok (.goto 26, 3) := by decide +kernel
theorem d_Mo_post_103 : decode c_Mo_post 103 = .ok (.aload_n 0, 1) := by decide +kernel
theorem d_Mo_post_104 : decode c_Mo_post 104 = .ok (.getfield 41, 3) := by decide +kernel
theorem d_Mo_post_107 : decode c_Mo_post 107 = .ok (.iload_n 1, 1) := by decide +kernel
theorem d_Mo_post_108 : decode c_Mo_post 108 = .ok (.iaload, 1) := by decide +kernel
theorem d_Mo_post_109 : decode c_Mo_post 109 = .ok (.aload_n 0, 1) := by decide +kernel
theorem d_Mo_post_110 : decode c_Mo_post 110 = .ok (.getfield 47, 3) := by decide +kernel
theorem d_Mo_post_113 : decode c_Mo_post 113 = .ok (.iload_n 1, 1) := by decide +kernel
theorem d_Mo_post_114 : decode c_Mo_post 114 = .ok (.iaload, 1) := by decide +kernel
theorem d_Mo_post_115 : decode c_Mo_post 115 = .ok (.iload_n 2, 1) := by decide +kernel
theorem d_Mo_post_116 : decode c_Mo_post 116 = .ok (.aload_n 0, 1) := by decide +kernel
theorem d_Mo_post_117 : decode c_Mo_post 117 = .ok (.getfield 50, 3) := by decide +kernel
theorem d_Mo_post_120 : decode c_Mo_post 120 = .ok (.iload_n 1, 1) := by decide +kernel
theorem d_Mo_post_121 : decode c_Mo_post 121 = .ok (.iaload, 1) := by decide +kernel
theorem d_Mo_post_122 : decode c_Mo_post 122 = .ok (.invokestatic 148, 3) := by decide +kernel
theorem d_Mo_post_125 : decode c_Mo_post 125 = .ok (.iadd, 1) := by decide +kernel
theorem d_Mo_post_126 : decode c_Mo_post 126 = .ok (.istore 5, 2) := by decide +kernel
theorem d_Mo_post_128 : decode c_Mo_post 128 = .ok (.sipush 20000, 3) := by decide +kernel
theorem d_Mo_post_131 : decode c_Mo_post 131 = .ok (.iload 4, 2) := by decide +kernel
theorem d_Mo_post_133 : decode c_Mo_post 133 = .ok (.sipush 10000, 3) := by decide +kernel
theorem d_Mo_post_136 : decode c_Mo_post 136 = .ok (.iadd, 1) := by decide +kernel
theorem d_Mo_post_137 : decode c_Mo_post 137 = .ok (.imul, 1) := by decide +kernel
theorem d_Mo_post_138 : decode c_Mo_post 138 = .ok (.iload 5, 2) := by decide +kernel
theorem d_Mo_post_140 : decode c_Mo_post 140 = .ok (.iadd, 1) := by decide +kernel
theorem d_Mo_post_141 : decode c_Mo_post 141 = .ok (.sipush 10000, 3) := by decide +kernel
theorem d_Mo_post_144 : decode c_Mo_post 144 = .ok (.iadd, 1) := by decide +kernel
theorem d_Mo_post_145 : decode c_Mo_post 145 = .ok (.ireturn, 1) := by decide +kernel
theorem d_Mo_near_0 : decode c_Mo_near 0 = .ok (.aload_n 0, 1) := by decide +kernel
theorem d_Mo_near_1 : decode c_Mo_near 1 = .ok (.iconst 2, 1) := by decide +kernel
theorem d_Mo_near_2 : decode c_Mo_near 2 = .ok (.iconst 1, 1) := by decide +kernel
theorem d_Mo_near_3 : decode c_Mo_near 3 = .ok (.iload_n 1, 1) := by decide +kernel
theorem d_Mo_near_4 : decode c_Mo_near 4 = .ok (.invokestatic 129, 3) := by decide +kernel
theorem d_Mo_near_7 : decode c_Mo_near 7 = .ok (.ifCond .eq 14, 3) := by decide +kernel
theorem d_Mo_near_10 : decode c_Mo_near 10 = .ok (.iload_n 2, 1) := by decide +kernel
theorem d_Mo_near_11 : decode c_Mo_near 11 = .ok (.invokestatic 129, 3) := by decide +kernel
theorem d_Mo_near_14 : decode c_Mo_near 14 = .ok (.ifCond .eq 7, 3) := by decide +kernel
theorem d_Mo_near_17 : decode c_Mo_near 17 = .ok (.iconst 1, 1) := by decide +kernel
theorem d_Mo_near_18 : decode c_Mo_near 18 = .ok (.goto 4, 3) := by decide +kernel
theorem d_Mo_near_21 : decode c_Mo_near 21 = .ok (.iconst 0, 1) := by decide +kernel
theorem d_Mo_near_22 : decode c_Mo_near 22 = .ok (.iconst 1, 1) := by decide +kernel
theorem d_Mo_near_23 : decode c_Mo_near 23 = .ok (.iconst 1, 1) := by decide +kernel
theorem d_Mo_near_24 : decode c_Mo_near 24 = .ok (.invokevirtual 110, 3) := by decide +kernel
theorem d_Mo_near_27 : decode c_Mo_near 27 = .ok (.ifCond .ne 5, 3) := by decide +kernel
theorem d_Mo_near_30 : decode c_Mo_near 30 = .ok (.iconst 0, 1) := by decide +kernel
theorem d_Mo_near_31 : decode c_Mo_near 31 = .ok (.ireturn, 1) := by decide +kernel
theorem d_Mo_near_32 : decode c_Mo_near 32 = .ok (.iconst (-1), 1) := by decide +kernel
theorem d_Mo_near_33 : decode c_Mo_near 33 = .ok (.istore_n 3, 1) := by decide +kernel
theorem d_Mo_near_34 : decode c_Mo_near 34 = .ok (.lconst 0, 1) := by decide +kernel
theorem d_Mo_near_35 : decode c_Mo_near 35 = .ok (.lstore 4, 2) := by decide +kernel
theorem d_Mo_near_37 : decode c_Mo_near 37 = .ok (.iconst 0, 1) := by decide +kernel
theorem d_Mo_near_38 : decode c_Mo_near 38 = .ok (.istore 6, 2) := by decide +kernel
theorem d_Mo_near_40 : decode c_Mo_near 40 = .ok (.iload 6, 2) := by decide +kernel
theorem d_Mo_near_42 : decode c_Mo_near 42 = .ok (.aload_n 0, 1) := by decide +kernel
theorem d_Mo_near_43 : decode c_Mo_near 43 = .ok (.getfield 99, 3) := by decide +kernel
theorem d_Mo_near_46 : decode c_Mo_near 46 = .ok (.if_icmp .ge 68, 3) := by decide +kernel
theorem d_Mo_near_49 : decode c_Mo_near 49 = .ok (.aload_n 0, 1) := by decide +kernel
theorem d_Mo_near_50 : decode c_Mo_near 50 = .ok (.getfield 38, 3) := by decide +kernel
theorem d_Mo_near_53 : decode c_Mo_near 53 = .ok (.iload 6, 2) := by decide +kernel
theorem d_Mo_near_55 : decode c_Mo_near 55 = .ok (.iaload, 1) := by decide +kernel
theorem d_Mo_near_56 : decode c_Mo_near 56 = .ok (.iload_n 1, 1) := by decide +kernel
theorem d_Mo_near_57 : decode c_Mo_near 57 = .ok (.isub, 1) := by decide +kernel
theorem d_Mo_near_58 : decode c_Mo_near 58 = .ok (.i2l, 1) := by decide +kernel
theorem d_Mo_near_59 : decode c_Mo_near 59 = .ok (.lstore 7, 2) := by decide +kernel
theorem d_Mo_near_61 : decode c_Mo_near 61 = .ok (.aload_n 0, 1) := by decide +kernel
theorem d_Mo_near_62 : decode c_Mo_near 62 = .ok (.getfield 41, 3) := by decide +kernel
theorem d_Mo_near_65 : decode c_Mo_near 65 = .ok (.iload 6, 2) := by decide +kernel
theorem d_Mo_near_67 : decode c_Mo_near 67 = .ok (.iaload, 1) := by decide +kernel
theorem d_Mo_near_68 : decode c_Mo_near 68 = .ok (.iload_n 2, 1) := by decide +kernel
theorem d_Mo_near_69 : decode c_Mo_near 69 = .ok (.isub, 1) := by decide +kernel
theorem d_Mo_near_70 : decode c_Mo_near 70 = .ok (.i2l, 1) := by decide +kernel
theorem d_Mo_near_71 : decode c_Mo_near 71 = .ok (.lstore 9, 2) := by decide +kernel
theorem d_Mo_near_73 : decode c_Mo_near 73 = .ok (.lload 7, 2) := by decide +kernel
theorem d_Mo_near_75 : decode c_Mo_near 75 = .ok (.lload 7, 2) := by decide +kernel
theorem d_Mo_near_77 : decode c_Mo_near 77 = .ok (.lmul, 1) := by decide +kernel
theorem d_Mo_near_78 : decode c_Mo_near 78 = .ok (.lload 9, 2) := by decide +kernel
theorem d_Mo_near_80 : decode c_Mo_near 80 = .ok (.lload 9, 2) := by decide +kernel
theorem d_Mo_near_82 : decode c_Mo_near 82 = .ok (.lmul, 1) := by decide +kernel
theorem d_Mo_near_83 : decode c_Mo_near 83 = .ok (.ladd, 1) := by decide +kernel
theorem d_Mo_near_84 : decode c_Mo_near 84 = .ok (.lstore 11, 2) := by decide +kernel
theorem d_Mo_near_86 : decode c_Mo_near 86 = .ok (.iload_n 3, 1) := by decide +kernel
theorem d_Mo_near_87 : decode c_Mo_near 87 = .ok (.ifCond .lt 14, 3) := by decide +kernel
theorem d_Mo_near_90 : decode c_Mo_near 90 = .ok (.lload 11, 2) := by decide +kernel
theorem d_Mo_near_92 : decode c_Mo_near 92 = .ok (.lload 4, 2) := by decide +kernel
theorem d_Mo_near_94 : decode c_Mo_near 94 = .ok (.lcmp, 1) := by decide +kernel
theorem d_Mo_near_95 : decode c_Mo_near 95 = .ok (.ifCond .lt 6, 3) := by decide +kernel
theorem d_Mo_near_98 : decode c_Mo_near 98 = .ok (.goto 10, 3) := by decide +kernel
theorem d_Mo_near_101 : decode c_Mo_near 101 = .ok (.iload 6, 2) := by decide +kernel
theorem d_Mo_near_103 : decode c_Mo_near 103 = .ok (.istore_n 3, 1) := by decide +kernel
theorem d_Mo_near_104 : decode c_Mo_near 104 = .ok (.lload 11, 2) := by decide +kernel
theorem d_Mo_near_106 : decode c_Mo_near 106 = .ok (.lstore 4, 2) := by decide +kernel
theorem d_Mo_near_108 : decode c_Mo_near 108 = .ok (.iinc 6 1, 3) := by decide +kernel
theorem d_Mo_near_111 : decode c_Mo_near 111 = .ok (.goto (-71), 3) := by decide +kernel
theorem d_Mo_near_114 : decode c_Mo_near 114 = .ok (.iload_n 3, 1) := by decide +kernel
theorem d_Mo_near_115 : decode c_Mo_near 115 = .ok (.ireturn, 1) := by decide +kernel
theorem d_Mo_isSign_0 : decode c_Mo_isSign 0 = .ok (.iload_n 0, 1) := by decide +kernel
theorem d_Mo_isSign_1 : decode c_Mo_isSign 1 = .ok (.bipush 97, 2) := by decide +kernel
theorem d_Mo_isSign_3 : decode c_Mo_isSign 3 = .ok (.bipush 122, 2) := by decide +kernel
theorem d_Mo_isSign_5 : decode c_Mo_isSign 5 = .ok (.invokestatic 102, 3) := by decide +kernel
theorem d_Mo_isSign_8 : decode c_Mo_isSign 8 = .ok (.ifCond .ne 20, 3) := by decide +kernel
theorem d_Mo_isSign_11 : decode c_Mo_isSign 11 = .ok (.iload_n 0, 1) := by decide +kernel
theorem d_Mo_isSign_12 : decode c_Mo_isSign 12 = .ok (.bipush 48, 2) := by decide +kernel
theorem d_Mo_isSign_14 : decode c_Mo_isSign 14 = .ok (.bipush 57, 2) := by decide +kernel
theorem d_Mo_isSign_16 : decode c_Mo_isSign 16 = .ok (.invokestatic 102, 3) := by decide +kernel
theorem d_Mo_isSign_19 : decode c_Mo_isSign 19 = .ok (.ifCond .ne 9, 3) := by decide +kernel
theorem d_Mo_isSign_22 : decode c_Mo_isSign 22 = .ok (.iload_n 0, 1) := by decide +kernel
theorem d_Mo_isSign_23 : decode c_Mo_isSign 23 = .ok (.bipush 32, 2) := by decide +kernel
theorem d_Mo_isSign_25 : decode c_Mo_isSign 25 = .ok (.if_icmp .ne 7, 3) := by decide +kernel
theorem d_Mo_isSign_28 : decode c_Mo_isSign 28 = .ok (.iconst 1, 1) := by decide +kernel
theorem d_Mo_isSign_29 : decode c_Mo_isSign 29 = .ok (.goto 4, 3) := by decide +kernel
theorem d_Mo_isSign_32 : decode c_Mo_isSign 32 = .ok (.iconst 0, 1) := by decide +kernel
theorem d_Mo_isSign_33 : decode c_Mo_isSign 33 = .ok (.ireturn, 1) := by decide +kernel
theorem d_Mo_word_0 : decode c_Mo_word 0 = .ok (.iload_n 3, 1) := by decide +kernel
theorem d_Mo_word_1 : decode c_Mo_word 1 = .ok (.iconst 0, 1) := by decide +kernel
theorem d_Mo_word_2 : decode c_Mo_word 2 = .ok (.bipush 8, 2) := by decide +kernel
theorem d_Mo_word_4 : decode c_Mo_word 4 = .ok (.invokestatic 102, 3) := by decide +kernel
theorem d_Mo_word_7 : decode c_Mo_word 7 = .ok (.istore 4, 2) := by decide +kernel
theorem d_Mo_word_9 : decode c_Mo_word 9 = .ok (.iconst 0, 1) := by decide +kernel
theorem d_Mo_word_10 : decode c_Mo_word 10 = .ok (.istore 5, 2) := by decide +kernel
theorem d_Mo_word_12 : decode c_Mo_word 12 = .ok (.iload 5, 2) := by decide +kernel
theorem d_Mo_word_14 : decode c_Mo_word 14 = .ok (.iload_n 3, 1) := by decide +kernel
theorem d_Mo_word_15 : decode c_Mo_word 15 = .ok (.if_icmp .ge 26, 3) := by decide +kernel
theorem d_Mo_word_18 : decode c_Mo_word 18 = .ok (.iload 4, 2) := by decide +kernel
theorem d_Mo_word_20 : decode c_Mo_word 20 = .ok (.ifCond .eq 21, 3) := by decide +kernel
theorem d_Mo_word_23 : decode c_Mo_word 23 = .ok (.lload_n 1, 1) := by decide +kernel
theorem d_Mo_word_24 : decode c_Mo_word 24 = .ok (.iload_n 3, 1) := by decide +kernel
theorem d_Mo_word_25 : decode c_Mo_word 25 = .ok (.iload 5, 2) := by decide +kernel
theorem d_Mo_word_27 : decode c_Mo_word 27 = .ok (.invokestatic 106, 3) := by decide +kernel
theorem d_Mo_word_30 : decode c_Mo_word 30 = .ok (.invokestatic 152, 3) := by decide +kernel
theorem d_Mo_word_33 : decode c_Mo_word 33 = .ok (.istore 4, 2) := by decide +kernel
theorem d_Mo_word_35 : decode c_Mo_word 35 = .ok (.iinc 5 1, 3) := by decide +kernel
theorem d_Mo_word_38 : decode c_Mo_word 38 = .ok (.goto (-26), 3) := by decide +kernel
theorem d_Mo_word_41 : decode c_Mo_word 41 = .ok (.aload_n 0, 1) := by decide +kernel
theorem d_Mo_word_42 : decode c_Mo_word 42 = .ok (.bipush 10, 2) := by decide +kernel
theorem d_Mo_word_44 : decode c_Mo_word 44 = .ok (.iconst 1, 1) := by decide +kernel
theorem d_Mo_word_45 : decode c_Mo_word 45 = .ok (.iload 4, 2) := by decide +kernel
theorem d_Mo_word_47 : decode c_Mo_word 47 = .ok (.iconst 1, 1) := by decide +kernel
theorem d_Mo_word_48 : decode c_Mo_word 48 = .ok (.aload_n 0, 1) := by decide +kernel
theorem d_Mo_word_49 : decode c_Mo_word 49 = .ok (.getfield 155, 3) := by decide +kernel
theorem d_Mo_word_52 : decode c_Mo_word 52 = .ok (.iload_n 3, 1) := by decide +kernel
theorem d_Mo_word_53 : decode c_Mo_word 53 = .ok (.iadd, 1) := by decide +kernel
theorem d_Mo_word_54 : decode c_Mo_word 54 = .ok (.bipush 40, 2) := by decide +kernel
theorem d_Mo_word_56 : decode c_Mo_word 56 = .ok (.if_icmp .gt 7, 3) := by decide +kernel
theorem d_Mo_word_59 : decode c_Mo_word 59 = .ok (.iconst 1, 1) := by decide +kernel
theorem d_Mo_word_60 : decode c_Mo_word 60 = .ok (.goto 4, 3) := by decide +kernel
theorem d_Mo_word_63 : decode c_Mo_word 63 = .ok (.iconst 0, 1) := by decide +kernel
theorem d_Mo_word_64 : decode c_Mo_word 64 = .ok (.invokevirtual 110, 3) := by decide +kernel
theorem d_Mo_word_67 : decode c_Mo_word 67 = .ok (.ifCond .ne 5, 3) := by decide +kernel
theorem d_Mo_word_70 : decode c_Mo_word 70 = .ok (.iconst 0, 1) := by decide +kernel
theorem d_Mo_word_71 : decode c_Mo_word 71 = .ok (.ireturn, 1) := by decide +kernel
theorem d_Mo_word_72 : decode c_Mo_word 72 = .ok (.iload_n 3, 1) := by decide +kernel
theorem d_Mo_word_73 : decode c_Mo_word 73 = .ok (.ifCond .ne 8, 3) := by decide +kernel
theorem d_Mo_word_76 : decode c_Mo_word 76 = .ok (.aload_n 0, 1) := by decide +kernel
theorem d_Mo_word_77 : decode c_Mo_word 77 = .ok (.iconst 0, 1) := by decide +kernel
theorem d_Mo_word_78 : decode c_Mo_word 78 = .ok (.putfield 155, 3) := by decide +kernel
theorem d_Mo_word_81 : decode c_Mo_word 81 = .ok (.iconst 0, 1) := by decide +kernel
theorem d_Mo_word_82 : decode c_Mo_word 82 = .ok (.istore 5, 2) := by decide +kernel
theorem d_Mo_word_84 : decode c_Mo_word 84 = .ok (.iload 5, 2) := by decide +kernel
theorem d_Mo_word_86 : decode c_Mo_word 86 = .ok (.iload_n 3, 1) := by decide +kernel
theorem d_Mo_word_87 : decode c_Mo_word 87 = .ok (.if_icmp .ge 28, 3) := by decide +kernel
theorem d_Mo_word_90 : decode c_Mo_word 90 = .ok (.aload_n 0, 1) := by decide +kernel
theorem d_Mo_word_91 : decode c_Mo_word 91 = .ok (.getfield 77, 3) := by decide +kernel
theorem d_Mo_word_94 : decode c_Mo_word 94 = .ok (.aload_n 0, 1) := by decide +kernel
theorem d_Mo_word_95 : decode c_Mo_word 95 = .ok (.getfield 155, 3) := by decide +kernel
theorem d_Mo_word_98 : decode c_Mo_word 98 = .ok (.iload 5, 2) := by decide +kernel
theorem d_Mo_word_100 : decode c_Mo_word 100 = .ok (.iadd, 1) := by decide +kernel
theorem d_Mo_word_101 : decode c_Mo_word 101 = .ok (.lload_n 1, 1) := by decide +kernel
theorem d_Mo_word_102 : decode c_Mo_word 102 = .ok (.iload_n 3, 1) := by decide +kernel
theorem d_Mo_word_103 : decode c_Mo_word 103 = .ok (.iload 5, 2) := by decide +kernel
theorem d_Mo_word_105 : decode c_Mo_word 105 = .ok (.invokestatic 106, 3) := by decide +kernel
theorem d_Mo_word_108 : decode c_Mo_word 108 = .ok (.iastore, 1) := by decide +kernel
theorem d_Mo_word_109 : decode c_Mo_word 109 = .ok (.iinc 5 1, 3) := by decide +kernel
theorem d_Mo_word_112 : decode c_Mo_word 112 = .ok (.goto (-28), 3) := by decide +kernel
theorem d_Mo_word_115 : decode c_Mo_word 115 = .ok (.aload_n 0, 1) := by decide +kernel
theorem d_Mo_word_116 : decode c_Mo_word 116 = .ok (.aload_n 0, 1) := by decide +kernel
theorem d_Mo_word_117 : decode c_Mo_word 117 = .ok (.getfield 155, 3) := by decide +kernel
theorem d_Mo_word_120 : decode c_Mo_word 120 = .ok (.iload_n 3, 1) := by decide +kernel
theorem d_Mo_word_121 : decode c_Mo_word 121 = .ok (.iadd, 1) := by decide +kernel
theorem d_Mo_word_122 : decode c_Mo_word 122 = .ok (.putfield 155, 3) := by decide +kernel
theorem d_Mo_word_125 : decode c_Mo_word 125 = .ok (.aload_n 0, 1) := by decide +kernel
theorem d_Mo_word_126 : decode c_Mo_word 126 = .ok (.iconst 0, 1) := by decide +kernel
theorem d_Mo_word_127 : decode c_Mo_word 127 = .ok (.putfield 114, 3) := by decide +kernel
theorem d_Mo_word_130 : decode c_Mo_word 130 = .ok (.aload_n 0, 1) := by decide +kernel
theorem d_Mo_word_131 : decode c_Mo_word 131 = .ok (.getfield 155, 3) := by decide +kernel
theorem d_Mo_word_134 : decode c_Mo_word 134 = .ok (.ireturn, 1) := by decide +kernel
theorem d_Mo_houseSaid_0 : decode c_Mo_houseSaid 0 = .ok (.iconst 0, 1) := by decide +kernel
theorem d_Mo_houseSaid_1 : decode c_Mo_houseSaid 1 = .ok (.istore_n 1, 1) := by decide +kernel
theorem d_Mo_houseSaid_2 : decode c_Mo_houseSaid 2 = .ok (.iload_n 1, 1) := by decide +kernel
theorem d_Mo_houseSaid_3 : decode c_Mo_houseSaid 3 = .ok (.aload_n 0, 1) := by decide +kernel
theorem d_Mo_houseSaid_4 : decode c_Mo_houseSaid 4 = .ok (.getfield 155, 3) := by decide +kernel
theorem d_Mo_houseSaid_7 : decode c_Mo_houseSaid 7 = .ok (.if_icmp .ge 25, 3) := by decide +kernel
theorem d_Mo_houseSaid_10 : decode c_Mo_houseSaid 10 = .ok (.aload_n 0, 1) := by decide +kernel
theorem d_Mo_houseSaid_11 : decode c_Mo_houseSaid 11 = .ok (.getfield 77, 3) := by decide +kernel
theorem d_Mo_houseSaid_14 : decode c_Mo_houseSaid 14 = .ok (.iload_n 1, 1) := by decide +kernel
theorem d_Mo_houseSaid_15 : decode c_Mo_houseSaid 15 = .ok (.iaload, 1) := by decide +kernel
theorem d_Mo_houseSaid_16 : decode c_Mo_houseSaid 16 = .ok (.bipush 48, 2) := by decide +kernel
theorem d_Mo_houseSaid_18 : decode c_Mo_houseSaid 18 = .ok (.bipush 57, 2) := by decide +kernel
theorem d_Mo_houseSaid_20 : decode c_Mo_houseSaid 20 = .ok (.invokestatic 102, 3) := by decide +kernel
theorem d_Mo_houseSaid_23 : decode c_Mo_houseSaid 23 = .ok (.ifCond .ne 9, 3) := by decide +kernel
theorem d_Mo_houseSaid_26 : decode c_Mo_houseSaid 26 = .ok (.iinc 1 1, 3) := by decide +kernel
theorem d_Mo_houseSaid_29 : decode c_Mo_houseSaid 29 = .ok (.goto (-27), 3) := by decide +kernel
theorem d_Mo_houseSaid_32 : decode c_Mo_houseSaid 32 = .ok (.iconst 0, 1) := by decide +kernel
theorem d_Mo_houseSaid_33 : decode c_Mo_houseSaid 33 = .ok (.istore_n 2, 1) := by decide +kernel
theorem d_Mo_houseSaid_34 : decode c_Mo_houseSaid 34 = .ok (.iconst 0, 1) := by decide +kernel
theorem d_Mo_houseSaid_35 : decode c_Mo_houseSaid 35 = .ok (.istore_n 3, 1) := by decide +kernel
theorem d_Mo_houseSaid_36 : decode c_Mo_houseSaid 36 = .ok (.iload_n 1, 1) := by decide +kernel
theorem d_Mo_houseSaid_37 : decode c_Mo_houseSaid 37 = .ok (.aload_n 0, 1) := by decide +kernel
theorem d_Mo_houseSaid_38 : decode c_Mo_houseSaid 38 = .ok (.getfield 155, 3) := by decide +kernel
theorem d_Mo_houseSaid_41 : decode c_Mo_houseSaid 41 = .ok (.if_icmp .ge 48, 3) := by decide +kernel
theorem d_Mo_houseSaid_44 : decode c_Mo_houseSaid 44 = .ok (.aload_n 0, 1) := by decide +kernel
theorem d_Mo_houseSaid_45 : decode c_Mo_houseSaid 45 = .ok (.getfield 77, 3) := by decide +kernel
theorem d_Mo_houseSaid_48 : decode c_Mo_houseSaid 48 = .ok (.iload_n 1, 1) := by decide +kernel
theorem d_Mo_houseSaid_49 : decode c_Mo_houseSaid 49 = .ok (.iaload, 1) := by decide +kernel
theorem d_Mo_houseSaid_50 : decode c_Mo_houseSaid 50 = .ok (.bipush 48, 2) := by decide +kernel
theorem d_Mo_houseSaid_52 : decode c_Mo_houseSaid 52 = .ok (.bipush 57, 2) := by decide +kernel
theorem d_Mo_houseSaid_54 : decode c_Mo_houseSaid 54 = .ok (.invokestatic 102, 3) := by decide +kernel
theorem d_Mo_houseSaid_57 : decode c_Mo_houseSaid 57 = .ok (.ifCond .eq 32, 3) := by decide +kernel
theorem d_Mo_houseSaid_60 : decode c_Mo_houseSaid 60 = .ok (.iload_n 2, 1) := by decide +kernel
theorem d_Mo_houseSaid_61 : decode c_Mo_houseSaid 61 = .ok (.iconst 4, 1) := by decide +kernel
theorem d_Mo_houseSaid_62 : decode c_Mo_houseSaid 62 = .ok (.if_icmp .ge 18, 3) := by decide +kernel
theorem d_Mo_houseSaid_65 : decode c_Mo_houseSaid 65 = .ok (.bipush 10, 2) := by decide +kernel
theorem d_Mo_houseSaid_67 : decode c_Mo_houseSaid 67 = .ok (.iload_n 3, 1) := by decide +kernel
theorem d_Mo_houseSaid_68 : decode c_Mo_houseSaid 68 = .ok (.imul, 1) := by decide +kernel
theorem d_Mo_houseSaid_69 : decode c_Mo_houseSaid 69 = .ok (.aload_n 0, 1) := by decide +kernel
theorem d_Mo_houseSaid_70 : decode c_Mo_houseSaid 70 = .ok (.getfield 77, 3) := by decide +kernel
theorem d_Mo_houseSaid_73 : decode c_Mo_houseSaid 73 = .ok (.iload_n 1, 1) := by decide +kernel
theorem d_Mo_houseSaid_74 : decode c_Mo_houseSaid 74 = .ok (.iaload, 1) := by decide +kernel
theorem d_Mo_houseSaid_75 : decode c_Mo_houseSaid 75 = .ok (.iadd, 1) := by decide +kernel
theorem d_Mo_houseSaid_76 : decode c_Mo_houseSaid 76 = .ok (.bipush 48, 2) := by decide +kernel
theorem d_Mo_houseSaid_78 : decode c_Mo_houseSaid 78 = .ok (.isub, 1) := by decide +kernel
theorem d_Mo_houseSaid_79 : decode c_Mo_houseSaid 79 = .ok (.istore_n 3, 1) := by decide +kernel
theorem d_Mo_houseSaid_80 : decode c_Mo_houseSaid 80 = .ok (.iinc 2 1, 3) := by decide +kernel
theorem d_Mo_houseSaid_83 : decode c_Mo_houseSaid 83 = .ok (.iinc 1 1, 3) := by decide +kernel
theorem d_Mo_houseSaid_86 : decode c_Mo_houseSaid 86 = .ok (.goto (-50), 3) := by decide +kernel
theorem d_Mo_houseSaid_89 : decode c_Mo_houseSaid 89 = .ok (.iload_n 2, 1) := by decide +kernel
theorem d_Mo_houseSaid_90 : decode c_Mo_houseSaid 90 = .ok (.iconst 4, 1) := by decide +kernel
theorem d_Mo_houseSaid_91 : decode c_Mo_houseSaid 91 = .ok (.if_icmp .le 9, 3) := by decide +kernel
theorem d_Mo_houseSaid_94 : decode c_Mo_houseSaid 94 = .ok (.sipush 9999, 3) := by decide +kernel
theorem d_Mo_houseSaid_97 : decode c_Mo_houseSaid 97 = .ok (.goto 4, 3) := by decide +kernel
theorem d_Mo_houseSaid_100 : decode c_Mo_houseSaid 100 = .ok (.iload_n 3, 1) := by decide +kernel
theorem d_Mo_houseSaid_101 : decode c_Mo_houseSaid 101 = .ok (.ireturn, 1) := by decide +kernel
theorem d_Mo_least_0 : decode c_Mo_least 0 = .ok (.iload_n 0, 1) := by decide +kernel
theorem d_Mo_least_1 : decode c_Mo_least 1 = .ok (.iload_n 1, 1) := by decide +kernel
theorem d_Mo_least_2 : decode c_Mo_least 2 = .ok (.if_icmp .ge 7, 3) := by decide +kernel
theorem d_Mo_least_5 : decode c_Mo_least 5 = .ok (.iload_n 0, 1) := by decide +kernel
theorem d_Mo_least_6 : decode c_Mo_least 6 = .ok (.goto 4, 3) := by decide +kernel
theorem d_Mo_least_9 : decode c_Mo_least 9 = .ok (.iload_n 1, 1) := by decide +kernel
theorem d_Mo_least_10 : decode c_Mo_least 10 = .ok (.ireturn, 1) := by decide +kernel
theorem d_Mo_distance_0 : decode c_Mo_distance 0 = .ok (.bipush 17, 2) := by decide +kernel
theorem d_Mo_distance_2 : decode c_Mo_distance 2 = .ok (.istore_n 3, 1) := by decide +kernel
theorem d_Mo_distance_3 : decode c_Mo_distance 3 = .ok (.iconst 0, 1) := by decide +kernel
theorem d_Mo_distance_4 : decode c_Mo_distance 4 = .ok (.istore 4, 2) := by decide +kernel
theorem d_Mo_distance_6 : decode c_Mo_distance 6 = .ok (.iload 4, 2) := by decide +kernel
theorem d_Mo_distance_8 : decode c_Mo_distance 8 = .ok (.iload_n 1, 1) := by decide +kernel
theorem d_Mo_distance_9 : decode c_Mo_distance 9 = .ok (.if_icmp .gt 232, 3) := by decide +kernel
theorem d_Mo_distance_12 : decode c_Mo_distance 12 = .ok (.iconst 0, 1) := by decide +kernel
theorem d_Mo_distance_13 : decode c_Mo_distance 13 = .ok (.istore 5, 2) := by decide +kernel
theorem d_Mo_distance_15 : decode c_Mo_distance 15 = .ok (.iload 5, 2) := by decide +kernel
theorem d_Mo_distance_17 : decode c_Mo_distance 17 = .ok (.iload_n 2, 1) := by decide +kernel
theorem d_Mo_distance_18 : decode c_Mo_distance 18 = .ok (.if_icmp .gt 217, 3) := by decide +kernel
theorem d_Mo_distance_21 : decode c_Mo_distance 21 = .ok (.iload 4, 2) := by decide +kernel
theorem d_Mo_distance_23 : decode c_Mo_distance 23 = .ok (.ifCond .eq 8, 3) := by decide +kernel
theorem d_Mo_distance_26 : decode c_Mo_distance 26 = .ok (.iload 5, 2) := by decide +kernel
theorem d_Mo_distance_28 : decode c_Mo_distance 28 = .ok (.ifCond .ne 23, 3) := by decide +kernel
theorem d_Mo_distance_31 : decode c_Mo_distance 31 = .ok (.aload_n 0, 1) := by decide +kernel
theorem d_Mo_distance_32 : decode c_Mo_distance 32 = .ok (.getfield 92, 3) := by decide +kernel
theorem d_Mo_distance_35 : decode c_Mo_distance 35 = .ok (.iload 4, 2) := by decide +kernel
theorem d_Mo_distance_37 : decode c_Mo_distance 37 = .ok (.iload_n 3, 1) := by decide +kernel
theorem d_Mo_distance_38 : decode c_Mo_distance 38 = .ok (.imul, 1) := by decide +kernel
theorem d_Mo_distance_39 : decode c_Mo_distance 39 = .ok (.iload 5, 2) := by decide +kernel
theorem d_Mo_distance_41 : decode c_Mo_distance 41 = .ok (.iadd, 1) := by decide +kernel
theorem d_Mo_distance_42 : decode c_Mo_distance 42 = .ok (.iload 4, 2) := by decide +kernel
theorem d_Mo_distance_44 : decode c_Mo_distance 44 = .ok (.iload 5, 2) := by decide +kernel
theorem d_Mo_distance_46 : decode c_Mo_distance 46 = .ok (.iadd, 1) := by decide +kernel
theorem d_Mo_distance_47 : decode c_Mo_distance 47 = .ok (.iastore, 1) := by decide +kernel
theorem d_Mo_distance_48 : decode c_Mo_distance 48 = .ok (.goto 181, 3) := by decide +kernel
theorem d_Mo_distance_51 : decode c_Mo_distance 51 = .ok (.aload_n 0, 1) := by decide +kernel
theorem d_Mo_distance_52 : decode c_Mo_distance 52 = .ok (.getfield 92, 3) := by decide +kernel
theorem d_Mo_distance_55 : decode c_Mo_distance 55 = .ok (.iload 4, 2) := by decide +kernel
theorem d_Mo_distance_57 : decode c_Mo_distance 57 = .ok (.iconst 1, 1) := by decide +kernel
theorem d_Mo_distance_58 : decode c_Mo_distance 58 = .ok (.isub, 1) := by decide +kernel
