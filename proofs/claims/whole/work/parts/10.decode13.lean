theorem d_Mo_nearest_0 : decode c_Mo_nearest 0 = .ok (.bipush 99, 2) := by decide +kernel
theorem d_Mo_nearest_2 : decode c_Mo_nearest 2 = .ok (.istore_n 2, 1) := by decide +kernel
theorem d_Mo_nearest_3 : decode c_Mo_nearest 3 = .ok (.iconst 0, 1) := by decide +kernel
theorem d_Mo_nearest_4 : decode c_Mo_nearest 4 = .ok (.istore_n 3, 1) := by decide +kernel
theorem d_Mo_nearest_5 : decode c_Mo_nearest 5 = .ok (.iconst 0, 1) := by decide +kernel
theorem d_Mo_nearest_6 : decode c_Mo_nearest 6 = .ok (.istore 4, 2) := by decide +kernel
theorem d_Mo_nearest_8 : decode c_Mo_nearest 8 = .ok (.iload 4, 2) := by decide +kernel
theorem d_Mo_nearest_10 : decode c_Mo_nearest 10 = .ok (.aload_n 0, 1) := by decide +kernel
theorem d_Mo_nearest_11 : decode c_Mo_nearest 11 = .ok (.getfield 155, 3) := by decide +kernel
theorem d_Mo_nearest_14 : decode c_Mo_nearest 14 = .ok (.if_icmp .gt 71, 3) := by decide +kernel
theorem d_Mo_nearest_17 : decode c_Mo_nearest 17 = .ok (.iload 4, 2) := by decide +kernel
theorem d_Mo_nearest_19 : decode c_Mo_nearest 19 = .ok (.aload_n 0, 1) := by decide +kernel
theorem d_Mo_nearest_20 : decode c_Mo_nearest 20 = .ok (.getfield 155, 3) := by decide +kernel
theorem d_Mo_nearest_23 : decode c_Mo_nearest 23 = .ok (.if_icmp .ge 39, 3) := by decide +kernel
theorem d_Mo_nearest_26 : decode c_Mo_nearest 26 = .ok (.aload_n 0, 1) := by decide +kernel
theorem d_Mo_nearest_27 : decode c_Mo_nearest 27 = .ok (.getfield 77, 3) := by decide +kernel
theorem d_Mo_nearest_30 : decode c_Mo_nearest 30 = .ok (.iload 4, 2) := by decide +kernel
theorem d_Mo_nearest_32 : decode c_Mo_nearest 32 = .ok (.iaload, 1) := by decide +kernel
theorem d_Mo_nearest_33 : decode c_Mo_nearest 33 = .ok (.bipush 97, 2) := by decide +kernel
theorem d_Mo_nearest_35 : decode c_Mo_nearest 35 = .ok (.bipush 122, 2) := by decide +kernel
theorem d_Mo_nearest_37 : decode c_Mo_nearest 37 = .ok (.invokestatic 102, 3) := by decide +kernel
theorem d_Mo_nearest_40 : decode c_Mo_nearest 40 = .ok (.ifCond .eq 22, 3) := by decide +kernel
theorem d_Mo_nearest_43 : decode c_Mo_nearest 43 = .ok (.aload_n 0, 1) := by decide +kernel
theorem d_Mo_nearest_44 : decode c_Mo_nearest 44 = .ok (.getfield 86, 3) := by decide +kernel
theorem d_Mo_nearest_47 : decode c_Mo_nearest 47 = .ok (.iload_n 3, 1) := by decide +kernel
theorem d_Mo_nearest_48 : decode c_Mo_nearest 48 = .ok (.aload_n 0, 1) := by decide +kernel
theorem d_Mo_nearest_49 : decode c_Mo_nearest 49 = .ok (.getfield 77, 3) := by decide +kernel
theorem d_Mo_nearest_52 : decode c_Mo_nearest 52 = .ok (.iload 4, 2) := by decide +kernel
theorem d_Mo_nearest_54 : decode c_Mo_nearest 54 = .ok (.iaload, 1) := by decide +kernel
theorem d_Mo_nearest_55 : decode c_Mo_nearest 55 = .ok (.iastore, 1) := by decide +kernel
theorem d_Mo_nearest_56 : decode c_Mo_nearest 56 = .ok (.iinc 3 1, 3) := by decide +kernel
theorem d_Mo_nearest_59 : decode c_Mo_nearest 59 = .ok (.goto 20, 3) := by decide +kernel
theorem d_Mo_nearest_62 : decode c_Mo_nearest 62 = .ok (.iload_n 3, 1) := by decide +kernel
theorem d_Mo_nearest_63 : decode c_Mo_nearest 63 = .ok (.ifCond .le 14, 3) := by decide +kernel
theorem d_Mo_nearest_66 : decode c_Mo_nearest 66 = .ok (.iload_n 2, 1) := by decide +kernel
theorem d_Mo_nearest_67 : decode c_Mo_nearest 67 = .ok (.aload_n 0, 1) := by decide +kernel
theorem d_Mo_nearest_68 : decode c_Mo_nearest 68 = .ok (.iload_n 3, 1) := by decide +kernel
theorem d_Mo_nearest_69 : decode c_Mo_nearest 69 = .ok (.iload_n 1, 1) := by decide +kernel
theorem d_Mo_nearest_70 : decode c_Mo_nearest 70 = .ok (.invokevirtual 161, 3) := by decide +kernel
theorem d_Mo_nearest_73 : decode c_Mo_nearest 73 = .ok (.invokestatic 158, 3) := by decide +kernel
theorem d_Mo_nearest_76 : decode c_Mo_nearest 76 = .ok (.istore_n 2, 1) := by decide +kernel
theorem d_Mo_nearest_77 : decode c_Mo_nearest 77 = .ok (.iconst 0, 1) := by decide +kernel
theorem d_Mo_nearest_78 : decode c_Mo_nearest 78 = .ok (.istore_n 3, 1) := by decide +kernel
theorem d_Mo_nearest_79 : decode c_Mo_nearest 79 = .ok (.iinc 4 1, 3) := by decide +kernel
theorem d_Mo_nearest_82 : decode c_Mo_nearest 82 = .ok (.goto (-74), 3) := by decide +kernel
theorem d_Mo_nearest_85 : decode c_Mo_nearest 85 = .ok (.iload_n 2, 1) := by decide +kernel
theorem d_Mo_nearest_86 : decode c_Mo_nearest 86 = .ok (.ireturn, 1) := by decide +kernel
theorem d_Mo_apartStreet_0 : decode c_Mo_apartStreet 0 = .ok (.bipush 99, 2) := by decide +kernel
theorem d_Mo_apartStreet_2 : decode c_Mo_apartStreet 2 = .ok (.istore_n 2, 1) := by decide +kernel
theorem d_Mo_apartStreet_3 : decode c_Mo_apartStreet 3 = .ok (.iconst 0, 1) := by decide +kernel
theorem d_Mo_apartStreet_4 : decode c_Mo_apartStreet 4 = .ok (.istore_n 3, 1) := by decide +kernel
theorem d_Mo_apartStreet_5 : decode c_Mo_apartStreet 5 = .ok (.iload_n 3, 1) := by decide +kernel
theorem d_Mo_apartStreet_6 : decode c_Mo_apartStreet 6 = .ok (.aload_n 0, 1) := by decide +kernel
theorem d_Mo_apartStreet_7 : decode c_Mo_apartStreet 7 = .ok (.getfield 17, 3) := by decide +kernel
theorem d_Mo_apartStreet_10 : decode c_Mo_apartStreet 10 = .ok (.iload_n 1, 1) := by decide +kernel
theorem d_Mo_apartStreet_11 : decode c_Mo_apartStreet 11 = .ok (.iaload, 1) := by decide +kernel
theorem d_Mo_apartStreet_12 : decode c_Mo_apartStreet 12 = .ok (.if_icmp .ge 83, 3) := by decide +kernel
theorem d_Mo_apartStreet_15 : decode c_Mo_apartStreet 15 = .ok (.iload_n 1, 1) := by decide +kernel
theorem d_Mo_apartStreet_16 : decode c_Mo_apartStreet 16 = .ok (.iconst 3, 1) := by decide +kernel
theorem d_Mo_apartStreet_17 : decode c_Mo_apartStreet 17 = .ok (.imul, 1) := by decide +kernel
theorem d_Mo_apartStreet_18 : decode c_Mo_apartStreet 18 = .ok (.iload_n 3, 1) := by decide +kernel
theorem d_Mo_apartStreet_19 : decode c_Mo_apartStreet 19 = .ok (.iadd, 1) := by decide +kernel
theorem d_Mo_apartStreet_20 : decode c_Mo_apartStreet 20 = .ok (.istore 4, 2) := by decide +kernel
theorem d_Mo_apartStreet_22 : decode c_Mo_apartStreet 22 = .ok (.iconst 0, 1) := by decide +kernel
theorem d_Mo_apartStreet_23 : decode c_Mo_apartStreet 23 = .ok (.istore 5, 2) := by decide +kernel
theorem d_Mo_apartStreet_25 : decode c_Mo_apartStreet 25 = .ok (.iload 5, 2) := by decide +kernel
theorem d_Mo_apartStreet_27 : decode c_Mo_apartStreet 27 = .ok (.aload_n 0, 1) := by decide +kernel
theorem d_Mo_apartStreet_28 : decode c_Mo_apartStreet 28 = .ok (.getfield 20, 3) := by decide +kernel
theorem d_Mo_apartStreet_31 : decode c_Mo_apartStreet 31 = .ok (.iload 4, 2) := by decide +kernel
theorem d_Mo_apartStreet_33 : decode c_Mo_apartStreet 33 = .ok (.iaload, 1) := by decide +kernel
theorem d_Mo_apartStreet_34 : decode c_Mo_apartStreet 34 = .ok (.if_icmp .ge 29, 3) := by decide +kernel
theorem d_Mo_apartStreet_37 : decode c_Mo_apartStreet 37 = .ok (.aload_n 0, 1) := by decide +kernel
theorem d_Mo_apartStreet_38 : decode c_Mo_apartStreet 38 = .ok (.getfield 89, 3) := by decide +kernel
theorem d_Mo_apartStreet_41 : decode c_Mo_apartStreet 41 = .ok (.iload 5, 2) := by decide +kernel
theorem d_Mo_apartStreet_43 : decode c_Mo_apartStreet 43 = .ok (.aload_n 0, 1) := by decide +kernel
theorem d_Mo_apartStreet_44 : decode c_Mo_apartStreet 44 = .ok (.getfield 23, 3) := by decide +kernel
theorem d_Mo_apartStreet_47 : decode c_Mo_apartStreet 47 = .ok (.iload 4, 2) := by decide +kernel
theorem d_Mo_apartStreet_49 : decode c_Mo_apartStreet 49 = .ok (.bipush 16, 2) := by decide +kernel
theorem d_Mo_apartStreet_51 : decode c_Mo_apartStreet 51 = .ok (.imul, 1) := by decide +kernel
theorem d_Mo_apartStreet_52 : decode c_Mo_apartStreet 52 = .ok (.iload 5, 2) := by decide +kernel
theorem d_Mo_apartStreet_54 : decode c_Mo_apartStreet 54 = .ok (.iadd, 1) := by decide +kernel
theorem d_Mo_apartStreet_55 : decode c_Mo_apartStreet 55 = .ok (.iaload, 1) := by decide +kernel
theorem d_Mo_apartStreet_56 : decode c_Mo_apartStreet 56 = .ok (.iastore, 1) := by decide +kernel
theorem d_Mo_apartStreet_57 : decode c_Mo_apartStreet 57 = .ok (.iinc 5 1, 3) := by decide +kernel
theorem d_Mo_apartStreet_60 : decode c_Mo_apartStreet 60 = .ok (.goto (-35), 3) := by decide +kernel
theorem d_Mo_apartStreet_63 : decode c_Mo_apartStreet 63 = .ok (.aload_n 0, 1) := by decide +kernel
theorem d_Mo_apartStreet_64 : decode c_Mo_apartStreet 64 = .ok (.getfield 20, 3) := by decide +kernel
theorem d_Mo_apartStreet_67 : decode c_Mo_apartStreet 67 = .ok (.iload 4, 2) := by decide +kernel
theorem d_Mo_apartStreet_69 : decode c_Mo_apartStreet 69 = .ok (.iaload, 1) := by decide +kernel
theorem d_Mo_apartStreet_70 : decode c_Mo_apartStreet 70 = .ok (.ifCond .le 19, 3) := by decide +kernel
theorem d_Mo_apartStreet_73 : decode c_Mo_apartStreet 73 = .ok (.iload_n 2, 1) := by decide +kernel
theorem d_Mo_apartStreet_74 : decode c_Mo_apartStreet 74 = .ok (.aload_n 0, 1) := by decide +kernel
theorem d_Mo_apartStreet_75 : decode c_Mo_apartStreet 75 = .ok (.aload_n 0, 1) := by decide +kernel
theorem d_Mo_apartStreet_76 : decode c_Mo_apartStreet 76 = .ok (.getfield 20, 3) := by decide +kernel
theorem d_Mo_apartStreet_79 : decode c_Mo_apartStreet 79 = .ok (.iload 4, 2) := by decide +kernel
theorem d_Mo_apartStreet_81 : decode c_Mo_apartStreet 81 = .ok (.iaload, 1) := by decide +kernel
theorem d_Mo_apartStreet_82 : decode c_Mo_apartStreet 82 = .ok (.invokevirtual 164, 3) := by decide +kernel
theorem d_Mo_apartStreet_85 : decode c_Mo_apartStreet 85 = .ok (.invokestatic 158, 3) := by decide +kernel
theorem d_Mo_apartStreet_88 : decode c_Mo_apartStreet 88 = .ok (.istore_n 2, 1) := by decide +kernel
theorem d_Mo_apartStreet_89 : decode c_Mo_apartStreet 89 = .ok (.iinc 3 1, 3) := by decide +kernel
theorem d_Mo_apartStreet_92 : decode c_Mo_apartStreet 92 = .ok (.goto (-87), 3) := by decide +kernel
theorem d_Mo_apartStreet_95 : decode c_Mo_apartStreet 95 = .ok (.iload_n 2, 1) := by decide +kernel
theorem d_Mo_apartStreet_96 : decode c_Mo_apartStreet 96 = .ok (.ireturn, 1) := by decide +kernel
theorem d_Mo_apartMark_0 : decode c_Mo_apartMark 0 = .ok (.iconst 0, 1) := by decide +kernel
theorem d_Mo_apartMark_1 : decode c_Mo_apartMark 1 = .ok (.istore_n 2, 1) := by decide +kernel
theorem d_Mo_apartMark_2 : decode c_Mo_apartMark 2 = .ok (.iload_n 2, 1) := by decide +kernel
theorem d_Mo_apartMark_3 : decode c_Mo_apartMark 3 = .ok (.aload_n 0, 1) := by decide +kernel
theorem d_Mo_apartMark_4 : decode c_Mo_apartMark 4 = .ok (.getfield 59, 3) := by decide +kernel
theorem d_Mo_apartMark_7 : decode c_Mo_apartMark 7 = .ok (.iload_n 1, 1) := by decide +kernel
theorem d_Mo_apartMark_8 : decode c_Mo_apartMark 8 = .ok (.iaload, 1) := by decide +kernel
theorem d_Mo_apartMark_9 : decode c_Mo_apartMark 9 = .ok (.if_icmp .ge 26, 3) := by decide +kernel
theorem d_Mo_apartMark_12 : decode c_Mo_apartMark 12 = .ok (.aload_n 0, 1) := by decide +kernel
theorem d_Mo_apartMark_13 : decode c_Mo_apartMark 13 = .ok (.getfield 89, 3) := by decide +kernel
theorem d_Mo_apartMark_16 : decode c_Mo_apartMark 16 = .ok (.iload_n 2, 1) := by decide +kernel
theorem d_Mo_apartMark_17 : decode c_Mo_apartMark 17 = .ok (.aload_n 0, 1) := by decide +kernel
theorem d_Mo_apartMark_18 : decode c_Mo_apartMark 18 = .ok (.getfield 62, 3) := by decide +kernel
theorem d_Mo_apartMark_21 : decode c_Mo_apartMark 21 = .ok (.iload_n 1, 1) := by decide +kernel
theorem d_Mo_apartMark_22 : decode c_Mo_apartMark 22 = .ok (.bipush 8, 2) := by decide +kernel
theorem d_Mo_apartMark_24 : decode c_Mo_apartMark 24 = .ok (.imul, 1) := by decide +kernel
theorem d_Mo_apartMark_25 : decode c_Mo_apartMark 25 = .ok (.iload_n 2, 1) := by decide +kernel
theorem d_Mo_apartMark_26 : decode c_Mo_apartMark 26 = .ok (.iadd, 1) := by decide +kernel
theorem d_Mo_apartMark_27 : decode c_Mo_apartMark 27 = .ok (.iaload, 1) := by decide +kernel
theorem d_Mo_apartMark_28 : decode c_Mo_apartMark 28 = .ok (.iastore, 1) := by decide +kernel
theorem d_Mo_apartMark_29 : decode c_Mo_apartMark 29 = .ok (.iinc 2 1, 3) := by decide +kernel
theorem d_Mo_apartMark_32 : decode c_Mo_apartMark 32 = .ok (.goto (-30), 3) := by decide +kernel
theorem d_Mo_apartMark_35 : decode c_Mo_apartMark 35 = .ok (.aload_n 0, 1) := by decide +kernel
theorem d_Mo_apartMark_36 : decode c_Mo_apartMark 36 = .ok (.aload_n 0, 1) := by decide +kernel
theorem d_Mo_apartMark_37 : decode c_Mo_apartMark 37 = .ok (.getfield 59, 3) := by decide +kernel
theorem d_Mo_apartMark_40 : decode c_Mo_apartMark 40 = .ok (.iload_n 1, 1) := by decide +kernel
theorem d_Mo_apartMark_41 : decode c_Mo_apartMark 41 = .ok (.iaload, 1) := by decide +kernel
theorem d_Mo_apartMark_42 : decode c_Mo_apartMark 42 = .ok (.invokevirtual 164, 3) := by decide +kernel
theorem d_Mo_apartMark_45 : decode c_Mo_apartMark 45 = .ok (.ireturn, 1) := by decide +kernel
theorem d_Mo_find_0 : decode c_Mo_find 0 = .ok (.aload_n 0, 1) := by decide +kernel
theorem d_Mo_find_1 : decode c_Mo_find 1 = .ok (.bipush 6, 2) := by decide +kernel
theorem d_Mo_find_3 : decode c_Mo_find 3 = .ok (.iconst 1, 1) := by decide +kernel
theorem d_Mo_find_4 : decode c_Mo_find 4 = .ok (.iload_n 1, 1) := by decide +kernel
theorem d_Mo_find_5 : decode c_Mo_find 5 = .ok (.iconst 1, 1) := by decide +kernel
theorem d_Mo_find_6 : decode c_Mo_find 6 = .ok (.bipush 10, 2) := by decide +kernel
theorem d_Mo_find_8 : decode c_Mo_find 8 = .ok (.invokestatic 102, 3) := by decide +kernel
theorem d_Mo_find_11 : decode c_Mo_find 11 = .ok (.aload_n 0, 1) := by decide +kernel
theorem d_Mo_find_12 : decode c_Mo_find 12 = .ok (.getfield 155, 3) := by decide +kernel
theorem d_Mo_find_15 : decode c_Mo_find 15 = .ok (.ifCond .le 7, 3) := by decide +kernel
theorem d_Mo_find_18 : decode c_Mo_find 18 = .ok (.iconst 1, 1) := by decide +kernel
theorem d_Mo_find_19 : decode c_Mo_find 19 = .ok (.goto 4, 3) := by decide +kernel
theorem d_Mo_find_22 : decode c_Mo_find 22 = .ok (.iconst 0, 1) := by decide +kernel
theorem d_Mo_find_23 : decode c_Mo_find 23 = .ok (.iconst 1, 1) := by decide +kernel
theorem d_Mo_find_24 : decode c_Mo_find 24 = .ok (.invokevirtual 110, 3) := by decide +kernel
theorem d_Mo_find_27 : decode c_Mo_find 27 = .ok (.ifCond .ne 5, 3) := by decide +kernel
theorem d_Mo_find_30 : decode c_Mo_find 30 = .ok (.iconst 0, 1) := by decide +kernel
theorem d_Mo_find_31 : decode c_Mo_find 31 = .ok (.ireturn, 1) := by decide +kernel
theorem d_Mo_find_32 : decode c_Mo_find 32 = .ok (.aload_n 0, 1) := by decide +kernel
theorem d_Mo_find_33 : decode c_Mo_find 33 = .ok (.aload_n 0, 1) := by decide +kernel
theorem d_Mo_find_34 : decode c_Mo_find 34 = .ok (.invokevirtual 168, 3) := by decide +kernel
theorem d_Mo_find_37 : decode c_Mo_find 37 = .ok (.putfield 172, 3) := by decide +kernel
theorem d_Mo_find_40 : decode c_Mo_find 40 = .ok (.aload_n 0, 1) := by decide +kernel
theorem d_Mo_find_41 : decode c_Mo_find 41 = .ok (.getfield 99, 3) := by decide +kernel
theorem d_Mo_find_44 : decode c_Mo_find 44 = .ok (.aload_n 0, 1) := by decide +kernel
theorem d_Mo_find_45 : decode c_Mo_find 45 = .ok (.getfield 133, 3) := by decide +kernel
theorem d_Mo_find_48 : decode c_Mo_find 48 = .ok (.iadd, 1) := by decide +kernel
theorem d_Mo_find_49 : decode c_Mo_find 49 = .ok (.istore_n 2, 1) := by decide +kernel
theorem d_Mo_find_50 : decode c_Mo_find 50 = .ok (.iconst 0, 1) := by decide +kernel
theorem d_Mo_find_51 : decode c_Mo_find 51 = .ok (.istore_n 3, 1) := by decide +kernel
theorem d_Mo_find_52 : decode c_Mo_find 52 = .ok (.iload_n 3, 1) := by decide +kernel
theorem d_Mo_find_53 : decode c_Mo_find 53 = .ok (.iload_n 2, 1) := by decide +kernel
theorem d_Mo_find_54 : decode c_Mo_find 54 = .ok (.if_icmp .ge 41, 3) := by decide +kernel
theorem d_Mo_find_57 : decode c_Mo_find 57 = .ok (.aload_n 0, 1) := by decide +kernel
theorem d_Mo_find_58 : decode c_Mo_find 58 = .ok (.getfield 83, 3) := by decide +kernel
theorem d_Mo_find_61 : decode c_Mo_find 61 = .ok (.iload_n 3, 1) := by decide +kernel
theorem d_Mo_find_62 : decode c_Mo_find 62 = .ok (.iload_n 3, 1) := by decide +kernel
theorem d_Mo_find_63 : decode c_Mo_find 63 = .ok (.aload_n 0, 1) := by decide +kernel
theorem d_Mo_find_64 : decode c_Mo_find 64 = .ok (.getfield 99, 3) := by decide +kernel
theorem d_Mo_find_67 : decode c_Mo_find 67 = .ok (.if_icmp .ge 11, 3) := by decide +kernel
theorem d_Mo_find_70 : decode c_Mo_find 70 = .ok (.aload_n 0, 1) := by decide +kernel
theorem d_Mo_find_71 : decode c_Mo_find 71 = .ok (.iload_n 3, 1) := by decide +kernel
theorem d_Mo_find_72 : decode c_Mo_find 72 = .ok (.invokevirtual 175, 3) := by decide +kernel
theorem d_Mo_find_75 : decode c_Mo_find 75 = .ok (.goto 13, 3) := by decide +kernel
theorem d_Mo_find_78 : decode c_Mo_find 78 = .ok (.aload_n 0, 1) := by decide +kernel
theorem d_Mo_find_79 : decode c_Mo_find 79 = .ok (.iload_n 3, 1) := by decide +kernel
theorem d_Mo_find_80 : decode c_Mo_find 80 = .ok (.aload_n 0, 1) := by decide +kernel
theorem d_Mo_find_81 : decode c_Mo_find 81 = .ok (.getfield 99, 3) := by decide +kernel
theorem d_Mo_find_84 : decode c_Mo_find 84 = .ok (.isub, 1) := by decide +kernel
theorem d_Mo_find_85 : decode c_Mo_find 85 = .ok (.invokevirtual 178, 3) := by decide +kernel
theorem d_Mo_find_88 : decode c_Mo_find 88 = .ok (.iastore, 1) := by decide +kernel
theorem d_Mo_find_89 : decode c_Mo_find 89 = .ok (.iinc 3 1, 3) := by decide +kernel
theorem d_Mo_find_92 : decode c_Mo_find 92 = .ok (.goto (-40), 3) := by decide +kernel
theorem d_Mo_find_95 : decode c_Mo_find 95 = .ok (.aload_n 0, 1) := by decide +kernel
theorem d_Mo_find_96 : decode c_Mo_find 96 = .ok (.iconst 0, 1) := by decide +kernel
theorem d_Mo_find_97 : decode c_Mo_find 97 = .ok (.putfield 114, 3) := by decide +kernel
theorem d_Mo_find_100 : decode c_Mo_find 100 = .ok (.aload_n 0, 1) := by decide +kernel
theorem d_Mo_find_101 : decode c_Mo_find 101 = .ok (.getfield 114, 3) := by decide +kernel
theorem d_Mo_find_104 : decode c_Mo_find 104 = .ok (.iload_n 1, 1) := by decide +kernel
theorem d_Mo_find_105 : decode c_Mo_find 105 = .ok (.if_icmp .ge 83, 3) := by decide +kernel
theorem d_Mo_find_108 : decode c_Mo_find 108 = .ok (.aload_n 0, 1) := by decide +kernel
theorem d_Mo_find_109 : decode c_Mo_find 109 = .ok (.getfield 114, 3) := by decide +kernel
theorem d_Mo_find_112 : decode c_Mo_find 112 = .ok (.iload_n 2, 1) := by decide +kernel
theorem d_Mo_find_113 : decode c_Mo_find 113 = .ok (.if_icmp .ge 75, 3) := by decide +kernel
theorem d_Mo_find_116 : decode c_Mo_find 116 = .ok (.iconst (-1), 1) := by decide +kernel
theorem d_Mo_find_117 : decode c_Mo_find 117 = .ok (.istore_n 3, 1) := by decide +kernel
theorem d_Mo_find_118 : decode c_Mo_find 118 = .ok (.iconst 0, 1) := by decide +kernel
theorem d_Mo_find_119 : decode c_Mo_find 119 = .ok (.istore 4, 2) := by decide +kernel
theorem d_Mo_find_121 : decode c_Mo_find 121 = .ok (.iload 4, 2) := by decide +kernel
theorem d_Mo_find_123 : decode c_Mo_find 123 = .ok (.iload_n 2, 1) := by decide +kernel
theorem d_Mo_find_124 : decode c_Mo_find 124 = .ok (.if_icmp .ge 41, 3) := by decide +kernel
theorem d_Mo_find_127 : decode c_Mo_find 127 = .ok (.aload_n 0, 1) := by decide +kernel
theorem d_Mo_find_128 : decode c_Mo_find 128 = .ok (.iload 4, 2) := by decide +kernel
theorem d_Mo_find_130 : decode c_Mo_find 130 = .ok (.invokevirtual 181, 3) := by decide +kernel
theorem d_Mo_find_133 : decode c_Mo_find 133 = .ok (.ifCond .ne 26, 3) := by decide +kernel
theorem d_Mo_find_136 : decode c_Mo_find 136 = .ok (.iload_n 3, 1) := by decide +kernel
theorem d_Mo_find_137 : decode c_Mo_find 137 = .ok (.ifCond .lt 19, 3) := by decide +kernel
theorem d_Mo_find_140 : decode c_Mo_find 140 = .ok (.aload_n 0, 1) := by decide +kernel
theorem d_Mo_find_141 : decode c_Mo_find 141 = .ok (.getfield 83, 3) := by decide +kernel
theorem d_Mo_find_144 : decode c_Mo_find 144 = .ok (.iload 4, 2) := by decide +kernel
theorem d_Mo_find_146 : decode c_Mo_find 146 = .ok (.iaload, 1) := by decide +kernel
theorem d_Mo_find_147 : decode c_Mo_find 147 = .ok (.aload_n 0, 1) := by decide +kernel
theorem d_Mo_find_148 : decode c_Mo_find 148 = .ok (.getfield 83, 3) := by decide +kernel
theorem d_Mo_find_151 : decode c_Mo_find 151 = .ok (.iload_n 3, 1) := by decide +kernel
theorem d_Mo_find_152 : decode c_Mo_find 152 = .ok (.iaload, 1) := by decide +kernel
theorem d_Mo_find_153 : decode c_Mo_find 153 = .ok (.if_icmp .ge 6, 3) := by decide +kernel
theorem d_Mo_find_156 : decode c_Mo_find 156 = .ok (.iload 4, 2) := by decide +kernel
theorem d_Mo_find_158 : decode c_Mo_find 158 = .ok (.istore_n 3, 1) := by decide +kernel
theorem d_Mo_find_159 : decode c_Mo_find 159 = .ok (.iinc 4 1, 3) := by decide +kernel
theorem d_Mo_find_162 : decode c_Mo_find 162 = .ok (.goto (-41), 3) := by decide +kernel
theorem d_Mo_find_165 : decode c_Mo_find 165 = .ok (.aload_n 0, 1) := by decide +kernel
theorem d_Mo_find_166 : decode c_Mo_find 166 = .ok (.getfield 80, 3) := by decide +kernel
theorem d_Mo_find_169 : decode c_Mo_find 169 = .ok (.aload_n 0, 1) := by decide +kernel
theorem d_Mo_find_170 : decode c_Mo_find 170 = .ok (.getfield 114, 3) := by decide +kernel
theorem d_Mo_find_173 : decode c_Mo_find 173 = .ok (.iload_n 3, 1) := by decide +kernel
theorem d_Mo_find_174 : decode c_Mo_find 174 = .ok (.iastore, 1) := by decide +kernel
theorem d_Mo_find_175 : decode c_Mo_find 175 = .ok (.aload_n 0, 1) := by decide +kernel
theorem d_Mo_find_176 : decode c_Mo_find 176 = .ok (.dup, 1) := by decide +kernel
theorem d_Mo_find_177 : decode c_Mo_find 177 = .ok (.getfield 114, 3) := by decide +kernel
theorem d_Mo_find_180 : decode c_Mo_find 180 = .ok (.iconst 1, 1) := by decide +kernel
theorem d_Mo_find_181 : decode c_Mo_find 181 = .ok (.iadd, 1) := by decide +kernel
theorem d_Mo_find_182 : decode c_Mo_find 182 = .ok (.putfield 114, 3) := by decide +kernel
theorem d_Mo_find_185 : decode c_Mo_find 185 = .ok (.goto (-85), 3) := by decide +kernel
theorem d_Mo_find_188 : decode c_Mo_find 188 = .ok (.aload_n 0, 1) := by decide +kernel
theorem d_Mo_find_189 : decode c_Mo_find 189 = .ok (.getfield 114, 3) := by decide +kernel
theorem d_Mo_find_192 : decode c_Mo_find 192 = .ok (.ireturn, 1) := by decide +kernel
theorem d_Mo_isFound_0 : decode c_Mo_isFound 0 = .ok (.iconst 0, 1) := by decide +kernel
theorem d_Mo_isFound_1 : decode c_Mo_isFound 1 = .ok (.istore_n 2, 1) := by decide +kernel
theorem d_Mo_isFound_2 : decode c_Mo_isFound 2 = .ok (.iload_n 2, 1) := by decide +kernel
theorem d_Mo_isFound_3 : decode c_Mo_isFound 3 = .ok (.aload_n 0, 1) := by decide +kernel
theorem d_Mo_isFound_4 : decode c_Mo_isFound 4 = .ok (.getfield 114, 3) := by decide +kernel
theorem d_Mo_isFound_7 : decode c_Mo_isFound 7 = .ok (.if_icmp .ge 21, 3) := by decide +kernel
theorem d_Mo_isFound_10 : decode c_Mo_isFound 10 = .ok (.aload_n 0, 1) := by decide +kernel
theorem d_Mo_isFound_11 : decode c_Mo_isFound 11 = .ok (.getfield 80, 3) := by decide +kernel
theorem d_Mo_isFound_14 : decode c_Mo_isFound 14 = .ok (.iload_n 2, 1) := by decide +kernel
theorem d_Mo_isFound_15 : decode c_Mo_isFound 15 = .ok (.iaload, 1) := by decide +kernel
theorem d_Mo_isFound_16 : decode c_Mo_isFound 16 = .ok (.iload_n 1, 1) := by decide +kernel
theorem d_Mo_isFound_17 : decode c_Mo_isFound 17 = .ok (.if_icmp .ne 5, 3) := by decide +kernel
theorem d_Mo_isFound_20 : decode c_Mo_isFound 20 = .ok (.iconst 1, 1) := by decide +kernel
theorem d_Mo_isFound_21 : decode c_Mo_isFound 21 = .ok (.ireturn, 1) := by decide +kernel
theorem d_Mo_isFound_22 : decode c_Mo_isFound 22 = .ok (.iinc 2 1, 3) := by decide +kernel
theorem d_Mo_isFound_25 : decode c_Mo_isFound 25 = .ok (.goto (-23), 3) := by decide +kernel
theorem d_Mo_isFound_28 : decode c_Mo_isFound 28 = .ok (.iconst 0, 1) := by decide +kernel
theorem d_Mo_isFound_29 : decode c_Mo_isFound 29 = .ok (.ireturn, 1) := by decide +kernel
theorem d_Mo_isHouse_0 : decode c_Mo_isHouse 0 = .ok (.iload_n 1, 1) := by decide +kernel
theorem d_Mo_isHouse_1 : decode c_Mo_isHouse 1 = .ok (.bipush 6, 2) := by decide +kernel
theorem d_Mo_isHouse_3 : decode c_Mo_isHouse 3 = .ok (.imul, 1) := by decide +kernel
theorem d_Mo_isHouse_4 : decode c_Mo_isHouse 4 = .ok (.istore_n 3, 1) := by decide +kernel
theorem d_Mo_isHouse_5 : decode c_Mo_isHouse 5 = .ok (.iload_n 3, 1) := by decide +kernel
theorem d_Mo_isHouse_6 : decode c_Mo_isHouse 6 = .ok (.iload_n 1, 1) := by decide +kernel
theorem d_Mo_isHouse_7 : decode c_Mo_isHouse 7 = .ok (.bipush 6, 2) := by decide +kernel
theorem d_Mo_isHouse_9 : decode c_Mo_isHouse 9 = .ok (.imul, 1) := by decide +kernel
theorem d_Mo_isHouse_10 : decode c_Mo_isHouse 10 = .ok (.aload_n 0, 1) := by decide +kernel
theorem d_Mo_isHouse_11 : decode c_Mo_isHouse 11 = .ok (.getfield 26, 3) := by decide +kernel
theorem d_Mo_isHouse_14 : decode c_Mo_isHouse 14 = .ok (.iload_n 1, 1) := by decide +kernel
theorem d_Mo_isHouse_15 : decode c_Mo_isHouse 15 = .ok (.iaload, 1) := by decide +kernel
theorem d_Mo_isHouse_16 : decode c_Mo_isHouse 16 = .ok (.iadd, 1) := by decide +kernel
theorem d_Mo_isHouse_17 : decode c_Mo_isHouse 17 = .ok (.if_icmp .ge 43, 3) := by decide +kernel
theorem d_Mo_isHouse_20 : decode c_Mo_isHouse 20 = .ok (.iload_n 2, 1) := by decide +kernel
theorem d_Mo_isHouse_21 : decode c_Mo_isHouse 21 = .ok (.aload_n 0, 1) := by decide +kernel
theorem d_Mo_isHouse_22 : decode c_Mo_isHouse 22 = .ok (.getfield 32, 3) := by decide +kernel
theorem d_Mo_isHouse_25 : decode c_Mo_isHouse 25 = .ok (.iload_n 3, 1) := by decide +kernel
theorem d_Mo_isHouse_26 : decode c_Mo_isHouse 26 = .ok (.iaload, 1) := by decide +kernel
theorem d_Mo_isHouse_27 : decode c_Mo_isHouse 27 = .ok (.aload_n 0, 1) := by decide +kernel
theorem d_Mo_isHouse_28 : decode c_Mo_isHouse 28 = .ok (.getfield 35, 3) := by decide +kernel
theorem d_Mo_isHouse_31 : decode c_Mo_isHouse 31 = .ok (.iload_n 3, 1) := by decide +kernel
theorem d_Mo_isHouse_32 : decode c_Mo_isHouse 32 = .ok (.iaload, 1) := by decide +kernel
theorem d_Mo_isHouse_33 : decode c_Mo_isHouse 33 = .ok (.invokestatic 102, 3) := by decide +kernel
theorem d_Mo_isHouse_36 : decode c_Mo_isHouse 36 = .ok (.ifCond .eq 18, 3) := by decide +kernel
theorem d_Mo_isHouse_39 : decode c_Mo_isHouse 39 = .ok (.aload_n 0, 1) := by decide +kernel
theorem d_Mo_isHouse_40 : decode c_Mo_isHouse 40 = .ok (.getfield 29, 3) := by decide +kernel
theorem d_Mo_isHouse_43 : decode c_Mo_isHouse 43 = .ok (.iload_n 3, 1) := by decide +kernel
theorem d_Mo_isHouse_44 : decode c_Mo_isHouse 44 = .ok (.iaload, 1) := by decide +kernel
theorem d_Mo_isHouse_45 : decode c_Mo_isHouse 45 = .ok (.iload_n 2, 1) := by decide +kernel
theorem d_Mo_isHouse_46 : decode c_Mo_isHouse 46 = .ok (.invokestatic 125, 3) := by decide +kernel
theorem d_Mo_isHouse_49 : decode c_Mo_isHouse 49 = .ok (.ifCond .eq 5, 3) := by decide +kernel
theorem d_Mo_isHouse_52 : decode c_Mo_isHouse 52 = .ok (.iconst 1, 1) := by decide +kernel
theorem d_Mo_isHouse_53 : decode c_Mo_isHouse 53 = .ok (.ireturn, 1) := by decide +kernel
theorem d_Mo_isHouse_54 : decode c_Mo_isHouse 54 = .ok (.iinc 3 1, 3) := by decide +kernel
theorem d_Mo_isHouse_57 : decode c_Mo_isHouse 57 = .ok (.goto (-52), 3) := by decide +kernel
theorem d_Mo_isHouse_60 : decode c_Mo_isHouse 60 = .ok (.iconst 0, 1) := by decide +kernel
theorem d_Mo_isHouse_61 : decode c_Mo_isHouse 61 = .ok (.ireturn, 1) := by decide +kernel
theorem d_Mo_nearestHouse_0 : decode c_Mo_nearestHouse 0 = .ok (.aload_n 0, 1) := by decide +kernel
theorem d_Mo_nearestHouse_1 : decode c_Mo_nearestHouse 1 = .ok (.getfield 26, 3) := by decide +kernel
theorem d_Mo_nearestHouse_4 : decode c_Mo_nearestHouse 4 = .ok (.iload_n 1, 1) := by decide +kernel
theorem d_Mo_nearestHouse_5 : decode c_Mo_nearestHouse 5 = .ok (.iaload, 1) := by decide +kernel
theorem d_Mo_nearestHouse_6 : decode c_Mo_nearestHouse 6 = .ok (.ifCond .ne 5, 3) := by decide +kernel
theorem d_Mo_nearestHouse_9 : decode c_Mo_nearestHouse 9 = .ok (.iload_n 2, 1) := by decide +kernel
theorem d_Mo_nearestHouse_10 : decode c_Mo_nearestHouse 10 = .ok (.ireturn, 1) := by decide +kernel
theorem d_Mo_nearestHouse_11 : decode c_Mo_nearestHouse 11 = .ok (.iconst 0, 1) := by decide +kernel
theorem d_Mo_nearestHouse_12 : decode c_Mo_nearestHouse 12 = .ok (.istore_n 3, 1) := by decide +kernel
theorem d_Mo_nearestHouse_13 : decode c_Mo_nearestHouse 13 = .ok (.iload_n 3, 1) := by decide +kernel
theorem d_Mo_nearestHouse_14 : decode c_Mo_nearestHouse 14 = .ok (.sipush 9999, 3) := by decide +kernel
theorem d_Mo_nearestHouse_17 : decode c_Mo_nearestHouse 17 = .ok (.if_icmp .gt 39, 3) := by decide +kernel
theorem d_Mo_nearestHouse_20 : decode c_Mo_nearestHouse 20 = .ok (.aload_n 0, 1) := by decide +kernel
theorem d_Mo_nearestHouse_21 : decode c_Mo_nearestHouse 21 = .ok (.iload_n 1, 1) := by decide +kernel
theorem d_Mo_nearestHouse_22 : decode c_Mo_nearestHouse 22 = .ok (.iload_n 2, 1) := by decide +kernel
theorem d_Mo_nearestHouse_23 : decode c_Mo_nearestHouse 23 = .ok (.iload_n 3, 1) := by decide +kernel
theorem d_Mo_nearestHouse_24 : decode c_Mo_nearestHouse 24 = .ok (.isub, 1) := by decide +kernel
theorem d_Mo_nearestHouse_25 : decode c_Mo_nearestHouse 25 = .ok (.invokevirtual 184, 3) := by decide +kernel
theorem d_Mo_nearestHouse_28 : decode c_Mo_nearestHouse 28 = .ok (.ifCond .eq 7, 3) := by decide +kernel
theorem d_Mo_nearestHouse_31 : decode c_Mo_nearestHouse 31 = .ok (.iload_n 2, 1) := by decide +kernel
theorem d_Mo_nearestHouse_32 : decode c_Mo_nearestHouse 32 = .ok (.iload_n 3, 1) := by decide +kernel
theorem d_Mo_nearestHouse_33 : decode c_Mo_nearestHouse 33 = .ok (.isub, 1) := by decide +kernel
theorem d_Mo_nearestHouse_34 : decode c_Mo_nearestHouse 34 = .ok (.ireturn, 1) := by decide +kernel
theorem d_Mo_nearestHouse_35 : decode c_Mo_nearestHouse 35 = .ok (.aload_n 0, 1) := by decide +kernel
theorem d_Mo_nearestHouse_36 : decode c_Mo_nearestHouse 36 = .ok (.iload_n 1, 1) := by decide +kernel
theorem d_Mo_nearestHouse_37 : decode c_Mo_nearestHouse 37 = .ok (.iload_n 2, 1) := by decide +kernel
theorem d_Mo_nearestHouse_38 : decode c_Mo_nearestHouse 38 = .ok (.iload_n 3, 1) := by decide +kernel
theorem d_Mo_nearestHouse_39 : decode c_Mo_nearestHouse 39 = .ok (.iadd, 1) := by decide +kernel
theorem d_Mo_nearestHouse_40 : decode c_Mo_nearestHouse 40 = .ok (.invokevirtual 184, 3) := by decide +kernel
theorem d_Mo_nearestHouse_43 : decode c_Mo_nearestHouse 43 = .ok (.ifCond .eq 7, 3) := by decide +kernel
theorem d_Mo_nearestHouse_46 : decode c_Mo_nearestHouse 46 = .ok (.iload_n 2, 1) := by decide +kernel
theorem d_Mo_nearestHouse_47 : decode c_Mo_nearestHouse 47 = .ok (.iload_n 3, 1) := by decide +kernel
theorem d_Mo_nearestHouse_48 : decode c_Mo_nearestHouse 48 = .ok (.iadd, 1) := by decide +kernel
theorem d_Mo_nearestHouse_49 : decode c_Mo_nearestHouse 49 = .ok (.ireturn, 1) := by decide +kernel
theorem d_Mo_nearestHouse_50 : decode c_Mo_nearestHouse 50 = .ok (.iinc 3 1, 3) := by decide +kernel
theorem d_Mo_nearestHouse_53 : decode c_Mo_nearestHouse 53 = .ok (.goto (-40), 3) := by decide +kernel
theorem d_Mo_nearestHouse_56 : decode c_Mo_nearestHouse 56 = .ok (.iload_n 2, 1) := by decide +kernel
theorem d_Mo_nearestHouse_57 : decode c_Mo_nearestHouse 57 = .ok (.ireturn, 1) := by decide +kernel
theorem d_Mo_reason_0 : decode c_Mo_reason 0 = .ok (.aload_n 0, 1) := by decide +kernel
theorem d_Mo_reason_1 : decode c_Mo_reason 1 = .ok (.getfield 172, 3) := by decide +kernel
theorem d_Mo_reason_4 : decode c_Mo_reason 4 = .ok (.ifCond .ne 7, 3) := by decide +kernel
theorem d_Mo_reason_7 : decode c_Mo_reason 7 = .ok (.iconst 2, 1) := by decide +kernel
theorem d_Mo_reason_8 : decode c_Mo_reason 8 = .ok (.goto 20, 3) := by decide +kernel
theorem d_Mo_reason_11 : decode c_Mo_reason 11 = .ok (.aload_n 0, 1) := by decide +kernel
theorem d_Mo_reason_12 : decode c_Mo_reason 12 = .ok (.iload_n 1, 1) := by decide +kernel
theorem d_Mo_reason_13 : decode c_Mo_reason 13 = .ok (.aload_n 0, 1) := by decide +kernel
theorem d_Mo_reason_14 : decode c_Mo_reason 14 = .ok (.getfield 172, 3) := by decide +kernel
theorem d_Mo_reason_17 : decode c_Mo_reason 17 = .ok (.invokevirtual 184, 3) := by decide +kernel
theorem d_Mo_reason_20 : decode c_Mo_reason 20 = .ok (.ifCond .eq 7, 3) := by decide +kernel
theorem d_Mo_reason_23 : decode c_Mo_reason 23 = .ok (.iconst 0, 1) := by decide +kernel
theorem d_Mo_reason_24 : decode c_Mo_reason 24 = .ok (.goto 4, 3) := by decide +kernel
theorem d_Mo_reason_27 : decode c_Mo_reason 27 = .ok (.iconst 1, 1) := by decide +kernel
theorem d_Mo_reason_28 : decode c_Mo_reason 28 = .ok (.ireturn, 1) := by decide +kernel
theorem d_Mo_place_0 : decode c_Mo_place 0 = .ok (.aload_n 0, 1) := by decide +kernel
theorem d_Mo_place_1 : decode c_Mo_place 1 = .ok (.iconst 3, 1) := by decide +kernel
theorem d_Mo_place_2 : decode c_Mo_place 2 = .ok (.iload_n 1, 1) := by decide +kernel
theorem d_Mo_place_3 : decode c_Mo_place 3 = .ok (.iconst 0, 1) := by decide +kernel
theorem d_Mo_place_4 : decode c_Mo_place 4 = .ok (.aload_n 0, 1) := by decide +kernel
theorem d_Mo_place_5 : decode c_Mo_place 5 = .ok (.getfield 114, 3) := by decide +kernel
theorem d_Mo_place_8 : decode c_Mo_place 8 = .ok (.iconst 1, 1) := by decide +kernel
theorem d_Mo_place_9 : decode c_Mo_place 9 = .ok (.isub, 1) := by decide +kernel
theorem d_Mo_place_10 : decode c_Mo_place 10 = .ok (.invokestatic 102, 3) := by decide +kernel
theorem d_Mo_place_13 : decode c_Mo_place 13 = .ok (.iload_n 2, 1) := by decide +kernel
theorem d_Mo_place_14 : decode c_Mo_place 14 = .ok (.iconst 0, 1) := by decide +kernel
theorem d_Mo_place_15 : decode c_Mo_place 15 = .ok (.iconst 5, 1) := by decide +kernel
theorem d_Mo_place_16 : decode c_Mo_place 16 = .ok (.invokestatic 102, 3) := by decide +kernel
theorem d_Mo_place_19 : decode c_Mo_place 19 = .ok (.iconst 1, 1) := by decide +kernel
theorem d_Mo_place_20 : decode c_Mo_place 20 = .ok (.iconst 1, 1) := by decide +kernel
theorem d_Mo_place_21 : decode c_Mo_place 21 = .ok (.invokevirtual 110, 3) := by decide +kernel
theorem d_Mo_place_24 : decode c_Mo_place 24 = .ok (.ifCond .ne 5, 3) := by decide +kernel
theorem d_Mo_place_27 : decode c_Mo_place 27 = .ok (.iconst 0, 1) := by decide +kernel
theorem d_Mo_place_28 : decode c_Mo_place 28 = .ok (.ireturn, 1) := by decide +kernel
theorem d_Mo_place_29 : decode c_Mo_place 29 = .ok (.aload_n 0, 1) := by decide +kernel
theorem d_Mo_place_30 : decode c_Mo_place 30 = .ok (.getfield 80, 3) := by decide +kernel
theorem d_Mo_place_33 : decode c_Mo_place 33 = .ok (.iload_n 1, 1) := by decide +kernel
theorem d_Mo_place_34 : decode c_Mo_place 34 = .ok (.iaload, 1) := by decide +kernel
theorem d_Mo_place_35 : decode c_Mo_place 35 = .ok (.istore_n 3, 1) := by decide +kernel
theorem d_Mo_place_36 : decode c_Mo_place 36 = .ok (.iload_n 3, 1) := by decide +kernel
theorem d_Mo_place_37 : decode c_Mo_place 37 = .ok (.aload_n 0, 1) := by decide +kernel
theorem d_Mo_place_38 : decode c_Mo_place 38 = .ok (.getfield 99, 3) := by decide +kernel
theorem d_Mo_place_41 : decode c_Mo_place 41 = .ok (.if_icmp .ge 7, 3) := by decide +kernel
theorem d_Mo_place_44 : decode c_Mo_place 44 = .ok (.iconst (-1), 1) := by decide +kernel
theorem d_Mo_place_45 : decode c_Mo_place 45 = .ok (.goto 9, 3) := by decide +kernel
theorem d_Mo_place_48 : decode c_Mo_place 48 = .ok (.iload_n 3, 1) := by decide +kernel
theorem d_Mo_place_49 : decode c_Mo_place 49 = .ok (.aload_n 0, 1) := by decide +kernel
theorem d_Mo_place_50 : decode c_Mo_place 50 = .ok (.getfield 99, 3) := by decide +kernel
theorem d_Mo_place_53 : decode c_Mo_place 53 = .ok (.isub, 1) := by decide +kernel
theorem d_Mo_place_54 : decode c_Mo_place 54 = .ok (.istore 4, 2) := by decide +kernel
theorem d_Mo_place_56 : decode c_Mo_place 56 = .ok (.iload 4, 2) := by decide +kernel
theorem d_Mo_place_58 : decode c_Mo_place 58 = .ok (.ifCond .ge 7, 3) := by decide +kernel
theorem d_Mo_place_61 : decode c_Mo_place 61 = .ok (.iload_n 3, 1) := by decide +kernel
theorem d_Mo_place_62 : decode c_Mo_place 62 = .ok (.goto 10, 3) := by decide +kernel
theorem d_Mo_place_65 : decode c_Mo_place 65 = .ok (.aload_n 0, 1) := by decide +kernel
theorem d_Mo_place_66 : decode c_Mo_place 66 = .ok (.getfield 53, 3) := by decide +kernel
theorem d_Mo_place_69 : decode c_Mo_place 69 = .ok (.iload 4, 2) := by decide +kernel
theorem d_Mo_place_71 : decode c_Mo_place 71 = .ok (.iaload, 1) := by decide +kernel
theorem d_Mo_place_72 : decode c_Mo_place 72 = .ok (.istore 5, 2) := by decide +kernel
theorem d_Mo_place_74 : decode c_Mo_place 74 = .ok (.iload 4, 2) := by decide +kernel
theorem d_Mo_place_76 : decode c_Mo_place 76 = .ok (.ifCond .ge 12, 3) := by decide +kernel
theorem d_Mo_place_79 : decode c_Mo_place 79 = .ok (.aload_n 0, 1) := by decide +kernel
theorem d_Mo_place_80 : decode c_Mo_place 80 = .ok (.iload 5, 2) := by decide +kernel
theorem d_Mo_place_82 : decode c_Mo_place 82 = .ok (.invokevirtual 187, 3) := by decide +kernel
theorem d_Mo_place_85 : decode c_Mo_place 85 = .ok (.goto 4, 3) := by decide +kernel
theorem d_Mo_place_88 : decode c_Mo_place 88 = .ok (.iconst 3, 1) := by decide +kernel
theorem d_Mo_place_89 : decode c_Mo_place 89 = .ok (.istore 6, 2) := by decide +kernel
theorem d_Mo_place_91 : decode c_Mo_place 91 = .ok (.iload_n 2, 1) := by decide +kernel
