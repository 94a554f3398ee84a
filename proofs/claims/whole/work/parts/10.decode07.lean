theorem d_Mo_goes_0 : decode c_Mo_goes 0 = .ok (.iload_n 2, 1) := by decide +kernel
theorem d_Mo_goes_1 : decode c_Mo_goes 1 = .ok (.ifCond .ne 7, 3) := by decide +kernel
theorem d_Mo_goes_4 : decode c_Mo_goes 4 = .ok (.iconst 1, 1) := by decide +kernel
theorem d_Mo_goes_5 : decode c_Mo_goes 5 = .ok (.goto 31, 3) := by decide +kernel
theorem d_Mo_goes_8 : decode c_Mo_goes 8 = .ok (.iload_n 3, 1) := by decide +kernel
theorem d_Mo_goes_9 : decode c_Mo_goes 9 = .ok (.ifCond .ne 7, 3) := by decide +kernel
theorem d_Mo_goes_12 : decode c_Mo_goes 12 = .ok (.iconst 2, 1) := by decide +kernel
theorem d_Mo_goes_13 : decode c_Mo_goes 13 = .ok (.goto 23, 3) := by decide +kernel
theorem d_Mo_goes_16 : decode c_Mo_goes 16 = .ok (.iload 4, 2) := by decide +kernel
theorem d_Mo_goes_18 : decode c_Mo_goes 18 = .ok (.ifCond .ne 7, 3) := by decide +kernel
theorem d_Mo_goes_21 : decode c_Mo_goes 21 = .ok (.iconst 4, 1) := by decide +kernel
theorem d_Mo_goes_22 : decode c_Mo_goes 22 = .ok (.goto 14, 3) := by decide +kernel
theorem d_Mo_goes_25 : decode c_Mo_goes 25 = .ok (.iload 5, 2) := by decide +kernel
theorem d_Mo_goes_27 : decode c_Mo_goes 27 = .ok (.ifCond .ne 8, 3) := by decide +kernel
theorem d_Mo_goes_30 : decode c_Mo_goes 30 = .ok (.bipush 8, 2) := by decide +kernel
theorem d_Mo_goes_32 : decode c_Mo_goes 32 = .ok (.goto 4, 3) := by decide +kernel
theorem d_Mo_goes_35 : decode c_Mo_goes 35 = .ok (.iconst 0, 1) := by decide +kernel
theorem d_Mo_goes_36 : decode c_Mo_goes 36 = .ok (.istore 6, 2) := by decide +kernel
theorem d_Mo_goes_38 : decode c_Mo_goes 38 = .ok (.aload_n 0, 1) := by decide +kernel
theorem d_Mo_goes_39 : decode c_Mo_goes 39 = .ok (.iconst 0, 1) := by decide +kernel
theorem d_Mo_goes_40 : decode c_Mo_goes 40 = .ok (.putfield 95, 3) := by decide +kernel
theorem d_Mo_goes_43 : decode c_Mo_goes 43 = .ok (.iconst 1, 1) := by decide +kernel
theorem d_Mo_goes_44 : decode c_Mo_goes 44 = .ok (.istore 7, 2) := by decide +kernel
theorem d_Mo_goes_46 : decode c_Mo_goes 46 = .ok (.iload 7, 2) := by decide +kernel
theorem d_Mo_goes_48 : decode c_Mo_goes 48 = .ok (.iload 6, 2) := by decide +kernel
theorem d_Mo_goes_50 : decode c_Mo_goes 50 = .ok (.if_icmp .gt 29, 3) := by decide +kernel
theorem d_Mo_goes_53 : decode c_Mo_goes 53 = .ok (.iload_n 1, 1) := by decide +kernel
theorem d_Mo_goes_54 : decode c_Mo_goes 54 = .ok (.iload 7, 2) := by decide +kernel
theorem d_Mo_goes_56 : decode c_Mo_goes 56 = .ok (.iand, 1) := by decide +kernel
theorem d_Mo_goes_57 : decode c_Mo_goes 57 = .ok (.ifCond .le 13, 3) := by decide +kernel
theorem d_Mo_goes_60 : decode c_Mo_goes 60 = .ok (.aload_n 0, 1) := by decide +kernel
theorem d_Mo_goes_61 : decode c_Mo_goes 61 = .ok (.dup, 1) := by decide +kernel
theorem d_Mo_goes_62 : decode c_Mo_goes 62 = .ok (.getfield 95, 3) := by decide +kernel
theorem d_Mo_goes_65 : decode c_Mo_goes 65 = .ok (.iconst 1, 1) := by decide +kernel
theorem d_Mo_goes_66 : decode c_Mo_goes 66 = .ok (.iadd, 1) := by decide +kernel
theorem d_Mo_goes_67 : decode c_Mo_goes 67 = .ok (.putfield 95, 3) := by decide +kernel
theorem d_Mo_goes_70 : decode c_Mo_goes 70 = .ok (.iconst 2, 1) := by decide +kernel
theorem d_Mo_goes_71 : decode c_Mo_goes 71 = .ok (.iload 7, 2) := by decide +kernel
theorem d_Mo_goes_73 : decode c_Mo_goes 73 = .ok (.imul, 1) := by decide +kernel
theorem d_Mo_goes_74 : decode c_Mo_goes 74 = .ok (.istore 7, 2) := by decide +kernel
theorem d_Mo_goes_76 : decode c_Mo_goes 76 = .ok (.goto (-30), 3) := by decide +kernel
theorem d_Mo_goes_79 : decode c_Mo_goes 79 = .ok (.iload 6, 2) := by decide +kernel
theorem d_Mo_goes_81 : decode c_Mo_goes 81 = .ok (.ifCond .ne 7, 3) := by decide +kernel
theorem d_Mo_goes_84 : decode c_Mo_goes 84 = .ok (.iconst 1, 1) := by decide +kernel
theorem d_Mo_goes_85 : decode c_Mo_goes 85 = .ok (.goto 4, 3) := by decide +kernel
theorem d_Mo_goes_88 : decode c_Mo_goes 88 = .ok (.iconst 0, 1) := by decide +kernel
theorem d_Mo_goes_89 : decode c_Mo_goes 89 = .ok (.ireturn, 1) := by decide +kernel
theorem d_Mo_isStreet_0 : decode c_Mo_isStreet 0 = .ok (.iload_n 1, 1) := by decide +kernel
theorem d_Mo_isStreet_1 : decode c_Mo_isStreet 1 = .ok (.iconst 0, 1) := by decide +kernel
theorem d_Mo_isStreet_2 : decode c_Mo_isStreet 2 = .ok (.aload_n 0, 1) := by decide +kernel
theorem d_Mo_isStreet_3 : decode c_Mo_isStreet 3 = .ok (.getfield 99, 3) := by decide +kernel
theorem d_Mo_isStreet_6 : decode c_Mo_isStreet 6 = .ok (.iconst 1, 1) := by decide +kernel
theorem d_Mo_isStreet_7 : decode c_Mo_isStreet 7 = .ok (.isub, 1) := by decide +kernel
theorem d_Mo_isStreet_8 : decode c_Mo_isStreet 8 = .ok (.invokestatic 102, 3) := by decide +kernel
theorem d_Mo_isStreet_11 : decode c_Mo_isStreet 11 = .ok (.ireturn, 1) := by decide +kernel
theorem d_Mo_byteOf_0 : decode c_Mo_byteOf 0 = .ok (.lload_n 0, 1) := by decide +kernel
theorem d_Mo_byteOf_1 : decode c_Mo_byteOf 1 = .ok (.bipush 8, 2) := by decide +kernel
theorem d_Mo_byteOf_3 : decode c_Mo_byteOf 3 = .ok (.iload_n 2, 1) := by decide +kernel
theorem d_Mo_byteOf_4 : decode c_Mo_byteOf 4 = .ok (.iconst 1, 1) := by decide +kernel
theorem d_Mo_byteOf_5 : decode c_Mo_byteOf 5 = .ok (.isub, 1) := by decide +kernel
theorem d_Mo_byteOf_6 : decode c_Mo_byteOf 6 = .ok (.iload_n 3, 1) := by decide +kernel
theorem d_Mo_byteOf_7 : decode c_Mo_byteOf 7 = .ok (.isub, 1) := by decide +kernel
theorem d_Mo_byteOf_8 : decode c_Mo_byteOf 8 = .ok (.imul, 1) := by decide +kernel
theorem d_Mo_byteOf_9 : decode c_Mo_byteOf 9 = .ok (.lshr, 1) := by decide +kernel
theorem d_Mo_byteOf_10 : decode c_Mo_byteOf 10 = .ok (.l2i, 1) := by decide +kernel
theorem d_Mo_byteOf_11 : decode c_Mo_byteOf 11 = .ok (.sipush 255, 3) := by decide +kernel
theorem d_Mo_byteOf_14 : decode c_Mo_byteOf 14 = .ok (.iand, 1) := by decide +kernel
theorem d_Mo_byteOf_15 : decode c_Mo_byteOf 15 = .ok (.ireturn, 1) := by decide +kernel
theorem d_Mo_areLetters_0 : decode c_Mo_areLetters 0 = .ok (.iconst 0, 1) := by decide +kernel
theorem d_Mo_areLetters_1 : decode c_Mo_areLetters 1 = .ok (.istore_n 3, 1) := by decide +kernel
theorem d_Mo_areLetters_2 : decode c_Mo_areLetters 2 = .ok (.iload_n 3, 1) := by decide +kernel
theorem d_Mo_areLetters_3 : decode c_Mo_areLetters 3 = .ok (.iload_n 2, 1) := by decide +kernel
theorem d_Mo_areLetters_4 : decode c_Mo_areLetters 4 = .ok (.if_icmp .ge 27, 3) := by decide +kernel
theorem d_Mo_areLetters_7 : decode c_Mo_areLetters 7 = .ok (.lload_n 0, 1) := by decide +kernel
theorem d_Mo_areLetters_8 : decode c_Mo_areLetters 8 = .ok (.iload_n 2, 1) := by decide +kernel
theorem d_Mo_areLetters_9 : decode c_Mo_areLetters 9 = .ok (.iload_n 3, 1) := by decide +kernel
theorem d_Mo_areLetters_10 : decode c_Mo_areLetters 10 = .ok (.invokestatic 106, 3) := by decide +kernel
theorem d_Mo_areLetters_13 : decode c_Mo_areLetters 13 = .ok (.bipush 97, 2) := by decide +kernel
theorem d_Mo_areLetters_15 : decode c_Mo_areLetters 15 = .ok (.bipush 122, 2) := by decide +kernel
theorem d_Mo_areLetters_17 : decode c_Mo_areLetters 17 = .ok (.invokestatic 102, 3) := by decide +kernel
theorem d_Mo_areLetters_20 : decode c_Mo_areLetters 20 = .ok (.ifCond .ne 5, 3) := by decide +kernel
theorem d_Mo_areLetters_23 : decode c_Mo_areLetters 23 = .ok (.iconst 0, 1) := by decide +kernel
theorem d_Mo_areLetters_24 : decode c_Mo_areLetters 24 = .ok (.ireturn, 1) := by decide +kernel
theorem d_Mo_areLetters_25 : decode c_Mo_areLetters 25 = .ok (.iinc 3 1, 3) := by decide +kernel
theorem d_Mo_areLetters_28 : decode c_Mo_areLetters 28 = .ok (.goto (-26), 3) := by decide +kernel
theorem d_Mo_areLetters_31 : decode c_Mo_areLetters 31 = .ok (.iconst 1, 1) := by decide +kernel
theorem d_Mo_areLetters_32 : decode c_Mo_areLetters 32 = .ok (.ireturn, 1) := by decide +kernel
theorem d_Mo_street_0 : decode c_Mo_street 0 = .ok (.aload_n 0, 1) := by decide +kernel
theorem d_Mo_street_1 : decode c_Mo_street 1 = .ok (.bipush 10, 2) := by decide +kernel
theorem d_Mo_street_3 : decode c_Mo_street 3 = .ok (.iconst 1, 1) := by decide +kernel
theorem d_Mo_street_4 : decode c_Mo_street 4 = .ok (.iload_n 1, 1) := by decide +kernel
theorem d_Mo_street_5 : decode c_Mo_street 5 = .ok (.iconst 0, 1) := by decide +kernel
theorem d_Mo_street_6 : decode c_Mo_street 6 = .ok (.bipush 9, 2) := by decide +kernel
theorem d_Mo_street_8 : decode c_Mo_street 8 = .ok (.invokestatic 102, 3) := by decide +kernel
theorem d_Mo_street_11 : decode c_Mo_street 11 = .ok (.iconst 1, 1) := by decide +kernel
theorem d_Mo_street_12 : decode c_Mo_street 12 = .ok (.aload_n 0, 1) := by decide +kernel
theorem d_Mo_street_13 : decode c_Mo_street 13 = .ok (.getfield 99, 3) := by decide +kernel
theorem d_Mo_street_16 : decode c_Mo_street 16 = .ok (.bipush 30, 2) := by decide +kernel
theorem d_Mo_street_18 : decode c_Mo_street 18 = .ok (.if_icmp .ge 7, 3) := by decide +kernel
theorem d_Mo_street_21 : decode c_Mo_street 21 = .ok (.iconst 1, 1) := by decide +kernel
theorem d_Mo_street_22 : decode c_Mo_street 22 = .ok (.goto 4, 3) := by decide +kernel
theorem d_Mo_street_25 : decode c_Mo_street 25 = .ok (.iconst 0, 1) := by decide +kernel
theorem d_Mo_street_26 : decode c_Mo_street 26 = .ok (.invokevirtual 110, 3) := by decide +kernel
theorem d_Mo_street_29 : decode c_Mo_street 29 = .ok (.ifCond .ne 5, 3) := by decide +kernel
theorem d_Mo_street_32 : decode c_Mo_street 32 = .ok (.iconst 0, 1) := by decide +kernel
theorem d_Mo_street_33 : decode c_Mo_street 33 = .ok (.ireturn, 1) := by decide +kernel
theorem d_Mo_street_34 : decode c_Mo_street 34 = .ok (.aload_n 0, 1) := by decide +kernel
theorem d_Mo_street_35 : decode c_Mo_street 35 = .ok (.getfield 7, 3) := by decide +kernel
theorem d_Mo_street_38 : decode c_Mo_street 38 = .ok (.aload_n 0, 1) := by decide +kernel
theorem d_Mo_street_39 : decode c_Mo_street 39 = .ok (.getfield 99, 3) := by decide +kernel
theorem d_Mo_street_42 : decode c_Mo_street 42 = .ok (.iload_n 1, 1) := by decide +kernel
theorem d_Mo_street_43 : decode c_Mo_street 43 = .ok (.iastore, 1) := by decide +kernel
theorem d_Mo_street_44 : decode c_Mo_street 44 = .ok (.aload_n 0, 1) := by decide +kernel
theorem d_Mo_street_45 : decode c_Mo_street 45 = .ok (.getfield 17, 3) := by decide +kernel
theorem d_Mo_street_48 : decode c_Mo_street 48 = .ok (.aload_n 0, 1) := by decide +kernel
theorem d_Mo_street_49 : decode c_Mo_street 49 = .ok (.getfield 99, 3) := by decide +kernel
theorem d_Mo_street_52 : decode c_Mo_street 52 = .ok (.iconst 1, 1) := by decide +kernel
theorem d_Mo_street_53 : decode c_Mo_street 53 = .ok (.iastore, 1) := by decide +kernel
theorem d_Mo_street_54 : decode c_Mo_street 54 = .ok (.aload_n 0, 1) := by decide +kernel
theorem d_Mo_street_55 : decode c_Mo_street 55 = .ok (.getfield 20, 3) := by decide +kernel
theorem d_Mo_street_58 : decode c_Mo_street 58 = .ok (.aload_n 0, 1) := by decide +kernel
theorem d_Mo_street_59 : decode c_Mo_street 59 = .ok (.getfield 99, 3) := by decide +kernel
theorem d_Mo_street_62 : decode c_Mo_street 62 = .ok (.iconst 3, 1) := by decide +kernel
theorem d_Mo_street_63 : decode c_Mo_street 63 = .ok (.imul, 1) := by decide +kernel
theorem d_Mo_street_64 : decode c_Mo_street 64 = .ok (.iconst 0, 1) := by decide +kernel
theorem d_Mo_street_65 : decode c_Mo_street 65 = .ok (.iastore, 1) := by decide +kernel
theorem d_Mo_street_66 : decode c_Mo_street 66 = .ok (.aload_n 0, 1) := by decide +kernel
theorem d_Mo_street_67 : decode c_Mo_street 67 = .ok (.dup, 1) := by decide +kernel
theorem d_Mo_street_68 : decode c_Mo_street 68 = .ok (.getfield 99, 3) := by decide +kernel
theorem d_Mo_street_71 : decode c_Mo_street 71 = .ok (.iconst 1, 1) := by decide +kernel
theorem d_Mo_street_72 : decode c_Mo_street 72 = .ok (.iadd, 1) := by decide +kernel
theorem d_Mo_street_73 : decode c_Mo_street 73 = .ok (.putfield 99, 3) := by decide +kernel
theorem d_Mo_street_76 : decode c_Mo_street 76 = .ok (.aload_n 0, 1) := by decide +kernel
theorem d_Mo_street_77 : decode c_Mo_street 77 = .ok (.iconst 0, 1) := by decide +kernel
theorem d_Mo_street_78 : decode c_Mo_street 78 = .ok (.putfield 114, 3) := by decide +kernel
theorem d_Mo_street_81 : decode c_Mo_street 81 = .ok (.aload_n 0, 1) := by decide +kernel
theorem d_Mo_street_82 : decode c_Mo_street 82 = .ok (.getfield 99, 3) := by decide +kernel
theorem d_Mo_street_85 : decode c_Mo_street 85 = .ok (.iconst 1, 1) := by decide +kernel
theorem d_Mo_street_86 : decode c_Mo_street 86 = .ok (.isub, 1) := by decide +kernel
theorem d_Mo_street_87 : decode c_Mo_street 87 = .ok (.ireturn, 1) := by decide +kernel
theorem d_Mo_sign_0 : decode c_Mo_sign 0 = .ok (.aload_n 0, 1) := by decide +kernel
theorem d_Mo_sign_1 : decode c_Mo_sign 1 = .ok (.iload_n 1, 1) := by decide +kernel
theorem d_Mo_sign_2 : decode c_Mo_sign 2 = .ok (.invokevirtual 117, 3) := by decide +kernel
theorem d_Mo_sign_5 : decode c_Mo_sign 5 = .ok (.istore 5, 2) := by decide +kernel
theorem d_Mo_sign_7 : decode c_Mo_sign 7 = .ok (.iload 5, 2) := by decide +kernel
theorem d_Mo_sign_9 : decode c_Mo_sign 9 = .ok (.ifCond .eq 18, 3) := by decide +kernel
theorem d_Mo_sign_12 : decode c_Mo_sign 12 = .ok (.iload_n 1, 1) := by decide +kernel
theorem d_Mo_sign_13 : decode c_Mo_sign 13 = .ok (.iconst 3, 1) := by decide +kernel
theorem d_Mo_sign_14 : decode c_Mo_sign 14 = .ok (.imul, 1) := by decide +kernel
theorem d_Mo_sign_15 : decode c_Mo_sign 15 = .ok (.aload_n 0, 1) := by decide +kernel
theorem d_Mo_sign_16 : decode c_Mo_sign 16 = .ok (.getfield 17, 3) := by decide +kernel
theorem d_Mo_sign_19 : decode c_Mo_sign 19 = .ok (.iload_n 1, 1) := by decide +kernel
theorem d_Mo_sign_20 : decode c_Mo_sign 20 = .ok (.iaload, 1) := by decide +kernel
theorem d_Mo_sign_21 : decode c_Mo_sign 21 = .ok (.iadd, 1) := by decide +kernel
theorem d_Mo_sign_22 : decode c_Mo_sign 22 = .ok (.iconst 1, 1) := by decide +kernel
theorem d_Mo_sign_23 : decode c_Mo_sign 23 = .ok (.isub, 1) := by decide +kernel
theorem d_Mo_sign_24 : decode c_Mo_sign 24 = .ok (.goto 4, 3) := by decide +kernel
theorem d_Mo_sign_27 : decode c_Mo_sign 27 = .ok (.iconst 0, 1) := by decide +kernel
theorem d_Mo_sign_28 : decode c_Mo_sign 28 = .ok (.istore 6, 2) := by decide +kernel
theorem d_Mo_sign_30 : decode c_Mo_sign 30 = .ok (.aload_n 0, 1) := by decide +kernel
theorem d_Mo_sign_31 : decode c_Mo_sign 31 = .ok (.bipush 11, 2) := by decide +kernel
theorem d_Mo_sign_33 : decode c_Mo_sign 33 = .ok (.iload 5, 2) := by decide +kernel
theorem d_Mo_sign_35 : decode c_Mo_sign 35 = .ok (.iload 4, 2) := by decide +kernel
theorem d_Mo_sign_37 : decode c_Mo_sign 37 = .ok (.iconst 1, 1) := by decide +kernel
theorem d_Mo_sign_38 : decode c_Mo_sign 38 = .ok (.bipush 8, 2) := by decide +kernel
theorem d_Mo_sign_40 : decode c_Mo_sign 40 = .ok (.invokestatic 102, 3) := by decide +kernel
theorem d_Mo_sign_43 : decode c_Mo_sign 43 = .ok (.ifCond .eq 16, 3) := by decide +kernel
theorem d_Mo_sign_46 : decode c_Mo_sign 46 = .ok (.lload_n 2, 1) := by decide +kernel
theorem d_Mo_sign_47 : decode c_Mo_sign 47 = .ok (.iload 4, 2) := by decide +kernel
theorem d_Mo_sign_49 : decode c_Mo_sign 49 = .ok (.invokestatic 121, 3) := by decide +kernel
theorem d_Mo_sign_52 : decode c_Mo_sign 52 = .ok (.ifCond .eq 7, 3) := by decide +kernel
theorem d_Mo_sign_55 : decode c_Mo_sign 55 = .ok (.iconst 1, 1) := by decide +kernel
theorem d_Mo_sign_56 : decode c_Mo_sign 56 = .ok (.goto 4, 3) := by decide +kernel
theorem d_Mo_sign_59 : decode c_Mo_sign 59 = .ok (.iconst 0, 1) := by decide +kernel
theorem d_Mo_sign_60 : decode c_Mo_sign 60 = .ok (.iconst 1, 1) := by decide +kernel
theorem d_Mo_sign_61 : decode c_Mo_sign 61 = .ok (.aload_n 0, 1) := by decide +kernel
theorem d_Mo_sign_62 : decode c_Mo_sign 62 = .ok (.getfield 20, 3) := by decide +kernel
theorem d_Mo_sign_65 : decode c_Mo_sign 65 = .ok (.iload 6, 2) := by decide +kernel
theorem d_Mo_sign_67 : decode c_Mo_sign 67 = .ok (.iaload, 1) := by decide +kernel
theorem d_Mo_sign_68 : decode c_Mo_sign 68 = .ok (.iload 4, 2) := by decide +kernel
theorem d_Mo_sign_70 : decode c_Mo_sign 70 = .ok (.iadd, 1) := by decide +kernel
theorem d_Mo_sign_71 : decode c_Mo_sign 71 = .ok (.bipush 16, 2) := by decide +kernel
theorem d_Mo_sign_73 : decode c_Mo_sign 73 = .ok (.if_icmp .gt 7, 3) := by decide +kernel
theorem d_Mo_sign_76 : decode c_Mo_sign 76 = .ok (.iconst 1, 1) := by decide +kernel
theorem d_Mo_sign_77 : decode c_Mo_sign 77 = .ok (.goto 4, 3) := by decide +kernel
theorem d_Mo_sign_80 : decode c_Mo_sign 80 = .ok (.iconst 0, 1) := by decide +kernel
theorem d_Mo_sign_81 : decode c_Mo_sign 81 = .ok (.invokevirtual 110, 3) := by decide +kernel
theorem d_Mo_sign_84 : decode c_Mo_sign 84 = .ok (.ifCond .ne 5, 3) := by decide +kernel
theorem d_Mo_sign_87 : decode c_Mo_sign 87 = .ok (.iconst 0, 1) := by decide +kernel
theorem d_Mo_sign_88 : decode c_Mo_sign 88 = .ok (.ireturn, 1) := by decide +kernel
theorem d_Mo_sign_89 : decode c_Mo_sign 89 = .ok (.iconst 0, 1) := by decide +kernel
theorem d_Mo_sign_90 : decode c_Mo_sign 90 = .ok (.istore 7, 2) := by decide +kernel
theorem d_Mo_sign_92 : decode c_Mo_sign 92 = .ok (.iload 7, 2) := by decide +kernel
theorem d_Mo_sign_94 : decode c_Mo_sign 94 = .ok (.iload 4, 2) := by decide +kernel
theorem d_Mo_sign_96 : decode c_Mo_sign 96 = .ok (.if_icmp .ge 38, 3) := by decide +kernel
theorem d_Mo_sign_99 : decode c_Mo_sign 99 = .ok (.aload_n 0, 1) := by decide +kernel
theorem d_Mo_sign_100 : decode c_Mo_sign 100 = .ok (.getfield 23, 3) := by decide +kernel
theorem d_Mo_sign_103 : decode c_Mo_sign 103 = .ok (.iload 6, 2) := by decide +kernel
theorem d_Mo_sign_105 : decode c_Mo_sign 105 = .ok (.bipush 16, 2) := by decide +kernel
theorem d_Mo_sign_107 : decode c_Mo_sign 107 = .ok (.imul, 1) := by decide +kernel
theorem d_Mo_sign_108 : decode c_Mo_sign 108 = .ok (.aload_n 0, 1) := by decide +kernel
theorem d_Mo_sign_109 : decode c_Mo_sign 109 = .ok (.getfield 20, 3) := by decide +kernel
theorem d_Mo_sign_112 : decode c_Mo_sign 112 = .ok (.iload 6, 2) := by decide +kernel
theorem d_Mo_sign_114 : decode c_Mo_sign 114 = .ok (.iaload, 1) := by decide +kernel
theorem d_Mo_sign_115 : decode c_Mo_sign 115 = .ok (.iadd, 1) := by decide +kernel
theorem d_Mo_sign_116 : decode c_Mo_sign 116 = .ok (.iload 7, 2) := by decide +kernel
theorem d_Mo_sign_118 : decode c_Mo_sign 118 = .ok (.iadd, 1) := by decide +kernel
theorem d_Mo_sign_119 : decode c_Mo_sign 119 = .ok (.lload_n 2, 1) := by decide +kernel
theorem d_Mo_sign_120 : decode c_Mo_sign 120 = .ok (.iload 4, 2) := by decide +kernel
theorem d_Mo_sign_122 : decode c_Mo_sign 122 = .ok (.iload 7, 2) := by decide +kernel
theorem d_Mo_sign_124 : decode c_Mo_sign 124 = .ok (.invokestatic 106, 3) := by decide +kernel
theorem d_Mo_sign_127 : decode c_Mo_sign 127 = .ok (.iastore, 1) := by decide +kernel
theorem d_Mo_sign_128 : decode c_Mo_sign 128 = .ok (.iinc 7 1, 3) := by decide +kernel
theorem d_Mo_sign_131 : decode c_Mo_sign 131 = .ok (.goto (-39), 3) := by decide +kernel
theorem d_Mo_sign_134 : decode c_Mo_sign 134 = .ok (.aload_n 0, 1) := by decide +kernel
theorem d_Mo_sign_135 : decode c_Mo_sign 135 = .ok (.getfield 20, 3) := by decide +kernel
theorem d_Mo_sign_138 : decode c_Mo_sign 138 = .ok (.iload 6, 2) := by decide +kernel
theorem d_Mo_sign_140 : decode c_Mo_sign 140 = .ok (.aload_n 0, 1) := by decide +kernel
theorem d_Mo_sign_141 : decode c_Mo_sign 141 = .ok (.getfield 20, 3) := by decide +kernel
theorem d_Mo_sign_144 : decode c_Mo_sign 144 = .ok (.iload 6, 2) := by decide +kernel
theorem d_Mo_sign_146 : decode c_Mo_sign 146 = .ok (.iaload, 1) := by decide +kernel
theorem d_Mo_sign_147 : decode c_Mo_sign 147 = .ok (.iload 4, 2) := by decide +kernel
theorem d_Mo_sign_149 : decode c_Mo_sign 149 = .ok (.iadd, 1) := by decide +kernel
theorem d_Mo_sign_150 : decode c_Mo_sign 150 = .ok (.iastore, 1) := by decide +kernel
theorem d_Mo_sign_151 : decode c_Mo_sign 151 = .ok (.aload_n 0, 1) := by decide +kernel
theorem d_Mo_sign_152 : decode c_Mo_sign 152 = .ok (.iconst 0, 1) := by decide +kernel
theorem d_Mo_sign_153 : decode c_Mo_sign 153 = .ok (.putfield 114, 3) := by decide +kernel
theorem d_Mo_sign_156 : decode c_Mo_sign 156 = .ok (.aload_n 0, 1) := by decide +kernel
theorem d_Mo_sign_157 : decode c_Mo_sign 157 = .ok (.getfield 20, 3) := by decide +kernel
theorem d_Mo_sign_160 : decode c_Mo_sign 160 = .ok (.iload 6, 2) := by decide +kernel
theorem d_Mo_sign_162 : decode c_Mo_sign 162 = .ok (.iaload, 1) := by decide +kernel
theorem d_Mo_sign_163 : decode c_Mo_sign 163 = .ok (.ireturn, 1) := by decide +kernel
theorem d_Mo_alias_0 : decode c_Mo_alias 0 = .ok (.aload_n 0, 1) := by decide +kernel
theorem d_Mo_alias_1 : decode c_Mo_alias 1 = .ok (.iload_n 1, 1) := by decide +kernel
theorem d_Mo_alias_2 : decode c_Mo_alias 2 = .ok (.invokevirtual 117, 3) := by decide +kernel
theorem d_Mo_alias_5 : decode c_Mo_alias 5 = .ok (.istore_n 2, 1) := by decide +kernel
theorem d_Mo_alias_6 : decode c_Mo_alias 6 = .ok (.aload_n 0, 1) := by decide +kernel
theorem d_Mo_alias_7 : decode c_Mo_alias 7 = .ok (.bipush 13, 2) := by decide +kernel
theorem d_Mo_alias_9 : decode c_Mo_alias 9 = .ok (.iload_n 2, 1) := by decide +kernel
theorem d_Mo_alias_10 : decode c_Mo_alias 10 = .ok (.iconst 1, 1) := by decide +kernel
theorem d_Mo_alias_11 : decode c_Mo_alias 11 = .ok (.iload_n 2, 1) := by decide +kernel
theorem d_Mo_alias_12 : decode c_Mo_alias 12 = .ok (.ifCond .eq 27, 3) := by decide +kernel
theorem d_Mo_alias_15 : decode c_Mo_alias 15 = .ok (.aload_n 0, 1) := by decide +kernel
theorem d_Mo_alias_16 : decode c_Mo_alias 16 = .ok (.getfield 20, 3) := by decide +kernel
theorem d_Mo_alias_19 : decode c_Mo_alias 19 = .ok (.iload_n 1, 1) := by decide +kernel
theorem d_Mo_alias_20 : decode c_Mo_alias 20 = .ok (.iconst 3, 1) := by decide +kernel
theorem d_Mo_alias_21 : decode c_Mo_alias 21 = .ok (.imul, 1) := by decide +kernel
theorem d_Mo_alias_22 : decode c_Mo_alias 22 = .ok (.aload_n 0, 1) := by decide +kernel
theorem d_Mo_alias_23 : decode c_Mo_alias 23 = .ok (.getfield 17, 3) := by decide +kernel
theorem d_Mo_alias_26 : decode c_Mo_alias 26 = .ok (.iload_n 1, 1) := by decide +kernel
theorem d_Mo_alias_27 : decode c_Mo_alias 27 = .ok (.iaload, 1) := by decide +kernel
theorem d_Mo_alias_28 : decode c_Mo_alias 28 = .ok (.iadd, 1) := by decide +kernel
theorem d_Mo_alias_29 : decode c_Mo_alias 29 = .ok (.iconst 1, 1) := by decide +kernel
theorem d_Mo_alias_30 : decode c_Mo_alias 30 = .ok (.isub, 1) := by decide +kernel
theorem d_Mo_alias_31 : decode c_Mo_alias 31 = .ok (.iaload, 1) := by decide +kernel
theorem d_Mo_alias_32 : decode c_Mo_alias 32 = .ok (.ifCond .le 7, 3) := by decide +kernel
theorem d_Mo_alias_35 : decode c_Mo_alias 35 = .ok (.iconst 1, 1) := by decide +kernel
theorem d_Mo_alias_36 : decode c_Mo_alias 36 = .ok (.goto 4, 3) := by decide +kernel
theorem d_Mo_alias_39 : decode c_Mo_alias 39 = .ok (.iconst 0, 1) := by decide +kernel
theorem d_Mo_alias_40 : decode c_Mo_alias 40 = .ok (.iload_n 2, 1) := by decide +kernel
theorem d_Mo_alias_41 : decode c_Mo_alias 41 = .ok (.ifCond .eq 17, 3) := by decide +kernel
theorem d_Mo_alias_44 : decode c_Mo_alias 44 = .ok (.aload_n 0, 1) := by decide +kernel
theorem d_Mo_alias_45 : decode c_Mo_alias 45 = .ok (.getfield 17, 3) := by decide +kernel
theorem d_Mo_alias_48 : decode c_Mo_alias 48 = .ok (.iload_n 1, 1) := by decide +kernel
theorem d_Mo_alias_49 : decode c_Mo_alias 49 = .ok (.iaload, 1) := by decide +kernel
theorem d_Mo_alias_50 : decode c_Mo_alias 50 = .ok (.iconst 3, 1) := by decide +kernel
theorem d_Mo_alias_51 : decode c_Mo_alias 51 = .ok (.if_icmp .ge 7, 3) := by decide +kernel
theorem d_Mo_alias_54 : decode c_Mo_alias 54 = .ok (.iconst 1, 1) := by decide +kernel
theorem d_Mo_alias_55 : decode c_Mo_alias 55 = .ok (.goto 4, 3) := by decide +kernel
theorem d_Mo_alias_58 : decode c_Mo_alias 58 = .ok (.iconst 0, 1) := by decide +kernel
theorem d_Mo_alias_59 : decode c_Mo_alias 59 = .ok (.invokevirtual 110, 3) := by decide +kernel
theorem d_Mo_alias_62 : decode c_Mo_alias 62 = .ok (.ifCond .ne 5, 3) := by decide +kernel
theorem d_Mo_alias_65 : decode c_Mo_alias 65 = .ok (.iconst 0, 1) := by decide +kernel
theorem d_Mo_alias_66 : decode c_Mo_alias 66 = .ok (.ireturn, 1) := by decide +kernel
theorem d_Mo_alias_67 : decode c_Mo_alias 67 = .ok (.aload_n 0, 1) := by decide +kernel
theorem d_Mo_alias_68 : decode c_Mo_alias 68 = .ok (.getfield 20, 3) := by decide +kernel
theorem d_Mo_alias_71 : decode c_Mo_alias 71 = .ok (.iload_n 1, 1) := by decide +kernel
theorem d_Mo_alias_72 : decode c_Mo_alias 72 = .ok (.iconst 3, 1) := by decide +kernel
theorem d_Mo_alias_73 : decode c_Mo_alias 73 = .ok (.imul, 1) := by decide +kernel
theorem d_Mo_alias_74 : decode c_Mo_alias 74 = .ok (.aload_n 0, 1) := by decide +kernel
theorem d_Mo_alias_75 : decode c_Mo_alias 75 = .ok (.getfield 17, 3) := by decide +kernel
theorem d_Mo_alias_78 : decode c_Mo_alias 78 = .ok (.iload_n 1, 1) := by decide +kernel
theorem d_Mo_alias_79 : decode c_Mo_alias 79 = .ok (.iaload, 1) := by decide +kernel
theorem d_Mo_alias_80 : decode c_Mo_alias 80 = .ok (.iadd, 1) := by decide +kernel
theorem d_Mo_alias_81 : decode c_Mo_alias 81 = .ok (.iconst 0, 1) := by decide +kernel
theorem d_Mo_alias_82 : decode c_Mo_alias 82 = .ok (.iastore, 1) := by decide +kernel
theorem d_Mo_alias_83 : decode c_Mo_alias 83 = .ok (.aload_n 0, 1) := by decide +kernel
theorem d_Mo_alias_84 : decode c_Mo_alias 84 = .ok (.getfield 17, 3) := by decide +kernel
theorem d_Mo_alias_87 : decode c_Mo_alias 87 = .ok (.iload_n 1, 1) := by decide +kernel
theorem d_Mo_alias_88 : decode c_Mo_alias 88 = .ok (.dup2, 1) := by decide +kernel
theorem d_Mo_alias_89 : decode c_Mo_alias 89 = .ok (.iaload, 1) := by decide +kernel
theorem d_Mo_alias_90 : decode c_Mo_alias 90 = .ok (.iconst 1, 1) := by decide +kernel
theorem d_Mo_alias_91 : decode c_Mo_alias 91 = .ok (.iadd, 1) := by decide +kernel
theorem d_Mo_alias_92 : decode c_Mo_alias 92 = .ok (.iastore, 1) := by decide +kernel
theorem d_Mo_alias_93 : decode c_Mo_alias 93 = .ok (.aload_n 0, 1) := by decide +kernel
theorem d_Mo_alias_94 : decode c_Mo_alias 94 = .ok (.iconst 0, 1) := by decide +kernel
theorem d_Mo_alias_95 : decode c_Mo_alias 95 = .ok (.putfield 114, 3) := by decide +kernel
theorem d_Mo_alias_98 : decode c_Mo_alias 98 = .ok (.aload_n 0, 1) := by decide +kernel
theorem d_Mo_alias_99 : decode c_Mo_alias 99 = .ok (.getfield 17, 3) := by decide +kernel
theorem d_Mo_alias_102 : decode c_Mo_alias 102 = .ok (.iload_n 1, 1) := by decide +kernel
theorem d_Mo_alias_103 : decode c_Mo_alias 103 = .ok (.iaload, 1) := by decide +kernel
theorem d_Mo_alias_104 : decode c_Mo_alias 104 = .ok (.ireturn, 1) := by decide +kernel
theorem d_Mo_isOf_0 : decode c_Mo_isOf 0 = .ok (.iload_n 0, 1) := by decide +kernel
theorem d_Mo_isOf_1 : decode c_Mo_isOf 1 = .ok (.iconst 2, 1) := by decide +kernel
theorem d_Mo_isOf_2 : decode c_Mo_isOf 2 = .ok (.if_icmp .eq 10, 3) := by decide +kernel
theorem d_Mo_isOf_5 : decode c_Mo_isOf 5 = .ok (.iload_n 1, 1) := by decide +kernel
theorem d_Mo_isOf_6 : decode c_Mo_isOf 6 = .ok (.iconst 2, 1) := by decide +kernel
theorem d_Mo_isOf_7 : decode c_Mo_isOf 7 = .ok (.irem, 1) := by decide +kernel
theorem d_Mo_isOf_8 : decode c_Mo_isOf 8 = .ok (.iload_n 0, 1) := by decide +kernel
theorem d_Mo_isOf_9 : decode c_Mo_isOf 9 = .ok (.if_icmp .ne 7, 3) := by decide +kernel
theorem d_Mo_isOf_12 : decode c_Mo_isOf 12 = .ok (.iconst 1, 1) := by decide +kernel
theorem d_Mo_isOf_13 : decode c_Mo_isOf 13 = .ok (.goto 4, 3) := by decide +kernel
theorem d_Mo_isOf_16 : decode c_Mo_isOf 16 = .ok (.iconst 0, 1) := by decide +kernel
theorem d_Mo_isOf_17 : decode c_Mo_isOf 17 = .ok (.ireturn, 1) := by decide +kernel
theorem d_Mo_range_0 : decode c_Mo_range 0 = .ok (.iload_n 2, 1) := by decide +kernel
theorem d_Mo_range_1 : decode c_Mo_range 1 = .ok (.iconst 0, 1) := by decide +kernel
theorem d_Mo_range_2 : decode c_Mo_range 2 = .ok (.iconst 2, 1) := by decide +kernel
theorem d_Mo_range_3 : decode c_Mo_range 3 = .ok (.invokestatic 102, 3) := by decide +kernel
theorem d_Mo_range_6 : decode c_Mo_range 6 = .ok (.ifCond .eq 44, 3) := by decide +kernel
theorem d_Mo_range_9 : decode c_Mo_range 9 = .ok (.iload_n 3, 1) := by decide +kernel
theorem d_Mo_range_10 : decode c_Mo_range 10 = .ok (.iconst 1, 1) := by decide +kernel
theorem d_Mo_range_11 : decode c_Mo_range 11 = .ok (.sipush 9999, 3) := by decide +kernel
theorem d_Mo_range_14 : decode c_Mo_range 14 = .ok (.invokestatic 102, 3) := by decide +kernel
theorem d_Mo_range_17 : decode c_Mo_range 17 = .ok (.ifCond .eq 33, 3) := by decide +kernel
theorem d_Mo_range_20 : decode c_Mo_range 20 = .ok (.iload 4, 2) := by decide +kernel
theorem d_Mo_range_22 : decode c_Mo_range 22 = .ok (.iload_n 3, 1) := by decide +kernel
theorem d_Mo_range_23 : decode c_Mo_range 23 = .ok (.sipush 9999, 3) := by decide +kernel
theorem d_Mo_range_26 : decode c_Mo_range 26 = .ok (.invokestatic 102, 3) := by decide +kernel
theorem d_Mo_range_29 : decode c_Mo_range 29 = .ok (.ifCond .eq 21, 3) := by decide +kernel
theorem d_Mo_range_32 : decode c_Mo_range 32 = .ok (.iload_n 2, 1) := by decide +kernel
theorem d_Mo_range_33 : decode c_Mo_range 33 = .ok (.iload_n 3, 1) := by decide +kernel
theorem d_Mo_range_34 : decode c_Mo_range 34 = .ok (.invokestatic 125, 3) := by decide +kernel
theorem d_Mo_range_37 : decode c_Mo_range 37 = .ok (.ifCond .ne 9, 3) := by decide +kernel
theorem d_Mo_range_40 : decode c_Mo_range 40 = .ok (.iload_n 3, 1) := by decide +kernel
theorem d_Mo_range_41 : decode c_Mo_range 41 = .ok (.iload 4, 2) := by decide +kernel
theorem d_Mo_range_43 : decode c_Mo_range 43 = .ok (.if_icmp .ge 7, 3) := by decide +kernel
theorem d_Mo_range_46 : decode c_Mo_range 46 = .ok (.iconst 1, 1) := by decide +kernel
theorem d_Mo_range_47 : decode c_Mo_range 47 = .ok (.goto 4, 3) := by decide +kernel
theorem d_Mo_range_50 : decode c_Mo_range 50 = .ok (.iconst 0, 1) := by decide +kernel
theorem d_Mo_range_51 : decode c_Mo_range 51 = .ok (.istore 5, 2) := by decide +kernel
theorem d_Mo_range_53 : decode c_Mo_range 53 = .ok (.aload_n 0, 1) := by decide +kernel
theorem d_Mo_range_54 : decode c_Mo_range 54 = .ok (.iload_n 1, 1) := by decide +kernel
theorem d_Mo_range_55 : decode c_Mo_range 55 = .ok (.invokevirtual 117, 3) := by decide +kernel
theorem d_Mo_range_58 : decode c_Mo_range 58 = .ok (.istore 6, 2) := by decide +kernel
theorem d_Mo_range_60 : decode c_Mo_range 60 = .ok (.aload_n 0, 1) := by decide +kernel
theorem d_Mo_range_61 : decode c_Mo_range 61 = .ok (.bipush 11, 2) := by decide +kernel
theorem d_Mo_range_63 : decode c_Mo_range 63 = .ok (.iload 6, 2) := by decide +kernel
theorem d_Mo_range_65 : decode c_Mo_range 65 = .ok (.iload 5, 2) := by decide +kernel
theorem d_Mo_range_67 : decode c_Mo_range 67 = .ok (.iconst 1, 1) := by decide +kernel
theorem d_Mo_range_68 : decode c_Mo_range 68 = .ok (.iload 6, 2) := by decide +kernel
theorem d_Mo_range_70 : decode c_Mo_range 70 = .ok (.ifCond .eq 18, 3) := by decide +kernel
theorem d_Mo_range_73 : decode c_Mo_range 73 = .ok (.aload_n 0, 1) := by decide +kernel
theorem d_Mo_range_74 : decode c_Mo_range 74 = .ok (.getfield 26, 3) := by decide +kernel
theorem d_Mo_range_77 : decode c_Mo_range 77 = .ok (.iload_n 1, 1) := by decide +kernel
theorem d_Mo_range_78 : decode c_Mo_range 78 = .ok (.iaload, 1) := by decide +kernel
theorem d_Mo_range_79 : decode c_Mo_range 79 = .ok (.bipush 6, 2) := by decide +kernel
theorem d_Mo_range_81 : decode c_Mo_range 81 = .ok (.if_icmp .ge 7, 3) := by decide +kernel
theorem d_Mo_range_84 : decode c_Mo_range 84 = .ok (.iconst 1, 1) := by decide +kernel
theorem d_Mo_range_85 : decode c_Mo_range 85 = .ok (.goto 4, 3) := by decide +kernel
theorem d_Mo_range_88 : decode c_Mo_range 88 = .ok (.iconst 0, 1) := by decide +kernel
theorem d_Mo_range_89 : decode c_Mo_range 89 = .ok (.invokevirtual 110, 3) := by decide +kernel
theorem d_Mo_range_92 : decode c_Mo_range 92 = .ok (.ifCond .ne 5, 3) := by decide +kernel
theorem d_Mo_range_95 : decode c_Mo_range 95 = .ok (.iconst 0, 1) := by decide +kernel
theorem d_Mo_range_96 : decode c_Mo_range 96 = .ok (.ireturn, 1) := by decide +kernel
theorem d_Mo_range_97 : decode c_Mo_range 97 = .ok (.iload_n 1, 1) := by decide +kernel
theorem d_Mo_range_98 : decode c_Mo_range 98 = .ok (.bipush 6, 2) := by decide +kernel
theorem d_Mo_range_100 : decode c_Mo_range 100 = .ok (.imul, 1) := by decide +kernel
theorem d_Mo_range_101 : decode c_Mo_range 101 = .ok (.aload_n 0, 1) := by decide +kernel
theorem d_Mo_range_102 : decode c_Mo_range 102 = .ok (.getfield 26, 3) := by decide +kernel
theorem d_Mo_range_105 : decode c_Mo_range 105 = .ok (.iload_n 1, 1) := by decide +kernel
theorem d_Mo_range_106 : decode c_Mo_range 106 = .ok (.iaload, 1) := by decide +kernel
theorem d_Mo_range_107 : decode c_Mo_range 107 = .ok (.iadd, 1) := by decide +kernel
theorem d_Mo_range_108 : decode c_Mo_range 108 = .ok (.istore 7, 2) := by decide +kernel
theorem d_Mo_range_110 : decode c_Mo_range 110 = .ok (.aload_n 0, 1) := by decide +kernel
theorem d_Mo_range_111 : decode c_Mo_range 111 = .ok (.getfield 29, 3) := by decide +kernel
theorem d_Mo_range_114 : decode c_Mo_range 114 = .ok (.iload 7, 2) := by decide +kernel
theorem d_Mo_range_116 : decode c_Mo_range 116 = .ok (.iload_n 2, 1) := by decide +kernel
theorem d_Mo_range_117 : decode c_Mo_range 117 = .ok (.iastore, 1) := by decide +kernel
theorem d_Mo_range_118 : decode c_Mo_range 118 = .ok (.aload_n 0, 1) := by decide +kernel
theorem d_Mo_range_119 : decode c_Mo_range 119 = .ok (.getfield 32, 3) := by decide +kernel
theorem d_Mo_range_122 : decode c_Mo_range 122 = .ok (.iload 7, 2) := by decide +kernel
theorem d_Mo_range_124 : decode c_Mo_range 124 = .ok (.iload_n 3, 1) := by decide +kernel
theorem d_Mo_range_125 : decode c_Mo_range 125 = .ok (.iastore, 1) := by decide +kernel
theorem d_Mo_range_126 : decode c_Mo_range 126 = .ok (.aload_n 0, 1) := by decide +kernel
theorem d_Mo_range_127 : decode c_Mo_range 127 = .ok (.getfield 35, 3) := by decide +kernel
theorem d_Mo_range_130 : decode c_Mo_range 130 = .ok (.iload 7, 2) := by decide +kernel
theorem d_Mo_range_132 : decode c_Mo_range 132 = .ok (.iload 4, 2) := by decide +kernel
theorem d_Mo_range_134 : decode c_Mo_range 134 = .ok (.iastore, 1) := by decide +kernel
theorem d_Mo_range_135 : decode c_Mo_range 135 = .ok (.aload_n 0, 1) := by decide +kernel
theorem d_Mo_range_136 : decode c_Mo_range 136 = .ok (.getfield 26, 3) := by decide +kernel
theorem d_Mo_range_139 : decode c_Mo_range 139 = .ok (.iload_n 1, 1) := by decide +kernel
theorem d_Mo_range_140 : decode c_Mo_range 140 = .ok (.dup2, 1) := by decide +kernel
theorem d_Mo_range_141 : decode c_Mo_range 141 = .ok (.iaload, 1) := by decide +kernel
theorem d_Mo_range_142 : decode c_Mo_range 142 = .ok (.iconst 1, 1) := by decide +kernel
theorem d_Mo_range_143 : decode c_Mo_range 143 = .ok (.iadd, 1) := by decide +kernel
theorem d_Mo_range_144 : decode c_Mo_range 144 = .ok (.iastore, 1) := by decide +kernel
theorem d_Mo_range_145 : decode c_Mo_range 145 = .ok (.aload_n 0, 1) := by decide +kernel
theorem d_Mo_range_146 : decode c_Mo_range 146 = .ok (.iconst 0, 1) := by decide +kernel
theorem d_Mo_range_147 : decode c_Mo_range 147 = .ok (.putfield 114, 3) := by decide +kernel
theorem d_Mo_range_150 : decode c_Mo_range 150 = .ok (.aload_n 0, 1) := by decide +kernel
