theorem d_AW_word_0 : decode c_AW_word 0 = .ok (.iload_n 3, 1) := by decide +kernel
theorem d_AW_word_1 : decode c_AW_word 1 = .ok (.ifCond .lt 9, 3) := by decide +kernel
theorem d_AW_word_4 : decode c_AW_word 4 = .ok (.iload_n 3, 1) := by decide +kernel
theorem d_AW_word_5 : decode c_AW_word 5 = .ok (.bipush 8, 2) := by decide +kernel
theorem d_AW_word_7 : decode c_AW_word 7 = .ok (.if_icmp .le 13, 3) := by decide +kernel
theorem d_AW_word_10 : decode c_AW_word 10 = .ok (.new 55, 3) := by decide +kernel
theorem d_AW_word_13 : decode c_AW_word 13 = .ok (.dup, 1) := by decide +kernel
theorem d_AW_word_14 : decode c_AW_word 14 = .ok (.ldc 206, 2) := by decide +kernel
theorem d_AW_word_16 : decode c_AW_word 16 = .ok (.invokespecial 59, 3) := by decide +kernel
theorem d_AW_word_19 : decode c_AW_word 19 = .ok (.athrow, 1) := by decide +kernel
theorem d_AW_word_20 : decode c_AW_word 20 = .ok (.lload_n 1, 1) := by decide +kernel
theorem d_AW_word_21 : decode c_AW_word 21 = .ok (.iload_n 3, 1) := by decide +kernel
theorem d_AW_word_22 : decode c_AW_word 22 = .ok (.invokestatic 208, 3) := by decide +kernel
theorem d_AW_word_25 : decode c_AW_word 25 = .ok (.aload_n 0, 1) := by decide +kernel
theorem d_AW_word_26 : decode c_AW_word 26 = .ok (.getfield 30, 3) := by decide +kernel
theorem d_AW_word_29 : decode c_AW_word 29 = .ok (.iload_n 3, 1) := by decide +kernel
theorem d_AW_word_30 : decode c_AW_word 30 = .ok (.invokevirtual 211, 3) := by decide +kernel
theorem d_AW_word_33 : decode c_AW_word 33 = .ok (.ifCond .ne 13, 3) := by decide +kernel
theorem d_AW_word_36 : decode c_AW_word 36 = .ok (.new 66, 3) := by decide +kernel
theorem d_AW_word_39 : decode c_AW_word 39 = .ok (.dup, 1) := by decide +kernel
theorem d_AW_word_40 : decode c_AW_word 40 = .ok (.ldc 212, 2) := by decide +kernel
theorem d_AW_word_42 : decode c_AW_word 42 = .ok (.invokespecial 70, 3) := by decide +kernel
theorem d_AW_word_45 : decode c_AW_word 45 = .ok (.athrow, 1) := by decide +kernel
theorem d_AW_word_46 : decode c_AW_word 46 = .ok (.iload_n 3, 1) := by decide +kernel
theorem d_AW_word_47 : decode c_AW_word 47 = .ok (.ifCond .ne 10, 3) := by decide +kernel
theorem d_AW_word_50 : decode c_AW_word 50 = .ok (.aload_n 0, 1) := by decide +kernel
theorem d_AW_word_51 : decode c_AW_word 51 = .ok (.getfield 30, 3) := by decide +kernel
theorem d_AW_word_54 : decode c_AW_word 54 = .ok (.invokevirtual 214, 3) := by decide +kernel
theorem d_AW_word_57 : decode c_AW_word 57 = .ok (.aload_n 0, 1) := by decide +kernel
theorem d_AW_word_58 : decode c_AW_word 58 = .ok (.getfield 30, 3) := by decide +kernel
theorem d_AW_word_61 : decode c_AW_word 61 = .ok (.lload_n 1, 1) := by decide +kernel
theorem d_AW_word_62 : decode c_AW_word 62 = .ok (.iload_n 3, 1) := by decide +kernel
theorem d_AW_word_63 : decode c_AW_word 63 = .ok (.invokevirtual 217, 3) := by decide +kernel
theorem d_AW_word_66 : decode c_AW_word 66 = .ok (.aload_n 0, 1) := by decide +kernel
theorem d_AW_word_67 : decode c_AW_word 67 = .ok (.invokevirtual 74, 3) := by decide +kernel
theorem d_AW_word_70 : decode c_AW_word 70 = .ok (.aload_n 0, 1) := by decide +kernel
theorem d_AW_word_71 : decode c_AW_word 71 = .ok (.getfield 30, 3) := by decide +kernel
theorem d_AW_word_74 : decode c_AW_word 74 = .ok (.getfield 218, 3) := by decide +kernel
theorem d_AW_word_77 : decode c_AW_word 77 = .ok (.ireturn, 1) := by decide +kernel
theorem d_AW_find_0 : decode c_AW_find 0 = .ok (.iload_n 1, 1) := by decide +kernel
theorem d_AW_find_1 : decode c_AW_find 1 = .ok (.iconst 1, 1) := by decide +kernel
theorem d_AW_find_2 : decode c_AW_find 2 = .ok (.if_icmp .lt 9, 3) := by decide +kernel
theorem d_AW_find_5 : decode c_AW_find 5 = .ok (.iload_n 1, 1) := by decide +kernel
theorem d_AW_find_6 : decode c_AW_find 6 = .ok (.bipush 10, 2) := by decide +kernel
theorem d_AW_find_8 : decode c_AW_find 8 = .ok (.if_icmp .le 13, 3) := by decide +kernel
theorem d_AW_find_11 : decode c_AW_find 11 = .ok (.new 55, 3) := by decide +kernel
theorem d_AW_find_14 : decode c_AW_find 14 = .ok (.dup, 1) := by decide +kernel
theorem d_AW_find_15 : decode c_AW_find 15 = .ok (.ldc 219, 2) := by decide +kernel
theorem d_AW_find_17 : decode c_AW_find 17 = .ok (.invokespecial 59, 3) := by decide +kernel
theorem d_AW_find_20 : decode c_AW_find 20 = .ok (.athrow, 1) := by decide +kernel
theorem d_AW_find_21 : decode c_AW_find 21 = .ok (.aload_n 0, 1) := by decide +kernel
theorem d_AW_find_22 : decode c_AW_find 22 = .ok (.getfield 30, 3) := by decide +kernel
theorem d_AW_find_25 : decode c_AW_find 25 = .ok (.getfield 218, 3) := by decide +kernel
theorem d_AW_find_28 : decode c_AW_find 28 = .ok (.ifCond .ne 13, 3) := by decide +kernel
theorem d_AW_find_31 : decode c_AW_find 31 = .ok (.new 107, 3) := by decide +kernel
theorem d_AW_find_34 : decode c_AW_find 34 = .ok (.dup, 1) := by decide +kernel
theorem d_AW_find_35 : decode c_AW_find 35 = .ok (.ldc 221, 2) := by decide +kernel
theorem d_AW_find_37 : decode c_AW_find 37 = .ok (.invokespecial 111, 3) := by decide +kernel
theorem d_AW_find_40 : decode c_AW_find 40 = .ok (.athrow, 1) := by decide +kernel
theorem d_AW_find_41 : decode c_AW_find 41 = .ok (.aload_n 0, 1) := by decide +kernel
theorem d_AW_find_42 : decode c_AW_find 42 = .ok (.getfield 30, 3) := by decide +kernel
theorem d_AW_find_45 : decode c_AW_find 45 = .ok (.invokevirtual 223, 3) := by decide +kernel
theorem d_AW_find_48 : decode c_AW_find 48 = .ok (.aload_n 0, 1) := by decide +kernel
theorem d_AW_find_49 : decode c_AW_find 49 = .ok (.iload_n 1, 1) := by decide +kernel
theorem d_AW_find_50 : decode c_AW_find 50 = .ok (.invokevirtual 226, 3) := by decide +kernel
theorem d_AW_find_53 : decode c_AW_find 53 = .ok (.aload_n 0, 1) := by decide +kernel
theorem d_AW_find_54 : decode c_AW_find 54 = .ok (.aload_n 0, 1) := by decide +kernel
theorem d_AW_find_55 : decode c_AW_find 55 = .ok (.getfield 44, 3) := by decide +kernel
theorem d_AW_find_58 : decode c_AW_find 58 = .ok (.getfield 229, 3) := by decide +kernel
theorem d_AW_find_61 : decode c_AW_find 61 = .ok (.putfield 232, 3) := by decide +kernel
theorem d_AW_find_64 : decode c_AW_find 64 = .ok (.iconst 0, 1) := by decide +kernel
theorem d_AW_find_65 : decode c_AW_find 65 = .ok (.istore_n 2, 1) := by decide +kernel
theorem d_AW_find_66 : decode c_AW_find 66 = .ok (.iload_n 2, 1) := by decide +kernel
theorem d_AW_find_67 : decode c_AW_find 67 = .ok (.aload_n 0, 1) := by decide +kernel
theorem d_AW_find_68 : decode c_AW_find 68 = .ok (.getfield 232, 3) := by decide +kernel
theorem d_AW_find_71 : decode c_AW_find 71 = .ok (.if_icmp .ge 37, 3) := by decide +kernel
theorem d_AW_find_74 : decode c_AW_find 74 = .ok (.aload_n 0, 1) := by decide +kernel
theorem d_AW_find_75 : decode c_AW_find 75 = .ok (.aload_n 0, 1) := by decide +kernel
theorem d_AW_find_76 : decode c_AW_find 76 = .ok (.getfield 50, 3) := by decide +kernel
theorem d_AW_find_79 : decode c_AW_find 79 = .ok (.iload_n 2, 1) := by decide +kernel
theorem d_AW_find_80 : decode c_AW_find 80 = .ok (.aaload, 1) := by decide +kernel
theorem d_AW_find_81 : decode c_AW_find 81 = .ok (.aload_n 0, 1) := by decide +kernel
theorem d_AW_find_82 : decode c_AW_find 82 = .ok (.getfield 44, 3) := by decide +kernel
theorem d_AW_find_85 : decode c_AW_find 85 = .ok (.getfield 235, 3) := by decide +kernel
theorem d_AW_find_88 : decode c_AW_find 88 = .ok (.iload_n 2, 1) := by decide +kernel
theorem d_AW_find_89 : decode c_AW_find 89 = .ok (.iaload, 1) := by decide +kernel
theorem d_AW_find_90 : decode c_AW_find 90 = .ok (.aload_n 0, 1) := by decide +kernel
theorem d_AW_find_91 : decode c_AW_find 91 = .ok (.getfield 44, 3) := by decide +kernel
theorem d_AW_find_94 : decode c_AW_find 94 = .ok (.getfield 239, 3) := by decide +kernel
theorem d_AW_find_97 : decode c_AW_find 97 = .ok (.iload_n 2, 1) := by decide +kernel
theorem d_AW_find_98 : decode c_AW_find 98 = .ok (.iaload, 1) := by decide +kernel
theorem d_AW_find_99 : decode c_AW_find 99 = .ok (.invokevirtual 242, 3) := by decide +kernel
theorem d_AW_find_102 : decode c_AW_find 102 = .ok (.iinc 2 1, 3) := by decide +kernel
theorem d_AW_find_105 : decode c_AW_find 105 = .ok (.goto (-39), 3) := by decide +kernel
theorem d_AW_find_108 : decode c_AW_find 108 = .ok (.aload_n 0, 1) := by decide +kernel
theorem d_AW_find_109 : decode c_AW_find 109 = .ok (.getfield 232, 3) := by decide +kernel
theorem d_AW_find_112 : decode c_AW_find 112 = .ok (.ireturn, 1) := by decide +kernel
theorem d_AW_place_0 : decode c_AW_place 0 = .ok (.iload_n 1, 1) := by decide +kernel
theorem d_AW_place_1 : decode c_AW_place 1 = .ok (.ifCond .lt 11, 3) := by decide +kernel
theorem d_AW_place_4 : decode c_AW_place 4 = .ok (.iload_n 1, 1) := by decide +kernel
theorem d_AW_place_5 : decode c_AW_place 5 = .ok (.aload_n 0, 1) := by decide +kernel
theorem d_AW_place_6 : decode c_AW_place 6 = .ok (.getfield 232, 3) := by decide +kernel
theorem d_AW_place_9 : decode c_AW_place 9 = .ok (.if_icmp .lt 13, 3) := by decide +kernel
theorem d_AW_place_12 : decode c_AW_place 12 = .ok (.new 246, 3) := by decide +kernel
theorem d_AW_place_15 : decode c_AW_place 15 = .ok (.dup, 1) := by decide +kernel
theorem d_AW_place_16 : decode c_AW_place 16 = .ok (.ldc 248, 2) := by decide +kernel
theorem d_AW_place_18 : decode c_AW_place 18 = .ok (.invokespecial 250, 3) := by decide +kernel
theorem d_AW_place_21 : decode c_AW_place 21 = .ok (.athrow, 1) := by decide +kernel
theorem d_AW_place_22 : decode c_AW_place 22 = .ok (.iload_n 2, 1) := by decide +kernel
theorem d_AW_place_23 : decode c_AW_place 23 = .ok (.ifCond .lt 8, 3) := by decide +kernel
theorem d_AW_place_26 : decode c_AW_place 26 = .ok (.iload_n 2, 1) := by decide +kernel
theorem d_AW_place_27 : decode c_AW_place 27 = .ok (.iconst 5, 1) := by decide +kernel
theorem d_AW_place_28 : decode c_AW_place 28 = .ok (.if_icmp .le 13, 3) := by decide +kernel
theorem d_AW_place_31 : decode c_AW_place 31 = .ok (.new 55, 3) := by decide +kernel
theorem d_AW_place_34 : decode c_AW_place 34 = .ok (.dup, 1) := by decide +kernel
theorem d_AW_place_35 : decode c_AW_place 35 = .ok (.ldc 251, 2) := by decide +kernel
theorem d_AW_place_37 : decode c_AW_place 37 = .ok (.invokespecial 59, 3) := by decide +kernel
theorem d_AW_place_40 : decode c_AW_place 40 = .ok (.athrow, 1) := by decide +kernel
theorem d_AW_place_41 : decode c_AW_place 41 = .ok (.aload_n 0, 1) := by decide +kernel
theorem d_AW_place_42 : decode c_AW_place 42 = .ok (.getfield 50, 3) := by decide +kernel
theorem d_AW_place_45 : decode c_AW_place 45 = .ok (.iload_n 1, 1) := by decide +kernel
theorem d_AW_place_46 : decode c_AW_place 46 = .ok (.aaload, 1) := by decide +kernel
theorem d_AW_place_47 : decode c_AW_place 47 = .ok (.astore_n 3, 1) := by decide +kernel
theorem d_AW_place_48 : decode c_AW_place 48 = .ok (.iload_n 2, 1) := by decide +kernel
theorem d_AW_place_49 : decode c_AW_place 49 = .ok (.tableswitch 60 0 4 #[35, 40, 45, 50, 55], 35) := by decide +kernel
theorem d_AW_place_84 : decode c_AW_place 84 = .ok (.aload_n 3, 1) := by decide +kernel
theorem d_AW_place_85 : decode c_AW_place 85 = .ok (.getfield 253, 3) := by decide +kernel
theorem d_AW_place_88 : decode c_AW_place 88 = .ok (.ireturn, 1) := by decide +kernel
theorem d_AW_place_89 : decode c_AW_place 89 = .ok (.aload_n 3, 1) := by decide +kernel
theorem d_AW_place_90 : decode c_AW_place 90 = .ok (.getfield 256, 3) := by decide +kernel
theorem d_AW_place_93 : decode c_AW_place 93 = .ok (.ireturn, 1) := by decide +kernel
theorem d_AW_place_94 : decode c_AW_place 94 = .ok (.aload_n 3, 1) := by decide +kernel
theorem d_AW_place_95 : decode c_AW_place 95 = .ok (.getfield 259, 3) := by decide +kernel
theorem d_AW_place_98 : decode c_AW_place 98 = .ok (.ireturn, 1) := by decide +kernel
theorem d_AW_place_99 : decode c_AW_place 99 = .ok (.aload_n 3, 1) := by decide +kernel
theorem d_AW_place_100 : decode c_AW_place 100 = .ok (.getfield 262, 3) := by decide +kernel
theorem d_AW_place_103 : decode c_AW_place 103 = .ok (.ireturn, 1) := by decide +kernel
theorem d_AW_place_104 : decode c_AW_place 104 = .ok (.aload_n 3, 1) := by decide +kernel
theorem d_AW_place_105 : decode c_AW_place 105 = .ok (.getfield 265, 3) := by decide +kernel
theorem d_AW_place_108 : decode c_AW_place 108 = .ok (.ireturn, 1) := by decide +kernel
theorem d_AW_place_109 : decode c_AW_place 109 = .ok (.aload_n 3, 1) := by decide +kernel
theorem d_AW_place_110 : decode c_AW_place 110 = .ok (.getfield 268, 3) := by decide +kernel
theorem d_AW_place_113 : decode c_AW_place 113 = .ok (.ireturn, 1) := by decide +kernel
theorem d_AW_twice_0 : decode c_AW_twice 0 = .ok (.iconst 0, 1) := by decide +kernel
theorem d_AW_twice_1 : decode c_AW_twice 1 = .ok (.istore_n 1, 1) := by decide +kernel
theorem d_AW_twice_2 : decode c_AW_twice 2 = .ok (.iconst 0, 1) := by decide +kernel
theorem d_AW_twice_3 : decode c_AW_twice 3 = .ok (.istore_n 2, 1) := by decide +kernel
theorem d_AW_twice_4 : decode c_AW_twice 4 = .ok (.iload_n 2, 1) := by decide +kernel
theorem d_AW_twice_5 : decode c_AW_twice 5 = .ok (.aload_n 0, 1) := by decide +kernel
theorem d_AW_twice_6 : decode c_AW_twice 6 = .ok (.getfield 62, 3) := by decide +kernel
theorem d_AW_twice_9 : decode c_AW_twice 9 = .ok (.if_icmp .ge 20, 3) := by decide +kernel
theorem d_AW_twice_12 : decode c_AW_twice 12 = .ok (.aload_n 0, 1) := by decide +kernel
theorem d_AW_twice_13 : decode c_AW_twice 13 = .ok (.iload_n 2, 1) := by decide +kernel
theorem d_AW_twice_14 : decode c_AW_twice 14 = .ok (.invokevirtual 271, 3) := by decide +kernel
theorem d_AW_twice_17 : decode c_AW_twice 17 = .ok (.ifCond .eq 6, 3) := by decide +kernel
theorem d_AW_twice_20 : decode c_AW_twice 20 = .ok (.iinc 1 1, 3) := by decide +kernel
theorem d_AW_twice_23 : decode c_AW_twice 23 = .ok (.iinc 2 1, 3) := by decide +kernel
theorem d_AW_twice_26 : decode c_AW_twice 26 = .ok (.goto (-22), 3) := by decide +kernel
theorem d_AW_twice_29 : decode c_AW_twice 29 = .ok (.iload_n 1, 1) := by decide +kernel
theorem d_AW_twice_30 : decode c_AW_twice 30 = .ok (.ireturn, 1) := by decide +kernel
theorem d_AW_knownStreet_0 : decode c_AW_knownStreet 0 = .ok (.iload_n 1, 1) := by decide +kernel
theorem d_AW_knownStreet_1 : decode c_AW_knownStreet 1 = .ok (.ifCond .lt 11, 3) := by decide +kernel
theorem d_AW_knownStreet_4 : decode c_AW_knownStreet 4 = .ok (.iload_n 1, 1) := by decide +kernel
theorem d_AW_knownStreet_5 : decode c_AW_knownStreet 5 = .ok (.aload_n 0, 1) := by decide +kernel
theorem d_AW_knownStreet_6 : decode c_AW_knownStreet 6 = .ok (.getfield 62, 3) := by decide +kernel
theorem d_AW_knownStreet_9 : decode c_AW_knownStreet 9 = .ok (.if_icmp .lt 14, 3) := by decide +kernel
theorem d_AW_knownStreet_12 : decode c_AW_knownStreet 12 = .ok (.new 246, 3) := by decide +kernel
theorem d_AW_knownStreet_15 : decode c_AW_knownStreet 15 = .ok (.dup, 1) := by decide +kernel
theorem d_AW_knownStreet_16 : decode c_AW_knownStreet 16 = .ok (.ldc_w 274, 3) := by decide +kernel
theorem d_AW_knownStreet_19 : decode c_AW_knownStreet 19 = .ok (.invokespecial 250, 3) := by decide +kernel
theorem d_AW_knownStreet_22 : decode c_AW_knownStreet 22 = .ok (.athrow, 1) := by decide +kernel
theorem d_AW_knownStreet_23 : decode c_AW_knownStreet 23 = .ok (.aload_n 0, 1) := by decide +kernel
theorem d_AW_knownStreet_24 : decode c_AW_knownStreet 24 = .ok (.getfield 11, 3) := by decide +kernel
theorem d_AW_knownStreet_27 : decode c_AW_knownStreet 27 = .ok (.iload_n 1, 1) := by decide +kernel
theorem d_AW_knownStreet_28 : decode c_AW_knownStreet 28 = .ok (.aaload, 1) := by decide +kernel
theorem d_AW_knownStreet_29 : decode c_AW_knownStreet 29 = .ok (.areturn, 1) := by decide +kernel
theorem d_AW_forgetPlaces_0 : decode c_AW_forgetPlaces 0 = .ok (.aload_n 0, 1) := by decide +kernel
theorem d_AW_forgetPlaces_1 : decode c_AW_forgetPlaces 1 = .ok (.iconst 0, 1) := by decide +kernel
theorem d_AW_forgetPlaces_2 : decode c_AW_forgetPlaces 2 = .ok (.putfield 232, 3) := by decide +kernel
theorem d_AW_forgetPlaces_5 : decode c_AW_forgetPlaces 5 = .ok (.return_, 1) := by decide +kernel
theorem d_AW_hasLandmarkNamed_0 : decode c_AW_hasLandmarkNamed 0 = .ok (.iconst 0, 1) := by decide +kernel
theorem d_AW_hasLandmarkNamed_1 : decode c_AW_hasLandmarkNamed 1 = .ok (.istore_n 2, 1) := by decide +kernel
theorem d_AW_hasLandmarkNamed_2 : decode c_AW_hasLandmarkNamed 2 = .ok (.iload_n 2, 1) := by decide +kernel
theorem d_AW_hasLandmarkNamed_3 : decode c_AW_hasLandmarkNamed 3 = .ok (.aload_n 0, 1) := by decide +kernel
theorem d_AW_hasLandmarkNamed_4 : decode c_AW_hasLandmarkNamed 4 = .ok (.getfield 162, 3) := by decide +kernel
theorem d_AW_hasLandmarkNamed_7 : decode c_AW_hasLandmarkNamed 7 = .ok (.if_icmp .ge 27, 3) := by decide +kernel
theorem d_AW_hasLandmarkNamed_10 : decode c_AW_hasLandmarkNamed 10 = .ok (.aload_n 0, 1) := by decide +kernel
theorem d_AW_hasLandmarkNamed_11 : decode c_AW_hasLandmarkNamed 11 = .ok (.getfield 17, 3) := by decide +kernel
theorem d_AW_hasLandmarkNamed_14 : decode c_AW_hasLandmarkNamed 14 = .ok (.iload_n 2, 1) := by decide +kernel
theorem d_AW_hasLandmarkNamed_15 : decode c_AW_hasLandmarkNamed 15 = .ok (.aaload, 1) := by decide +kernel
theorem d_AW_hasLandmarkNamed_16 : decode c_AW_hasLandmarkNamed 16 = .ok (.getfield 152, 3) := by decide +kernel
theorem d_AW_hasLandmarkNamed_19 : decode c_AW_hasLandmarkNamed 19 = .ok (.aload_n 1, 1) := by decide +kernel
theorem d_AW_hasLandmarkNamed_20 : decode c_AW_hasLandmarkNamed 20 = .ok (.invokevirtual 276, 3) := by decide +kernel
theorem d_AW_hasLandmarkNamed_23 : decode c_AW_hasLandmarkNamed 23 = .ok (.ifCond .eq 5, 3) := by decide +kernel
theorem d_AW_hasLandmarkNamed_26 : decode c_AW_hasLandmarkNamed 26 = .ok (.iconst 1, 1) := by decide +kernel
theorem d_AW_hasLandmarkNamed_27 : decode c_AW_hasLandmarkNamed 27 = .ok (.ireturn, 1) := by decide +kernel
theorem d_AW_hasLandmarkNamed_28 : decode c_AW_hasLandmarkNamed 28 = .ok (.iinc 2 1, 3) := by decide +kernel
theorem d_AW_hasLandmarkNamed_31 : decode c_AW_hasLandmarkNamed 31 = .ok (.goto (-29), 3) := by decide +kernel
theorem d_AW_hasLandmarkNamed_34 : decode c_AW_hasLandmarkNamed 34 = .ok (.iconst 0, 1) := by decide +kernel
theorem d_AW_hasLandmarkNamed_35 : decode c_AW_hasLandmarkNamed 35 = .ok (.ireturn, 1) := by decide +kernel
theorem d_AW_metresOfCorner_0 : decode c_AW_metresOfCorner 0 = .ok (.iconst 0, 1) := by decide +kernel
theorem d_AW_metresOfCorner_1 : decode c_AW_metresOfCorner 1 = .ok (.istore_n 3, 1) := by decide +kernel
theorem d_AW_metresOfCorner_2 : decode c_AW_metresOfCorner 2 = .ok (.iload_n 3, 1) := by decide +kernel
theorem d_AW_metresOfCorner_3 : decode c_AW_metresOfCorner 3 = .ok (.aload_n 0, 1) := by decide +kernel
theorem d_AW_metresOfCorner_4 : decode c_AW_metresOfCorner 4 = .ok (.getfield 179, 3) := by decide +kernel
theorem d_AW_metresOfCorner_7 : decode c_AW_metresOfCorner 7 = .ok (.if_icmp .ge 65, 3) := by decide +kernel
theorem d_AW_metresOfCorner_10 : decode c_AW_metresOfCorner 10 = .ok (.aload_n 0, 1) := by decide +kernel
theorem d_AW_metresOfCorner_11 : decode c_AW_metresOfCorner 11 = .ok (.getfield 23, 3) := by decide +kernel
theorem d_AW_metresOfCorner_14 : decode c_AW_metresOfCorner 14 = .ok (.iload_n 3, 1) := by decide +kernel
theorem d_AW_metresOfCorner_15 : decode c_AW_metresOfCorner 15 = .ok (.aaload, 1) := by decide +kernel
theorem d_AW_metresOfCorner_16 : decode c_AW_metresOfCorner 16 = .ok (.astore 4, 2) := by decide +kernel
theorem d_AW_metresOfCorner_18 : decode c_AW_metresOfCorner 18 = .ok (.aload 4, 2) := by decide +kernel
theorem d_AW_metresOfCorner_20 : decode c_AW_metresOfCorner 20 = .ok (.getfield 279, 3) := by decide +kernel
theorem d_AW_metresOfCorner_23 : decode c_AW_metresOfCorner 23 = .ok (.iload_n 1, 1) := by decide +kernel
theorem d_AW_metresOfCorner_24 : decode c_AW_metresOfCorner 24 = .ok (.if_icmp .ne 18, 3) := by decide +kernel
theorem d_AW_metresOfCorner_27 : decode c_AW_metresOfCorner 27 = .ok (.aload 4, 2) := by decide +kernel
theorem d_AW_metresOfCorner_29 : decode c_AW_metresOfCorner 29 = .ok (.getfield 280, 3) := by decide +kernel
theorem d_AW_metresOfCorner_32 : decode c_AW_metresOfCorner 32 = .ok (.iload_n 2, 1) := by decide +kernel
theorem d_AW_metresOfCorner_33 : decode c_AW_metresOfCorner 33 = .ok (.if_icmp .ne 9, 3) := by decide +kernel
theorem d_AW_metresOfCorner_36 : decode c_AW_metresOfCorner 36 = .ok (.aload 4, 2) := by decide +kernel
theorem d_AW_metresOfCorner_38 : decode c_AW_metresOfCorner 38 = .ok (.getfield 283, 3) := by decide +kernel
theorem d_AW_metresOfCorner_41 : decode c_AW_metresOfCorner 41 = .ok (.ireturn, 1) := by decide +kernel
theorem d_AW_metresOfCorner_42 : decode c_AW_metresOfCorner 42 = .ok (.aload 4, 2) := by decide +kernel
theorem d_AW_metresOfCorner_44 : decode c_AW_metresOfCorner 44 = .ok (.getfield 279, 3) := by decide +kernel
theorem d_AW_metresOfCorner_47 : decode c_AW_metresOfCorner 47 = .ok (.iload_n 2, 1) := by decide +kernel
theorem d_AW_metresOfCorner_48 : decode c_AW_metresOfCorner 48 = .ok (.if_icmp .ne 18, 3) := by decide +kernel
theorem d_AW_metresOfCorner_51 : decode c_AW_metresOfCorner 51 = .ok (.aload 4, 2) := by decide +kernel
theorem d_AW_metresOfCorner_53 : decode c_AW_metresOfCorner 53 = .ok (.getfield 280, 3) := by decide +kernel
theorem d_AW_metresOfCorner_56 : decode c_AW_metresOfCorner 56 = .ok (.iload_n 1, 1) := by decide +kernel
theorem d_AW_metresOfCorner_57 : decode c_AW_metresOfCorner 57 = .ok (.if_icmp .ne 9, 3) := by decide +kernel
theorem d_AW_metresOfCorner_60 : decode c_AW_metresOfCorner 60 = .ok (.aload 4, 2) := by decide +kernel
theorem d_AW_metresOfCorner_62 : decode c_AW_metresOfCorner 62 = .ok (.getfield 286, 3) := by decide +kernel
theorem d_AW_metresOfCorner_65 : decode c_AW_metresOfCorner 65 = .ok (.ireturn, 1) := by decide +kernel
theorem d_AW_metresOfCorner_66 : decode c_AW_metresOfCorner 66 = .ok (.iinc 3 1, 3) := by decide +kernel
theorem d_AW_metresOfCorner_69 : decode c_AW_metresOfCorner 69 = .ok (.goto (-67), 3) := by decide +kernel
theorem d_AW_metresOfCorner_72 : decode c_AW_metresOfCorner 72 = .ok (.iconst (-1), 1) := by decide +kernel
theorem d_AW_metresOfCorner_73 : decode c_AW_metresOfCorner 73 = .ok (.ireturn, 1) := by decide +kernel
theorem d_AW_sharesName_0 : decode c_AW_sharesName 0 = .ok (.aload_n 0, 1) := by decide +kernel
theorem d_AW_sharesName_1 : decode c_AW_sharesName 1 = .ok (.getfield 11, 3) := by decide +kernel
theorem d_AW_sharesName_4 : decode c_AW_sharesName 4 = .ok (.iload_n 1, 1) := by decide +kernel
theorem d_AW_sharesName_5 : decode c_AW_sharesName 5 = .ok (.aaload, 1) := by decide +kernel
theorem d_AW_sharesName_6 : decode c_AW_sharesName 6 = .ok (.astore_n 2, 1) := by decide +kernel
theorem d_AW_sharesName_7 : decode c_AW_sharesName 7 = .ok (.iconst 0, 1) := by decide +kernel
theorem d_AW_sharesName_8 : decode c_AW_sharesName 8 = .ok (.istore_n 3, 1) := by decide +kernel
theorem d_AW_sharesName_9 : decode c_AW_sharesName 9 = .ok (.iload_n 3, 1) := by decide +kernel
theorem d_AW_sharesName_10 : decode c_AW_sharesName 10 = .ok (.aload_n 0, 1) := by decide +kernel
theorem d_AW_sharesName_11 : decode c_AW_sharesName 11 = .ok (.getfield 62, 3) := by decide +kernel
theorem d_AW_sharesName_14 : decode c_AW_sharesName 14 = .ok (.if_icmp .ge 45, 3) := by decide +kernel
theorem d_AW_sharesName_17 : decode c_AW_sharesName 17 = .ok (.iload_n 3, 1) := by decide +kernel
theorem d_AW_sharesName_18 : decode c_AW_sharesName 18 = .ok (.iload_n 1, 1) := by decide +kernel
theorem d_AW_sharesName_19 : decode c_AW_sharesName 19 = .ok (.if_icmp .eq 34, 3) := by decide +kernel
theorem d_AW_sharesName_22 : decode c_AW_sharesName 22 = .ok (.aload_n 0, 1) := by decide +kernel
theorem d_AW_sharesName_23 : decode c_AW_sharesName 23 = .ok (.getfield 11, 3) := by decide +kernel
theorem d_AW_sharesName_26 : decode c_AW_sharesName 26 = .ok (.iload_n 3, 1) := by decide +kernel
theorem d_AW_sharesName_27 : decode c_AW_sharesName 27 = .ok (.aaload, 1) := by decide +kernel
theorem d_AW_sharesName_28 : decode c_AW_sharesName 28 = .ok (.getfield 289, 3) := by decide +kernel
theorem d_AW_sharesName_31 : decode c_AW_sharesName 31 = .ok (.aload_n 2, 1) := by decide +kernel
theorem d_AW_sharesName_32 : decode c_AW_sharesName 32 = .ok (.getfield 289, 3) := by decide +kernel
theorem d_AW_sharesName_35 : decode c_AW_sharesName 35 = .ok (.if_icmp .ne 18, 3) := by decide +kernel
theorem d_AW_sharesName_38 : decode c_AW_sharesName 38 = .ok (.aload_n 2, 1) := by decide +kernel
theorem d_AW_sharesName_39 : decode c_AW_sharesName 39 = .ok (.aload_n 0, 1) := by decide +kernel
theorem d_AW_sharesName_40 : decode c_AW_sharesName 40 = .ok (.getfield 11, 3) := by decide +kernel
theorem d_AW_sharesName_43 : decode c_AW_sharesName 43 = .ok (.iload_n 3, 1) := by decide +kernel
theorem d_AW_sharesName_44 : decode c_AW_sharesName 44 = .ok (.aaload, 1) := by decide +kernel
theorem d_AW_sharesName_45 : decode c_AW_sharesName 45 = .ok (.invokevirtual 290, 3) := by decide +kernel
theorem d_AW_sharesName_48 : decode c_AW_sharesName 48 = .ok (.ifCond .eq 5, 3) := by decide +kernel
theorem d_AW_sharesName_51 : decode c_AW_sharesName 51 = .ok (.iconst 1, 1) := by decide +kernel
theorem d_AW_sharesName_52 : decode c_AW_sharesName 52 = .ok (.ireturn, 1) := by decide +kernel
theorem d_AW_sharesName_53 : decode c_AW_sharesName 53 = .ok (.iinc 3 1, 3) := by decide +kernel
theorem d_AW_sharesName_56 : decode c_AW_sharesName 56 = .ok (.goto (-47), 3) := by decide +kernel
theorem d_AW_sharesName_59 : decode c_AW_sharesName 59 = .ok (.iconst 0, 1) := by decide +kernel
theorem d_AW_sharesName_60 : decode c_AW_sharesName 60 = .ok (.ireturn, 1) := by decide +kernel
theorem d_AW_rank_0 : decode c_AW_rank 0 = .ok (.aload_n 0, 1) := by decide +kernel
theorem d_AW_rank_1 : decode c_AW_rank 1 = .ok (.getfield 44, 3) := by decide +kernel
theorem d_AW_rank_4 : decode c_AW_rank 4 = .ok (.iload_n 1, 1) := by decide +kernel
theorem d_AW_rank_5 : decode c_AW_rank 5 = .ok (.invokevirtual 294, 3) := by decide +kernel
theorem d_AW_rank_8 : decode c_AW_rank 8 = .ok (.iconst 0, 1) := by decide +kernel
theorem d_AW_rank_9 : decode c_AW_rank 9 = .ok (.istore_n 2, 1) := by decide +kernel
theorem d_AW_rank_10 : decode c_AW_rank 10 = .ok (.iload_n 2, 1) := by decide +kernel
theorem d_AW_rank_11 : decode c_AW_rank 11 = .ok (.aload_n 0, 1) := by decide +kernel
theorem d_AW_rank_12 : decode c_AW_rank 12 = .ok (.getfield 62, 3) := by decide +kernel
theorem d_AW_rank_15 : decode c_AW_rank 15 = .ok (.if_icmp .ge 27, 3) := by decide +kernel
theorem d_AW_rank_18 : decode c_AW_rank 18 = .ok (.aload_n 0, 1) := by decide +kernel
theorem d_AW_rank_19 : decode c_AW_rank 19 = .ok (.getfield 44, 3) := by decide +kernel
theorem d_AW_rank_22 : decode c_AW_rank 22 = .ok (.iload_n 2, 1) := by decide +kernel
theorem d_AW_rank_23 : decode c_AW_rank 23 = .ok (.aload_n 0, 1) := by decide +kernel
theorem d_AW_rank_24 : decode c_AW_rank 24 = .ok (.aload_n 0, 1) := by decide +kernel
theorem d_AW_rank_25 : decode c_AW_rank 25 = .ok (.getfield 11, 3) := by decide +kernel
theorem d_AW_rank_28 : decode c_AW_rank 28 = .ok (.iload_n 2, 1) := by decide +kernel
theorem d_AW_rank_29 : decode c_AW_rank 29 = .ok (.aaload, 1) := by decide +kernel
theorem d_AW_rank_30 : decode c_AW_rank 30 = .ok (.invokevirtual 297, 3) := by decide +kernel
theorem d_AW_rank_33 : decode c_AW_rank 33 = .ok (.invokevirtual 301, 3) := by decide +kernel
theorem d_AW_rank_36 : decode c_AW_rank 36 = .ok (.iinc 2 1, 3) := by decide +kernel
theorem d_AW_rank_39 : decode c_AW_rank 39 = .ok (.goto (-29), 3) := by decide +kernel
theorem d_AW_rank_42 : decode c_AW_rank 42 = .ok (.iconst 0, 1) := by decide +kernel
theorem d_AW_rank_43 : decode c_AW_rank 43 = .ok (.istore_n 2, 1) := by decide +kernel
theorem d_AW_rank_44 : decode c_AW_rank 44 = .ok (.iload_n 2, 1) := by decide +kernel
theorem d_AW_rank_45 : decode c_AW_rank 45 = .ok (.aload_n 0, 1) := by decide +kernel
theorem d_AW_rank_46 : decode c_AW_rank 46 = .ok (.getfield 162, 3) := by decide +kernel
theorem d_AW_rank_49 : decode c_AW_rank 49 = .ok (.if_icmp .ge 35, 3) := by decide +kernel
theorem d_AW_rank_52 : decode c_AW_rank 52 = .ok (.aload_n 0, 1) := by decide +kernel
theorem d_AW_rank_53 : decode c_AW_rank 53 = .ok (.getfield 44, 3) := by decide +kernel
theorem d_AW_rank_56 : decode c_AW_rank 56 = .ok (.bipush 30, 2) := by decide +kernel
theorem d_AW_rank_58 : decode c_AW_rank 58 = .ok (.iload_n 2, 1) := by decide +kernel
theorem d_AW_rank_59 : decode c_AW_rank 59 = .ok (.iadd, 1) := by decide +kernel
theorem d_AW_rank_60 : decode c_AW_rank 60 = .ok (.aload_n 0, 1) := by decide +kernel
theorem d_AW_rank_61 : decode c_AW_rank 61 = .ok (.aload_n 0, 1) := by decide +kernel
theorem d_AW_rank_62 : decode c_AW_rank 62 = .ok (.getfield 17, 3) := by decide +kernel
theorem d_AW_rank_65 : decode c_AW_rank 65 = .ok (.iload_n 2, 1) := by decide +kernel
theorem d_AW_rank_66 : decode c_AW_rank 66 = .ok (.aaload, 1) := by decide +kernel
theorem d_AW_rank_67 : decode c_AW_rank 67 = .ok (.getfield 152, 3) := by decide +kernel
theorem d_AW_rank_70 : decode c_AW_rank 70 = .ok (.bipush 99, 2) := by decide +kernel
theorem d_AW_rank_72 : decode c_AW_rank 72 = .ok (.invokevirtual 304, 3) := by decide +kernel
theorem d_AW_rank_75 : decode c_AW_rank 75 = .ok (.invokevirtual 301, 3) := by decide +kernel
theorem d_AW_rank_78 : decode c_AW_rank 78 = .ok (.iinc 2 1, 3) := by decide +kernel
theorem d_AW_rank_81 : decode c_AW_rank 81 = .ok (.goto (-37), 3) := by decide +kernel
theorem d_AW_rank_84 : decode c_AW_rank 84 = .ok (.return_, 1) := by decide +kernel
theorem d_AW_distanceOfStreet_0 : decode c_AW_distanceOfStreet 0 = .ok (.bipush 99, 2) := by decide +kernel
theorem d_AW_distanceOfStreet_2 : decode c_AW_distanceOfStreet 2 = .ok (.istore_n 2, 1) := by decide +kernel
theorem d_AW_distanceOfStreet_3 : decode c_AW_distanceOfStreet 3 = .ok (.iconst 0, 1) := by decide +kernel
theorem d_AW_distanceOfStreet_4 : decode c_AW_distanceOfStreet 4 = .ok (.istore_n 3, 1) := by decide +kernel
theorem d_AW_distanceOfStreet_5 : decode c_AW_distanceOfStreet 5 = .ok (.iload_n 3, 1) := by decide +kernel
theorem d_AW_distanceOfStreet_6 : decode c_AW_distanceOfStreet 6 = .ok (.aload_n 1, 1) := by decide +kernel
theorem d_AW_distanceOfStreet_7 : decode c_AW_distanceOfStreet 7 = .ok (.getfield 112, 3) := by decide +kernel
theorem d_AW_distanceOfStreet_10 : decode c_AW_distanceOfStreet 10 = .ok (.if_icmp .ge 21, 3) := by decide +kernel
theorem d_AW_distanceOfStreet_13 : decode c_AW_distanceOfStreet 13 = .ok (.aload_n 0, 1) := by decide +kernel
theorem d_AW_distanceOfStreet_14 : decode c_AW_distanceOfStreet 14 = .ok (.aload_n 1, 1) := by decide +kernel
theorem d_AW_distanceOfStreet_15 : decode c_AW_distanceOfStreet 15 = .ok (.getfield 308, 3) := by decide +kernel
theorem d_AW_distanceOfStreet_18 : decode c_AW_distanceOfStreet 18 = .ok (.iload_n 3, 1) := by decide +kernel
theorem d_AW_distanceOfStreet_19 : decode c_AW_distanceOfStreet 19 = .ok (.aaload, 1) := by decide +kernel
theorem d_AW_distanceOfStreet_20 : decode c_AW_distanceOfStreet 20 = .ok (.iload_n 2, 1) := by decide +kernel
theorem d_AW_distanceOfStreet_21 : decode c_AW_distanceOfStreet 21 = .ok (.invokevirtual 304, 3) := by decide +kernel
theorem d_AW_distanceOfStreet_24 : decode c_AW_distanceOfStreet 24 = .ok (.istore_n 2, 1) := by decide +kernel
theorem d_AW_distanceOfStreet_25 : decode c_AW_distanceOfStreet 25 = .ok (.iinc 3 1, 3) := by decide +kernel
theorem d_AW_distanceOfStreet_28 : decode c_AW_distanceOfStreet 28 = .ok (.goto (-23), 3) := by decide +kernel
theorem d_AW_distanceOfStreet_31 : decode c_AW_distanceOfStreet 31 = .ok (.iload_n 2, 1) := by decide +kernel
theorem d_AW_distanceOfStreet_32 : decode c_AW_distanceOfStreet 32 = .ok (.ireturn, 1) := by decide +kernel
theorem d_AW_nearerDistance_0 : decode c_AW_nearerDistance 0 = .ok (.iload_n 2, 1) := by decide +kernel
theorem d_AW_nearerDistance_1 : decode c_AW_nearerDistance 1 = .ok (.istore_n 3, 1) := by decide +kernel
theorem d_AW_nearerDistance_2 : decode c_AW_nearerDistance 2 = .ok (.aload_n 1, 1) := by decide +kernel
theorem d_AW_nearerDistance_3 : decode c_AW_nearerDistance 3 = .ok (.invokevirtual 103, 3) := by decide +kernel
theorem d_AW_nearerDistance_6 : decode c_AW_nearerDistance 6 = .ok (.ifCond .eq 5, 3) := by decide +kernel
theorem d_AW_nearerDistance_9 : decode c_AW_nearerDistance 9 = .ok (.iload_n 3, 1) := by decide +kernel
theorem d_AW_nearerDistance_10 : decode c_AW_nearerDistance 10 = .ok (.ireturn, 1) := by decide +kernel
theorem d_AW_nearerDistance_11 : decode c_AW_nearerDistance 11 = .ok (.iconst 0, 1) := by decide +kernel
theorem d_AW_nearerDistance_12 : decode c_AW_nearerDistance 12 = .ok (.istore 4, 2) := by decide +kernel
theorem d_AW_nearerDistance_14 : decode c_AW_nearerDistance 14 = .ok (.iload 4, 2) := by decide +kernel
theorem d_AW_nearerDistance_16 : decode c_AW_nearerDistance 16 = .ok (.aload_n 0, 1) := by decide +kernel
theorem d_AW_nearerDistance_17 : decode c_AW_nearerDistance 17 = .ok (.getfield 30, 3) := by decide +kernel
theorem d_AW_nearerDistance_20 : decode c_AW_nearerDistance 20 = .ok (.getfield 312, 3) := by decide +kernel
theorem d_AW_nearerDistance_23 : decode c_AW_nearerDistance 23 = .ok (.if_icmp .ge 71, 3) := by decide +kernel
theorem d_AW_nearerDistance_26 : decode c_AW_nearerDistance 26 = .ok (.aload_n 0, 1) := by decide +kernel
theorem d_AW_nearerDistance_27 : decode c_AW_nearerDistance 27 = .ok (.getfield 30, 3) := by decide +kernel
theorem d_AW_nearerDistance_30 : decode c_AW_nearerDistance 30 = .ok (.getfield 315, 3) := by decide +kernel
theorem d_AW_nearerDistance_33 : decode c_AW_nearerDistance 33 = .ok (.iload 4, 2) := by decide +kernel
theorem d_AW_nearerDistance_35 : decode c_AW_nearerDistance 35 = .ok (.iaload, 1) := by decide +kernel
theorem d_AW_nearerDistance_36 : decode c_AW_nearerDistance 36 = .ok (.aload_n 1, 1) := by decide +kernel
theorem d_AW_nearerDistance_37 : decode c_AW_nearerDistance 37 = .ok (.getfield 100, 3) := by decide +kernel
theorem d_AW_nearerDistance_40 : decode c_AW_nearerDistance 40 = .ok (.isub, 1) := by decide +kernel
theorem d_AW_nearerDistance_41 : decode c_AW_nearerDistance 41 = .ok (.invokestatic 318, 3) := by decide +kernel
theorem d_AW_nearerDistance_44 : decode c_AW_nearerDistance 44 = .ok (.iload_n 3, 1) := by decide +kernel
theorem d_AW_nearerDistance_45 : decode c_AW_nearerDistance 45 = .ok (.if_icmp .ge 43, 3) := by decide +kernel
theorem d_AW_nearerDistance_48 : decode c_AW_nearerDistance 48 = .ok (.iload_n 3, 1) := by decide +kernel
theorem d_AW_nearerDistance_49 : decode c_AW_nearerDistance 49 = .ok (.aload_n 0, 1) := by decide +kernel
theorem d_AW_nearerDistance_50 : decode c_AW_nearerDistance 50 = .ok (.getfield 37, 3) := by decide +kernel
theorem d_AW_nearerDistance_53 : decode c_AW_nearerDistance 53 = .ok (.aload_n 0, 1) := by decide +kernel
theorem d_AW_nearerDistance_54 : decode c_AW_nearerDistance 54 = .ok (.getfield 30, 3) := by decide +kernel
theorem d_AW_nearerDistance_57 : decode c_AW_nearerDistance 57 = .ok (.getfield 324, 3) := by decide +kernel
theorem d_AW_nearerDistance_60 : decode c_AW_nearerDistance 60 = .ok (.aload_n 0, 1) := by decide +kernel
theorem d_AW_nearerDistance_61 : decode c_AW_nearerDistance 61 = .ok (.getfield 30, 3) := by decide +kernel
theorem d_AW_nearerDistance_64 : decode c_AW_nearerDistance 64 = .ok (.getfield 328, 3) := by decide +kernel
theorem d_AW_nearerDistance_67 : decode c_AW_nearerDistance 67 = .ok (.iload 4, 2) := by decide +kernel
theorem d_AW_nearerDistance_69 : decode c_AW_nearerDistance 69 = .ok (.iaload, 1) := by decide +kernel
theorem d_AW_nearerDistance_70 : decode c_AW_nearerDistance 70 = .ok (.aload_n 0, 1) := by decide +kernel
theorem d_AW_nearerDistance_71 : decode c_AW_nearerDistance 71 = .ok (.getfield 30, 3) := by decide +kernel
theorem d_AW_nearerDistance_74 : decode c_AW_nearerDistance 74 = .ok (.getfield 315, 3) := by decide +kernel
theorem d_AW_nearerDistance_77 : decode c_AW_nearerDistance 77 = .ok (.iload 4, 2) := by decide +kernel
theorem d_AW_nearerDistance_79 : decode c_AW_nearerDistance 79 = .ok (.iaload, 1) := by decide +kernel
theorem d_AW_nearerDistance_80 : decode c_AW_nearerDistance 80 = .ok (.aload_n 1, 1) := by decide +kernel
theorem d_AW_nearerDistance_81 : decode c_AW_nearerDistance 81 = .ok (.invokevirtual 331, 3) := by decide +kernel
theorem d_AW_nearerDistance_84 : decode c_AW_nearerDistance 84 = .ok (.invokestatic 335, 3) := by decide +kernel
theorem d_AW_nearerDistance_87 : decode c_AW_nearerDistance 87 = .ok (.istore_n 3, 1) := by decide +kernel
theorem d_AW_nearerDistance_88 : decode c_AW_nearerDistance 88 = .ok (.iinc 4 1, 3) := by decide +kernel
theorem d_AW_nearerDistance_91 : decode c_AW_nearerDistance 91 = .ok (.goto (-77), 3) := by decide +kernel
theorem d_AW_nearerDistance_94 : decode c_AW_nearerDistance 94 = .ok (.iload_n 3, 1) := by decide +kernel
theorem d_AW_nearerDistance_95 : decode c_AW_nearerDistance 95 = .ok (.ireturn, 1) := by decide +kernel
theorem d_AW_tellCandidate_0 : decode c_AW_tellCandidate 0 = .ok (.aload_n 1, 1) := by decide +kernel
theorem d_AW_tellCandidate_1 : decode c_AW_tellCandidate 1 = .ok (.iload_n 3, 1) := by decide +kernel
theorem d_AW_tellCandidate_2 : decode c_AW_tellCandidate 2 = .ok (.putfield 262, 3) := by decide +kernel
theorem d_AW_tellCandidate_5 : decode c_AW_tellCandidate 5 = .ok (.iload_n 2, 1) := by decide +kernel
theorem d_AW_tellCandidate_6 : decode c_AW_tellCandidate 6 = .ok (.bipush 30, 2) := by decide +kernel
theorem d_AW_tellCandidate_8 : decode c_AW_tellCandidate 8 = .ok (.isub, 1) := by decide +kernel
theorem d_AW_tellCandidate_9 : decode c_AW_tellCandidate 9 = .ok (.istore 4, 2) := by decide +kernel
theorem d_AW_tellCandidate_11 : decode c_AW_tellCandidate 11 = .ok (.iload 4, 2) := by decide +kernel
theorem d_AW_tellCandidate_13 : decode c_AW_tellCandidate 13 = .ok (.ifCond .lt 22, 3) := by decide +kernel
theorem d_AW_tellCandidate_16 : decode c_AW_tellCandidate 16 = .ok (.iload 4, 2) := by decide +kernel
theorem d_AW_tellCandidate_18 : decode c_AW_tellCandidate 18 = .ok (.aload_n 0, 1) := by decide +kernel
theorem d_AW_tellCandidate_19 : decode c_AW_tellCandidate 19 = .ok (.getfield 162, 3) := by decide +kernel
theorem d_AW_tellCandidate_22 : decode c_AW_tellCandidate 22 = .ok (.if_icmp .ge 13, 3) := by decide +kernel
theorem d_AW_tellCandidate_25 : decode c_AW_tellCandidate 25 = .ok (.aload_n 0, 1) := by decide +kernel
