theorem d_AW_tellLandmark_0 : decode c_AW_tellLandmark 0 = .ok (.aload_n 0, 1) := by decide +kernel
theorem d_AW_tellLandmark_1 : decode c_AW_tellLandmark 1 = .ok (.getfield 17, 3) := by decide +kernel
theorem d_AW_tellLandmark_4 : decode c_AW_tellLandmark 4 = .ok (.iload_n 2, 1) := by decide +kernel
theorem d_AW_tellLandmark_5 : decode c_AW_tellLandmark 5 = .ok (.aaload, 1) := by decide +kernel
theorem d_AW_tellLandmark_6 : decode c_AW_tellLandmark 6 = .ok (.astore_n 3, 1) := by decide +kernel
theorem d_AW_tellLandmark_7 : decode c_AW_tellLandmark 7 = .ok (.aload_n 0, 1) := by decide +kernel
theorem d_AW_tellLandmark_8 : decode c_AW_tellLandmark 8 = .ok (.aload_n 1, 1) := by decide +kernel
theorem d_AW_tellLandmark_9 : decode c_AW_tellLandmark 9 = .ok (.aload_n 3, 1) := by decide +kernel
theorem d_AW_tellLandmark_10 : decode c_AW_tellLandmark 10 = .ok (.getfield 345, 3) := by decide +kernel
theorem d_AW_tellLandmark_13 : decode c_AW_tellLandmark 13 = .ok (.iconst 3, 1) := by decide +kernel
theorem d_AW_tellLandmark_14 : decode c_AW_tellLandmark 14 = .ok (.invokevirtual 346, 3) := by decide +kernel
theorem d_AW_tellLandmark_17 : decode c_AW_tellLandmark 17 = .ok (.aload_n 1, 1) := by decide +kernel
theorem d_AW_tellLandmark_18 : decode c_AW_tellLandmark 18 = .ok (.aload_n 3, 1) := by decide +kernel
theorem d_AW_tellLandmark_19 : decode c_AW_tellLandmark 19 = .ok (.getfield 349, 3) := by decide +kernel
theorem d_AW_tellLandmark_22 : decode c_AW_tellLandmark 22 = .ok (.putfield 256, 3) := by decide +kernel
theorem d_AW_tellLandmark_25 : decode c_AW_tellLandmark 25 = .ok (.aload_n 1, 1) := by decide +kernel
theorem d_AW_tellLandmark_26 : decode c_AW_tellLandmark 26 = .ok (.iload_n 2, 1) := by decide +kernel
theorem d_AW_tellLandmark_27 : decode c_AW_tellLandmark 27 = .ok (.putfield 268, 3) := by decide +kernel
theorem d_AW_tellLandmark_30 : decode c_AW_tellLandmark 30 = .ok (.return_, 1) := by decide +kernel
theorem d_AW_tellStreet_0 : decode c_AW_tellStreet 0 = .ok (.aload_n 0, 1) := by decide +kernel
theorem d_AW_tellStreet_1 : decode c_AW_tellStreet 1 = .ok (.getfield 11, 3) := by decide +kernel
theorem d_AW_tellStreet_4 : decode c_AW_tellStreet 4 = .ok (.iload_n 2, 1) := by decide +kernel
theorem d_AW_tellStreet_5 : decode c_AW_tellStreet 5 = .ok (.aaload, 1) := by decide +kernel
theorem d_AW_tellStreet_6 : decode c_AW_tellStreet 6 = .ok (.astore_n 3, 1) := by decide +kernel
theorem d_AW_tellStreet_7 : decode c_AW_tellStreet 7 = .ok (.aload_n 0, 1) := by decide +kernel
theorem d_AW_tellStreet_8 : decode c_AW_tellStreet 8 = .ok (.getfield 30, 3) := by decide +kernel
theorem d_AW_tellStreet_11 : decode c_AW_tellStreet 11 = .ok (.getfield 350, 3) := by decide +kernel
theorem d_AW_tellStreet_14 : decode c_AW_tellStreet 14 = .ok (.istore 4, 2) := by decide +kernel
theorem d_AW_tellStreet_16 : decode c_AW_tellStreet 16 = .ok (.aload_n 3, 1) := by decide +kernel
theorem d_AW_tellStreet_17 : decode c_AW_tellStreet 17 = .ok (.iload 4, 2) := by decide +kernel
theorem d_AW_tellStreet_19 : decode c_AW_tellStreet 19 = .ok (.invokevirtual 351, 3) := by decide +kernel
theorem d_AW_tellStreet_22 : decode c_AW_tellStreet 22 = .ok (.ifCond .eq 7, 3) := by decide +kernel
theorem d_AW_tellStreet_25 : decode c_AW_tellStreet 25 = .ok (.iconst 0, 1) := by decide +kernel
theorem d_AW_tellStreet_26 : decode c_AW_tellStreet 26 = .ok (.goto 4, 3) := by decide +kernel
theorem d_AW_tellStreet_29 : decode c_AW_tellStreet 29 = .ok (.iconst 1, 1) := by decide +kernel
theorem d_AW_tellStreet_30 : decode c_AW_tellStreet 30 = .ok (.istore 5, 2) := by decide +kernel
theorem d_AW_tellStreet_32 : decode c_AW_tellStreet 32 = .ok (.aload_n 0, 1) := by decide +kernel
theorem d_AW_tellStreet_33 : decode c_AW_tellStreet 33 = .ok (.aload_n 1, 1) := by decide +kernel
theorem d_AW_tellStreet_34 : decode c_AW_tellStreet 34 = .ok (.iload_n 2, 1) := by decide +kernel
theorem d_AW_tellStreet_35 : decode c_AW_tellStreet 35 = .ok (.iload 4, 2) := by decide +kernel
theorem d_AW_tellStreet_37 : decode c_AW_tellStreet 37 = .ok (.ifCond .ne 7, 3) := by decide +kernel
theorem d_AW_tellStreet_40 : decode c_AW_tellStreet 40 = .ok (.iconst 2, 1) := by decide +kernel
theorem d_AW_tellStreet_41 : decode c_AW_tellStreet 41 = .ok (.goto 5, 3) := by decide +kernel
theorem d_AW_tellStreet_44 : decode c_AW_tellStreet 44 = .ok (.iload 5, 2) := by decide +kernel
theorem d_AW_tellStreet_46 : decode c_AW_tellStreet 46 = .ok (.invokevirtual 346, 3) := by decide +kernel
theorem d_AW_tellStreet_49 : decode c_AW_tellStreet 49 = .ok (.aload_n 1, 1) := by decide +kernel
theorem d_AW_tellStreet_50 : decode c_AW_tellStreet 50 = .ok (.iload 4, 2) := by decide +kernel
theorem d_AW_tellStreet_52 : decode c_AW_tellStreet 52 = .ok (.ifCond .ne 7, 3) := by decide +kernel
theorem d_AW_tellStreet_55 : decode c_AW_tellStreet 55 = .ok (.iconst 0, 1) := by decide +kernel
theorem d_AW_tellStreet_56 : decode c_AW_tellStreet 56 = .ok (.goto 9, 3) := by decide +kernel
theorem d_AW_tellStreet_59 : decode c_AW_tellStreet 59 = .ok (.aload_n 3, 1) := by decide +kernel
theorem d_AW_tellStreet_60 : decode c_AW_tellStreet 60 = .ok (.iload 4, 2) := by decide +kernel
theorem d_AW_tellStreet_62 : decode c_AW_tellStreet 62 = .ok (.invokevirtual 354, 3) := by decide +kernel
theorem d_AW_tellStreet_65 : decode c_AW_tellStreet 65 = .ok (.putfield 256, 3) := by decide +kernel
theorem d_AW_tellStreet_68 : decode c_AW_tellStreet 68 = .ok (.aload_n 1, 1) := by decide +kernel
theorem d_AW_tellStreet_69 : decode c_AW_tellStreet 69 = .ok (.iconst (-1), 1) := by decide +kernel
theorem d_AW_tellStreet_70 : decode c_AW_tellStreet 70 = .ok (.putfield 268, 3) := by decide +kernel
theorem d_AW_tellStreet_73 : decode c_AW_tellStreet 73 = .ok (.return_, 1) := by decide +kernel
theorem d_AW_tellWhere_0 : decode c_AW_tellWhere 0 = .ok (.aload_n 0, 1) := by decide +kernel
theorem d_AW_tellWhere_1 : decode c_AW_tellWhere 1 = .ok (.getfield 11, 3) := by decide +kernel
theorem d_AW_tellWhere_4 : decode c_AW_tellWhere 4 = .ok (.iload_n 2, 1) := by decide +kernel
theorem d_AW_tellWhere_5 : decode c_AW_tellWhere 5 = .ok (.aaload, 1) := by decide +kernel
theorem d_AW_tellWhere_6 : decode c_AW_tellWhere 6 = .ok (.astore 4, 2) := by decide +kernel
theorem d_AW_tellWhere_8 : decode c_AW_tellWhere 8 = .ok (.aload_n 1, 1) := by decide +kernel
theorem d_AW_tellWhere_9 : decode c_AW_tellWhere 9 = .ok (.iload_n 2, 1) := by decide +kernel
theorem d_AW_tellWhere_10 : decode c_AW_tellWhere 10 = .ok (.putfield 253, 3) := by decide +kernel
theorem d_AW_tellWhere_13 : decode c_AW_tellWhere 13 = .ok (.aload_n 1, 1) := by decide +kernel
theorem d_AW_tellWhere_14 : decode c_AW_tellWhere 14 = .ok (.aload 4, 2) := by decide +kernel
theorem d_AW_tellWhere_16 : decode c_AW_tellWhere 16 = .ok (.getfield 289, 3) := by decide +kernel
theorem d_AW_tellWhere_19 : decode c_AW_tellWhere 19 = .ok (.putfield 265, 3) := by decide +kernel
theorem d_AW_tellWhere_22 : decode c_AW_tellWhere 22 = .ok (.aload_n 1, 1) := by decide +kernel
theorem d_AW_tellWhere_23 : decode c_AW_tellWhere 23 = .ok (.aload 4, 2) := by decide +kernel
theorem d_AW_tellWhere_25 : decode c_AW_tellWhere 25 = .ok (.getfield 143, 3) := by decide +kernel
theorem d_AW_tellWhere_28 : decode c_AW_tellWhere 28 = .ok (.ifCond .eq 10, 3) := by decide +kernel
theorem d_AW_tellWhere_31 : decode c_AW_tellWhere 31 = .ok (.iload_n 3, 1) := by decide +kernel
theorem d_AW_tellWhere_32 : decode c_AW_tellWhere 32 = .ok (.bipush 10, 2) := by decide +kernel
theorem d_AW_tellWhere_34 : decode c_AW_tellWhere 34 = .ok (.iadd, 1) := by decide +kernel
theorem d_AW_tellWhere_35 : decode c_AW_tellWhere 35 = .ok (.goto 4, 3) := by decide +kernel
theorem d_AW_tellWhere_38 : decode c_AW_tellWhere 38 = .ok (.iload_n 3, 1) := by decide +kernel
theorem d_AW_tellWhere_39 : decode c_AW_tellWhere 39 = .ok (.putfield 259, 3) := by decide +kernel
theorem d_AW_tellWhere_42 : decode c_AW_tellWhere 42 = .ok (.return_, 1) := by decide +kernel
theorem d_AW_requireLetters_0 : decode c_AW_requireLetters 0 = .ok (.iload_n 2, 1) := by decide +kernel
theorem d_AW_requireLetters_1 : decode c_AW_requireLetters 1 = .ok (.iconst 1, 1) := by decide +kernel
theorem d_AW_requireLetters_2 : decode c_AW_requireLetters 2 = .ok (.if_icmp .lt 9, 3) := by decide +kernel
theorem d_AW_requireLetters_5 : decode c_AW_requireLetters 5 = .ok (.iload_n 2, 1) := by decide +kernel
theorem d_AW_requireLetters_6 : decode c_AW_requireLetters 6 = .ok (.bipush 8, 2) := by decide +kernel
theorem d_AW_requireLetters_8 : decode c_AW_requireLetters 8 = .ok (.if_icmp .le 14, 3) := by decide +kernel
theorem d_AW_requireLetters_11 : decode c_AW_requireLetters 11 = .ok (.new 55, 3) := by decide +kernel
theorem d_AW_requireLetters_14 : decode c_AW_requireLetters 14 = .ok (.dup, 1) := by decide +kernel
theorem d_AW_requireLetters_15 : decode c_AW_requireLetters 15 = .ok (.ldc_w 357, 3) := by decide +kernel
theorem d_AW_requireLetters_18 : decode c_AW_requireLetters 18 = .ok (.invokespecial 59, 3) := by decide +kernel
theorem d_AW_requireLetters_21 : decode c_AW_requireLetters 21 = .ok (.athrow, 1) := by decide +kernel
theorem d_AW_requireLetters_22 : decode c_AW_requireLetters 22 = .ok (.iconst 0, 1) := by decide +kernel
theorem d_AW_requireLetters_23 : decode c_AW_requireLetters 23 = .ok (.istore_n 3, 1) := by decide +kernel
theorem d_AW_requireLetters_24 : decode c_AW_requireLetters 24 = .ok (.iload_n 3, 1) := by decide +kernel
theorem d_AW_requireLetters_25 : decode c_AW_requireLetters 25 = .ok (.iload_n 2, 1) := by decide +kernel
theorem d_AW_requireLetters_26 : decode c_AW_requireLetters 26 = .ok (.if_icmp .ge 32, 3) := by decide +kernel
theorem d_AW_requireLetters_29 : decode c_AW_requireLetters 29 = .ok (.lload_n 0, 1) := by decide +kernel
theorem d_AW_requireLetters_30 : decode c_AW_requireLetters 30 = .ok (.iload_n 2, 1) := by decide +kernel
theorem d_AW_requireLetters_31 : decode c_AW_requireLetters 31 = .ok (.iload_n 3, 1) := by decide +kernel
theorem d_AW_requireLetters_32 : decode c_AW_requireLetters 32 = .ok (.invokestatic 359, 3) := by decide +kernel
theorem d_AW_requireLetters_35 : decode c_AW_requireLetters 35 = .ok (.invokestatic 363, 3) := by decide +kernel
theorem d_AW_requireLetters_38 : decode c_AW_requireLetters 38 = .ok (.ifCond .ne 14, 3) := by decide +kernel
theorem d_AW_requireLetters_41 : decode c_AW_requireLetters 41 = .ok (.new 55, 3) := by decide +kernel
theorem d_AW_requireLetters_44 : decode c_AW_requireLetters 44 = .ok (.dup, 1) := by decide +kernel
theorem d_AW_requireLetters_45 : decode c_AW_requireLetters 45 = .ok (.ldc_w 367, 3) := by decide +kernel
theorem d_AW_requireLetters_48 : decode c_AW_requireLetters 48 = .ok (.invokespecial 59, 3) := by decide +kernel
theorem d_AW_requireLetters_51 : decode c_AW_requireLetters 51 = .ok (.athrow, 1) := by decide +kernel
theorem d_AW_requireLetters_52 : decode c_AW_requireLetters 52 = .ok (.iinc 3 1, 3) := by decide +kernel
theorem d_AW_requireLetters_55 : decode c_AW_requireLetters 55 = .ok (.goto (-31), 3) := by decide +kernel
theorem d_AW_requireLetters_58 : decode c_AW_requireLetters 58 = .ok (.return_, 1) := by decide +kernel
theorem d_AW_requireSigns_0 : decode c_AW_requireSigns 0 = .ok (.iconst 0, 1) := by decide +kernel
theorem d_AW_requireSigns_1 : decode c_AW_requireSigns 1 = .ok (.istore_n 3, 1) := by decide +kernel
theorem d_AW_requireSigns_2 : decode c_AW_requireSigns 2 = .ok (.iload_n 3, 1) := by decide +kernel
theorem d_AW_requireSigns_3 : decode c_AW_requireSigns 3 = .ok (.iload_n 2, 1) := by decide +kernel
theorem d_AW_requireSigns_4 : decode c_AW_requireSigns 4 = .ok (.if_icmp .ge 51, 3) := by decide +kernel
theorem d_AW_requireSigns_7 : decode c_AW_requireSigns 7 = .ok (.lload_n 0, 1) := by decide +kernel
theorem d_AW_requireSigns_8 : decode c_AW_requireSigns 8 = .ok (.iload_n 2, 1) := by decide +kernel
theorem d_AW_requireSigns_9 : decode c_AW_requireSigns 9 = .ok (.iload_n 3, 1) := by decide +kernel
theorem d_AW_requireSigns_10 : decode c_AW_requireSigns 10 = .ok (.invokestatic 359, 3) := by decide +kernel
theorem d_AW_requireSigns_13 : decode c_AW_requireSigns 13 = .ok (.istore 4, 2) := by decide +kernel
theorem d_AW_requireSigns_15 : decode c_AW_requireSigns 15 = .ok (.iload 4, 2) := by decide +kernel
theorem d_AW_requireSigns_17 : decode c_AW_requireSigns 17 = .ok (.invokestatic 363, 3) := by decide +kernel
theorem d_AW_requireSigns_20 : decode c_AW_requireSigns 20 = .ok (.ifCond .ne 29, 3) := by decide +kernel
theorem d_AW_requireSigns_23 : decode c_AW_requireSigns 23 = .ok (.iload 4, 2) := by decide +kernel
theorem d_AW_requireSigns_25 : decode c_AW_requireSigns 25 = .ok (.invokestatic 369, 3) := by decide +kernel
theorem d_AW_requireSigns_28 : decode c_AW_requireSigns 28 = .ok (.ifCond .ne 21, 3) := by decide +kernel
theorem d_AW_requireSigns_31 : decode c_AW_requireSigns 31 = .ok (.iload 4, 2) := by decide +kernel
theorem d_AW_requireSigns_33 : decode c_AW_requireSigns 33 = .ok (.bipush 32, 2) := by decide +kernel
theorem d_AW_requireSigns_35 : decode c_AW_requireSigns 35 = .ok (.if_icmp .eq 14, 3) := by decide +kernel
theorem d_AW_requireSigns_38 : decode c_AW_requireSigns 38 = .ok (.new 55, 3) := by decide +kernel
theorem d_AW_requireSigns_41 : decode c_AW_requireSigns 41 = .ok (.dup, 1) := by decide +kernel
theorem d_AW_requireSigns_42 : decode c_AW_requireSigns 42 = .ok (.ldc_w 372, 3) := by decide +kernel
theorem d_AW_requireSigns_45 : decode c_AW_requireSigns 45 = .ok (.invokespecial 59, 3) := by decide +kernel
theorem d_AW_requireSigns_48 : decode c_AW_requireSigns 48 = .ok (.athrow, 1) := by decide +kernel
theorem d_AW_requireSigns_49 : decode c_AW_requireSigns 49 = .ok (.iinc 3 1, 3) := by decide +kernel
theorem d_AW_requireSigns_52 : decode c_AW_requireSigns 52 = .ok (.goto (-50), 3) := by decide +kernel
theorem d_AW_requireSigns_55 : decode c_AW_requireSigns 55 = .ok (.return_, 1) := by decide +kernel
theorem d_AW_requireHouses_0 : decode c_AW_requireHouses 0 = .ok (.iload_n 0, 1) := by decide +kernel
theorem d_AW_requireHouses_1 : decode c_AW_requireHouses 1 = .ok (.ifCond .lt 8, 3) := by decide +kernel
theorem d_AW_requireHouses_4 : decode c_AW_requireHouses 4 = .ok (.iload_n 0, 1) := by decide +kernel
theorem d_AW_requireHouses_5 : decode c_AW_requireHouses 5 = .ok (.iconst 2, 1) := by decide +kernel
theorem d_AW_requireHouses_6 : decode c_AW_requireHouses 6 = .ok (.if_icmp .le 14, 3) := by decide +kernel
theorem d_AW_requireHouses_9 : decode c_AW_requireHouses 9 = .ok (.new 55, 3) := by decide +kernel
theorem d_AW_requireHouses_12 : decode c_AW_requireHouses 12 = .ok (.dup, 1) := by decide +kernel
theorem d_AW_requireHouses_13 : decode c_AW_requireHouses 13 = .ok (.ldc_w 374, 3) := by decide +kernel
theorem d_AW_requireHouses_16 : decode c_AW_requireHouses 16 = .ok (.invokespecial 59, 3) := by decide +kernel
theorem d_AW_requireHouses_19 : decode c_AW_requireHouses 19 = .ok (.athrow, 1) := by decide +kernel
theorem d_AW_requireHouses_20 : decode c_AW_requireHouses 20 = .ok (.iload_n 1, 1) := by decide +kernel
theorem d_AW_requireHouses_21 : decode c_AW_requireHouses 21 = .ok (.invokestatic 147, 3) := by decide +kernel
theorem d_AW_requireHouses_24 : decode c_AW_requireHouses 24 = .ok (.iload_n 2, 1) := by decide +kernel
theorem d_AW_requireHouses_25 : decode c_AW_requireHouses 25 = .ok (.invokestatic 147, 3) := by decide +kernel
theorem d_AW_requireHouses_28 : decode c_AW_requireHouses 28 = .ok (.iload_n 0, 1) := by decide +kernel
theorem d_AW_requireHouses_29 : decode c_AW_requireHouses 29 = .ok (.iload_n 1, 1) := by decide +kernel
theorem d_AW_requireHouses_30 : decode c_AW_requireHouses 30 = .ok (.invokestatic 376, 3) := by decide +kernel
theorem d_AW_requireHouses_33 : decode c_AW_requireHouses 33 = .ok (.iload_n 0, 1) := by decide +kernel
theorem d_AW_requireHouses_34 : decode c_AW_requireHouses 34 = .ok (.iload_n 2, 1) := by decide +kernel
theorem d_AW_requireHouses_35 : decode c_AW_requireHouses 35 = .ok (.invokestatic 379, 3) := by decide +kernel
theorem d_AW_requireHouses_38 : decode c_AW_requireHouses 38 = .ok (.if_icmp .le 14, 3) := by decide +kernel
theorem d_AW_requireHouses_41 : decode c_AW_requireHouses 41 = .ok (.new 55, 3) := by decide +kernel
theorem d_AW_requireHouses_44 : decode c_AW_requireHouses 44 = .ok (.dup, 1) := by decide +kernel
theorem d_AW_requireHouses_45 : decode c_AW_requireHouses 45 = .ok (.ldc_w 382, 3) := by decide +kernel
theorem d_AW_requireHouses_48 : decode c_AW_requireHouses 48 = .ok (.invokespecial 59, 3) := by decide +kernel
theorem d_AW_requireHouses_51 : decode c_AW_requireHouses 51 = .ok (.athrow, 1) := by decide +kernel
theorem d_AW_requireHouses_52 : decode c_AW_requireHouses 52 = .ok (.return_, 1) := by decide +kernel
theorem d_AW_requireHouse_0 : decode c_AW_requireHouse 0 = .ok (.iload_n 0, 1) := by decide +kernel
theorem d_AW_requireHouse_1 : decode c_AW_requireHouse 1 = .ok (.iconst 1, 1) := by decide +kernel
theorem d_AW_requireHouse_2 : decode c_AW_requireHouse 2 = .ok (.if_icmp .lt 10, 3) := by decide +kernel
theorem d_AW_requireHouse_5 : decode c_AW_requireHouse 5 = .ok (.iload_n 0, 1) := by decide +kernel
theorem d_AW_requireHouse_6 : decode c_AW_requireHouse 6 = .ok (.sipush 9999, 3) := by decide +kernel
theorem d_AW_requireHouse_9 : decode c_AW_requireHouse 9 = .ok (.if_icmp .le 14, 3) := by decide +kernel
theorem d_AW_requireHouse_12 : decode c_AW_requireHouse 12 = .ok (.new 55, 3) := by decide +kernel
theorem d_AW_requireHouse_15 : decode c_AW_requireHouse 15 = .ok (.dup, 1) := by decide +kernel
theorem d_AW_requireHouse_16 : decode c_AW_requireHouse 16 = .ok (.ldc_w 384, 3) := by decide +kernel
theorem d_AW_requireHouse_19 : decode c_AW_requireHouse 19 = .ok (.invokespecial 59, 3) := by decide +kernel
theorem d_AW_requireHouse_22 : decode c_AW_requireHouse 22 = .ok (.athrow, 1) := by decide +kernel
theorem d_AW_requireHouse_23 : decode c_AW_requireHouse 23 = .ok (.return_, 1) := by decide +kernel
theorem d_AW_requirePoint_0 : decode c_AW_requirePoint 0 = .ok (.iload_n 0, 1) := by decide +kernel
theorem d_AW_requirePoint_1 : decode c_AW_requirePoint 1 = .ok (.sipush (-9999), 3) := by decide +kernel
theorem d_AW_requirePoint_4 : decode c_AW_requirePoint 4 = .ok (.if_icmp .lt 24, 3) := by decide +kernel
theorem d_AW_requirePoint_7 : decode c_AW_requirePoint 7 = .ok (.iload_n 0, 1) := by decide +kernel
theorem d_AW_requirePoint_8 : decode c_AW_requirePoint 8 = .ok (.sipush 9999, 3) := by decide +kernel
theorem d_AW_requirePoint_11 : decode c_AW_requirePoint 11 = .ok (.if_icmp .gt 17, 3) := by decide +kernel
theorem d_AW_requirePoint_14 : decode c_AW_requirePoint 14 = .ok (.iload_n 1, 1) := by decide +kernel
theorem d_AW_requirePoint_15 : decode c_AW_requirePoint 15 = .ok (.sipush (-9999), 3) := by decide +kernel
theorem d_AW_requirePoint_18 : decode c_AW_requirePoint 18 = .ok (.if_icmp .lt 10, 3) := by decide +kernel
theorem d_AW_requirePoint_21 : decode c_AW_requirePoint 21 = .ok (.iload_n 1, 1) := by decide +kernel
theorem d_AW_requirePoint_22 : decode c_AW_requirePoint 22 = .ok (.sipush 9999, 3) := by decide +kernel
theorem d_AW_requirePoint_25 : decode c_AW_requirePoint 25 = .ok (.if_icmp .le 14, 3) := by decide +kernel
theorem d_AW_requirePoint_28 : decode c_AW_requirePoint 28 = .ok (.new 55, 3) := by decide +kernel
theorem d_AW_requirePoint_31 : decode c_AW_requirePoint 31 = .ok (.dup, 1) := by decide +kernel
theorem d_AW_requirePoint_32 : decode c_AW_requirePoint 32 = .ok (.ldc_w 386, 3) := by decide +kernel
theorem d_AW_requirePoint_35 : decode c_AW_requirePoint 35 = .ok (.invokespecial 59, 3) := by decide +kernel
theorem d_AW_requirePoint_38 : decode c_AW_requirePoint 38 = .ok (.athrow, 1) := by decide +kernel
theorem d_AW_requirePoint_39 : decode c_AW_requirePoint 39 = .ok (.return_, 1) := by decide +kernel
theorem d_AW_requireMetres_0 : decode c_AW_requireMetres 0 = .ok (.iload_n 1, 1) := by decide +kernel
theorem d_AW_requireMetres_1 : decode c_AW_requireMetres 1 = .ok (.ifCond .lt 11, 3) := by decide +kernel
theorem d_AW_requireMetres_4 : decode c_AW_requireMetres 4 = .ok (.iload_n 1, 1) := by decide +kernel
theorem d_AW_requireMetres_5 : decode c_AW_requireMetres 5 = .ok (.aload_n 0, 1) := by decide +kernel
theorem d_AW_requireMetres_6 : decode c_AW_requireMetres 6 = .ok (.getfield 142, 3) := by decide +kernel
theorem d_AW_requireMetres_9 : decode c_AW_requireMetres 9 = .ok (.if_icmp .le 14, 3) := by decide +kernel
theorem d_AW_requireMetres_12 : decode c_AW_requireMetres 12 = .ok (.new 55, 3) := by decide +kernel
theorem d_AW_requireMetres_15 : decode c_AW_requireMetres 15 = .ok (.dup, 1) := by decide +kernel
theorem d_AW_requireMetres_16 : decode c_AW_requireMetres 16 = .ok (.ldc_w 388, 3) := by decide +kernel
theorem d_AW_requireMetres_19 : decode c_AW_requireMetres 19 = .ok (.invokespecial 59, 3) := by decide +kernel
theorem d_AW_requireMetres_22 : decode c_AW_requireMetres 22 = .ok (.athrow, 1) := by decide +kernel
theorem d_AW_requireMetres_23 : decode c_AW_requireMetres 23 = .ok (.return_, 1) := by decide +kernel
theorem d_AW_signAt_0 : decode c_AW_signAt 0 = .ok (.lload_n 0, 1) := by decide +kernel
theorem d_AW_signAt_1 : decode c_AW_signAt 1 = .ok (.bipush 8, 2) := by decide +kernel
theorem d_AW_signAt_3 : decode c_AW_signAt 3 = .ok (.iload_n 2, 1) := by decide +kernel
theorem d_AW_signAt_4 : decode c_AW_signAt 4 = .ok (.iconst 1, 1) := by decide +kernel
theorem d_AW_signAt_5 : decode c_AW_signAt 5 = .ok (.isub, 1) := by decide +kernel
theorem d_AW_signAt_6 : decode c_AW_signAt 6 = .ok (.iload_n 3, 1) := by decide +kernel
theorem d_AW_signAt_7 : decode c_AW_signAt 7 = .ok (.isub, 1) := by decide +kernel
theorem d_AW_signAt_8 : decode c_AW_signAt 8 = .ok (.imul, 1) := by decide +kernel
theorem d_AW_signAt_9 : decode c_AW_signAt 9 = .ok (.lushr, 1) := by decide +kernel
theorem d_AW_signAt_10 : decode c_AW_signAt 10 = .ok (.ldc2_w 390, 3) := by decide +kernel
theorem d_AW_signAt_13 : decode c_AW_signAt 13 = .ok (.land, 1) := by decide +kernel
theorem d_AW_signAt_14 : decode c_AW_signAt 14 = .ok (.l2i, 1) := by decide +kernel
theorem d_AW_signAt_15 : decode c_AW_signAt 15 = .ok (.i2c, 1) := by decide +kernel
theorem d_AW_signAt_16 : decode c_AW_signAt 16 = .ok (.ireturn, 1) := by decide +kernel
theorem d_AW_isLetter_0 : decode c_AW_isLetter 0 = .ok (.iload_n 0, 1) := by decide +kernel
theorem d_AW_isLetter_1 : decode c_AW_isLetter 1 = .ok (.bipush 97, 2) := by decide +kernel
theorem d_AW_isLetter_3 : decode c_AW_isLetter 3 = .ok (.if_icmp .lt 13, 3) := by decide +kernel
theorem d_AW_isLetter_6 : decode c_AW_isLetter 6 = .ok (.iload_n 0, 1) := by decide +kernel
theorem d_AW_isLetter_7 : decode c_AW_isLetter 7 = .ok (.bipush 122, 2) := by decide +kernel
theorem d_AW_isLetter_9 : decode c_AW_isLetter 9 = .ok (.if_icmp .gt 7, 3) := by decide +kernel
theorem d_AW_isLetter_12 : decode c_AW_isLetter 12 = .ok (.iconst 1, 1) := by decide +kernel
theorem d_AW_isLetter_13 : decode c_AW_isLetter 13 = .ok (.goto 4, 3) := by decide +kernel
theorem d_AW_isLetter_16 : decode c_AW_isLetter 16 = .ok (.iconst 0, 1) := by decide +kernel
theorem d_AW_isLetter_17 : decode c_AW_isLetter 17 = .ok (.ireturn, 1) := by decide +kernel
theorem d_AW_isDigit_0 : decode c_AW_isDigit 0 = .ok (.iload_n 0, 1) := by decide +kernel
theorem d_AW_isDigit_1 : decode c_AW_isDigit 1 = .ok (.bipush 48, 2) := by decide +kernel
theorem d_AW_isDigit_3 : decode c_AW_isDigit 3 = .ok (.if_icmp .lt 13, 3) := by decide +kernel
theorem d_AW_isDigit_6 : decode c_AW_isDigit 6 = .ok (.iload_n 0, 1) := by decide +kernel
theorem d_AW_isDigit_7 : decode c_AW_isDigit 7 = .ok (.bipush 57, 2) := by decide +kernel
theorem d_AW_isDigit_9 : decode c_AW_isDigit 9 = .ok (.if_icmp .gt 7, 3) := by decide +kernel
theorem d_AW_isDigit_12 : decode c_AW_isDigit 12 = .ok (.iconst 1, 1) := by decide +kernel
theorem d_AW_isDigit_13 : decode c_AW_isDigit 13 = .ok (.goto 4, 3) := by decide +kernel
theorem d_AW_isDigit_16 : decode c_AW_isDigit 16 = .ok (.iconst 0, 1) := by decide +kernel
theorem d_AW_isDigit_17 : decode c_AW_isDigit 17 = .ok (.ireturn, 1) := by decide +kernel
theorem d_AW_squareOfWay_0 : decode c_AW_squareOfWay 0 = .ok (.iload_n 2, 1) := by decide +kernel
theorem d_AW_squareOfWay_1 : decode c_AW_squareOfWay 1 = .ok (.iload_n 0, 1) := by decide +kernel
theorem d_AW_squareOfWay_2 : decode c_AW_squareOfWay 2 = .ok (.isub, 1) := by decide +kernel
theorem d_AW_squareOfWay_3 : decode c_AW_squareOfWay 3 = .ok (.istore 4, 2) := by decide +kernel
theorem d_AW_squareOfWay_5 : decode c_AW_squareOfWay 5 = .ok (.iload_n 3, 1) := by decide +kernel
theorem d_AW_squareOfWay_6 : decode c_AW_squareOfWay 6 = .ok (.iload_n 1, 1) := by decide +kernel
theorem d_AW_squareOfWay_7 : decode c_AW_squareOfWay 7 = .ok (.isub, 1) := by decide +kernel
theorem d_AW_squareOfWay_8 : decode c_AW_squareOfWay 8 = .ok (.istore 5, 2) := by decide +kernel
theorem d_AW_squareOfWay_10 : decode c_AW_squareOfWay 10 = .ok (.iload 4, 2) := by decide +kernel
theorem d_AW_squareOfWay_12 : decode c_AW_squareOfWay 12 = .ok (.iload 4, 2) := by decide +kernel
theorem d_AW_squareOfWay_14 : decode c_AW_squareOfWay 14 = .ok (.imul, 1) := by decide +kernel
theorem d_AW_squareOfWay_15 : decode c_AW_squareOfWay 15 = .ok (.iload 5, 2) := by decide +kernel
theorem d_AW_squareOfWay_17 : decode c_AW_squareOfWay 17 = .ok (.iload 5, 2) := by decide +kernel
theorem d_AW_squareOfWay_19 : decode c_AW_squareOfWay 19 = .ok (.imul, 1) := by decide +kernel
theorem d_AW_squareOfWay_20 : decode c_AW_squareOfWay 20 = .ok (.iadd, 1) := by decide +kernel
theorem d_AW_squareOfWay_21 : decode c_AW_squareOfWay 21 = .ok (.ireturn, 1) := by decide +kernel
theorem d_AW_wholeRoot_0 : decode c_AW_wholeRoot 0 = .ok (.iconst 0, 1) := by decide +kernel
theorem d_AW_wholeRoot_1 : decode c_AW_wholeRoot 1 = .ok (.istore_n 1, 1) := by decide +kernel
theorem d_AW_wholeRoot_2 : decode c_AW_wholeRoot 2 = .ok (.sipush 16384, 3) := by decide +kernel
theorem d_AW_wholeRoot_5 : decode c_AW_wholeRoot 5 = .ok (.istore_n 2, 1) := by decide +kernel
theorem d_AW_wholeRoot_6 : decode c_AW_wholeRoot 6 = .ok (.iload_n 2, 1) := by decide +kernel
theorem d_AW_wholeRoot_7 : decode c_AW_wholeRoot 7 = .ok (.ifCond .le 23, 3) := by decide +kernel
theorem d_AW_wholeRoot_10 : decode c_AW_wholeRoot 10 = .ok (.iload_n 1, 1) := by decide +kernel
theorem d_AW_wholeRoot_11 : decode c_AW_wholeRoot 11 = .ok (.iload_n 2, 1) := by decide +kernel
theorem d_AW_wholeRoot_12 : decode c_AW_wholeRoot 12 = .ok (.iadd, 1) := by decide +kernel
theorem d_AW_wholeRoot_13 : decode c_AW_wholeRoot 13 = .ok (.istore_n 3, 1) := by decide +kernel
theorem d_AW_wholeRoot_14 : decode c_AW_wholeRoot 14 = .ok (.iload_n 3, 1) := by decide +kernel
theorem d_AW_wholeRoot_15 : decode c_AW_wholeRoot 15 = .ok (.iload_n 3, 1) := by decide +kernel
theorem d_AW_wholeRoot_16 : decode c_AW_wholeRoot 16 = .ok (.imul, 1) := by decide +kernel
theorem d_AW_wholeRoot_17 : decode c_AW_wholeRoot 17 = .ok (.iload_n 0, 1) := by decide +kernel
theorem d_AW_wholeRoot_18 : decode c_AW_wholeRoot 18 = .ok (.if_icmp .gt 5, 3) := by decide +kernel
theorem d_AW_wholeRoot_21 : decode c_AW_wholeRoot 21 = .ok (.iload_n 3, 1) := by decide +kernel
theorem d_AW_wholeRoot_22 : decode c_AW_wholeRoot 22 = .ok (.istore_n 1, 1) := by decide +kernel
theorem d_AW_wholeRoot_23 : decode c_AW_wholeRoot 23 = .ok (.iload_n 2, 1) := by decide +kernel
theorem d_AW_wholeRoot_24 : decode c_AW_wholeRoot 24 = .ok (.iconst 1, 1) := by decide +kernel
theorem d_AW_wholeRoot_25 : decode c_AW_wholeRoot 25 = .ok (.ishr, 1) := by decide +kernel
theorem d_AW_wholeRoot_26 : decode c_AW_wholeRoot 26 = .ok (.istore_n 2, 1) := by decide +kernel
theorem d_AW_wholeRoot_27 : decode c_AW_wholeRoot 27 = .ok (.goto (-21), 3) := by decide +kernel
theorem d_AW_wholeRoot_30 : decode c_AW_wholeRoot 30 = .ok (.iload_n 1, 1) := by decide +kernel
theorem d_AW_wholeRoot_31 : decode c_AW_wholeRoot 31 = .ok (.ireturn, 1) := by decide +kernel
theorem d_Mo_init_0 : decode c_Mo_init 0 = .ok (.aload_n 0, 1) := by decide +kernel
theorem d_Mo_init_1 : decode c_Mo_init 1 = .ok (.invokespecial 1, 3) := by decide +kernel
theorem d_Mo_init_4 : decode c_Mo_init 4 = .ok (.aload_n 0, 1) := by decide +kernel
theorem d_Mo_init_5 : decode c_Mo_init 5 = .ok (.bipush 30, 2) := by decide +kernel
theorem d_Mo_init_7 : decode c_Mo_init 7 = .ok (.newarray .int, 2) := by decide +kernel
theorem d_Mo_init_9 : decode c_Mo_init 9 = .ok (.putfield 7, 3) := by decide +kernel
theorem d_Mo_init_12 : decode c_Mo_init 12 = .ok (.aload_n 0, 1) := by decide +kernel
theorem d_Mo_init_13 : decode c_Mo_init 13 = .ok (.bipush 30, 2) := by decide +kernel
theorem d_Mo_init_15 : decode c_Mo_init 15 = .ok (.newarray .boolean, 2) := by decide +kernel
theorem d_Mo_init_17 : decode c_Mo_init 17 = .ok (.putfield 13, 3) := by decide +kernel
theorem d_Mo_init_20 : decode c_Mo_init 20 = .ok (.aload_n 0, 1) := by decide +kernel
theorem d_Mo_init_21 : decode c_Mo_init 21 = .ok (.bipush 30, 2) := by decide +kernel
theorem d_Mo_init_23 : decode c_Mo_init 23 = .ok (.newarray .int, 2) := by decide +kernel
theorem d_Mo_init_25 : decode c_Mo_init 25 = .ok (.putfield 17, 3) := by decide +kernel
theorem d_Mo_init_28 : decode c_Mo_init 28 = .ok (.aload_n 0, 1) := by decide +kernel
theorem d_Mo_init_29 : decode c_Mo_init 29 = .ok (.bipush 90, 2) := by decide +kernel
theorem d_Mo_init_31 : decode c_Mo_init 31 = .ok (.newarray .int, 2) := by decide +kernel
theorem d_Mo_init_33 : decode c_Mo_init 33 = .ok (.putfield 20, 3) := by decide +kernel
theorem d_Mo_init_36 : decode c_Mo_init 36 = .ok (.aload_n 0, 1) := by decide +kernel
theorem d_Mo_init_37 : decode c_Mo_init 37 = .ok (.sipush 1440, 3) := by decide +kernel
theorem d_Mo_init_40 : decode c_Mo_init 40 = .ok (.newarray .int, 2) := by decide +kernel
theorem d_Mo_init_42 : decode c_Mo_init 42 = .ok (.putfield 23, 3) := by decide +kernel
theorem d_Mo_init_45 : decode c_Mo_init 45 = .ok (.aload_n 0, 1) := by decide +kernel
theorem d_Mo_init_46 : decode c_Mo_init 46 = .ok (.bipush 30, 2) := by decide +kernel
theorem d_Mo_init_48 : decode c_Mo_init 48 = .ok (.newarray .int, 2) := by decide +kernel
theorem d_Mo_init_50 : decode c_Mo_init 50 = .ok (.putfield 26, 3) := by decide +kernel
theorem d_Mo_init_53 : decode c_Mo_init 53 = .ok (.aload_n 0, 1) := by decide +kernel
theorem d_Mo_init_54 : decode c_Mo_init 54 = .ok (.sipush 180, 3) := by decide +kernel
theorem d_Mo_init_57 : decode c_Mo_init 57 = .ok (.newarray .int, 2) := by decide +kernel
theorem d_Mo_init_59 : decode c_Mo_init 59 = .ok (.putfield 29, 3) := by decide +kernel
theorem d_Mo_init_62 : decode c_Mo_init 62 = .ok (.aload_n 0, 1) := by decide +kernel
theorem d_Mo_init_63 : decode c_Mo_init 63 = .ok (.sipush 180, 3) := by decide +kernel
theorem d_Mo_init_66 : decode c_Mo_init 66 = .ok (.newarray .int, 2) := by decide +kernel
theorem d_Mo_init_68 : decode c_Mo_init 68 = .ok (.putfield 32, 3) := by decide +kernel
theorem d_Mo_init_71 : decode c_Mo_init 71 = .ok (.aload_n 0, 1) := by decide +kernel
theorem d_Mo_init_72 : decode c_Mo_init 72 = .ok (.sipush 180, 3) := by decide +kernel
theorem d_Mo_init_75 : decode c_Mo_init 75 = .ok (.newarray .int, 2) := by decide +kernel
theorem d_Mo_init_77 : decode c_Mo_init 77 = .ok (.putfield 35, 3) := by decide +kernel
theorem d_Mo_init_80 : decode c_Mo_init 80 = .ok (.aload_n 0, 1) := by decide +kernel
theorem d_Mo_init_81 : decode c_Mo_init 81 = .ok (.bipush 30, 2) := by decide +kernel
theorem d_Mo_init_83 : decode c_Mo_init 83 = .ok (.newarray .int, 2) := by decide +kernel
theorem d_Mo_init_85 : decode c_Mo_init 85 = .ok (.putfield 38, 3) := by decide +kernel
theorem d_Mo_init_88 : decode c_Mo_init 88 = .ok (.aload_n 0, 1) := by decide +kernel
theorem d_Mo_init_89 : decode c_Mo_init 89 = .ok (.bipush 30, 2) := by decide +kernel
theorem d_Mo_init_91 : decode c_Mo_init 91 = .ok (.newarray .int, 2) := by decide +kernel
theorem d_Mo_init_93 : decode c_Mo_init 93 = .ok (.putfield 41, 3) := by decide +kernel
theorem d_Mo_init_96 : decode c_Mo_init 96 = .ok (.aload_n 0, 1) := by decide +kernel
theorem d_Mo_init_97 : decode c_Mo_init 97 = .ok (.bipush 30, 2) := by decide +kernel
theorem d_Mo_init_99 : decode c_Mo_init 99 = .ok (.newarray .int, 2) := by decide +kernel
theorem d_Mo_init_101 : decode c_Mo_init 101 = .ok (.putfield 44, 3) := by decide +kernel
theorem d_Mo_init_104 : decode c_Mo_init 104 = .ok (.aload_n 0, 1) := by decide +kernel
theorem d_Mo_init_105 : decode c_Mo_init 105 = .ok (.bipush 30, 2) := by decide +kernel
theorem d_Mo_init_107 : decode c_Mo_init 107 = .ok (.newarray .int, 2) := by decide +kernel
theorem d_Mo_init_109 : decode c_Mo_init 109 = .ok (.putfield 47, 3) := by decide +kernel
theorem d_Mo_init_112 : decode c_Mo_init 112 = .ok (.aload_n 0, 1) := by decide +kernel
theorem d_Mo_init_113 : decode c_Mo_init 113 = .ok (.bipush 30, 2) := by decide +kernel
theorem d_Mo_init_115 : decode c_Mo_init 115 = .ok (.newarray .int, 2) := by decide +kernel
theorem d_Mo_init_117 : decode c_Mo_init 117 = .ok (.putfield 50, 3) := by decide +kernel
theorem d_Mo_init_120 : decode c_Mo_init 120 = .ok (.aload_n 0, 1) := by decide +kernel
theorem d_Mo_init_121 : decode c_Mo_init 121 = .ok (.bipush 20, 2) := by decide +kernel
theorem d_Mo_init_123 : decode c_Mo_init 123 = .ok (.newarray .int, 2) := by decide +kernel
theorem d_Mo_init_125 : decode c_Mo_init 125 = .ok (.putfield 53, 3) := by decide +kernel
theorem d_Mo_init_128 : decode c_Mo_init 128 = .ok (.aload_n 0, 1) := by decide +kernel
theorem d_Mo_init_129 : decode c_Mo_init 129 = .ok (.bipush 20, 2) := by decide +kernel
theorem d_Mo_init_131 : decode c_Mo_init 131 = .ok (.newarray .int, 2) := by decide +kernel
theorem d_Mo_init_133 : decode c_Mo_init 133 = .ok (.putfield 56, 3) := by decide +kernel
theorem d_Mo_init_136 : decode c_Mo_init 136 = .ok (.aload_n 0, 1) := by decide +kernel
theorem d_Mo_init_137 : decode c_Mo_init 137 = .ok (.bipush 20, 2) := by decide +kernel
theorem d_Mo_init_139 : decode c_Mo_init 139 = .ok (.newarray .int, 2) := by decide +kernel
theorem d_Mo_init_141 : decode c_Mo_init 141 = .ok (.putfield 59, 3) := by decide +kernel
theorem d_Mo_init_144 : decode c_Mo_init 144 = .ok (.aload_n 0, 1) := by decide +kernel
theorem d_Mo_init_145 : decode c_Mo_init 145 = .ok (.sipush 160, 3) := by decide +kernel
theorem d_Mo_init_148 : decode c_Mo_init 148 = .ok (.newarray .int, 2) := by decide +kernel
theorem d_Mo_init_150 : decode c_Mo_init 150 = .ok (.putfield 62, 3) := by decide +kernel
theorem d_Mo_init_153 : decode c_Mo_init 153 = .ok (.aload_n 0, 1) := by decide +kernel
theorem d_Mo_init_154 : decode c_Mo_init 154 = .ok (.bipush 40, 2) := by decide +kernel
theorem d_Mo_init_156 : decode c_Mo_init 156 = .ok (.newarray .int, 2) := by decide +kernel
theorem d_Mo_init_158 : decode c_Mo_init 158 = .ok (.putfield 65, 3) := by decide +kernel
theorem d_Mo_init_161 : decode c_Mo_init 161 = .ok (.aload_n 0, 1) := by decide +kernel
theorem d_Mo_init_162 : decode c_Mo_init 162 = .ok (.bipush 40, 2) := by decide +kernel
theorem d_Mo_init_164 : decode c_Mo_init 164 = .ok (.newarray .int, 2) := by decide +kernel
theorem d_Mo_init_166 : decode c_Mo_init 166 = .ok (.putfield 68, 3) := by decide +kernel
theorem d_Mo_init_169 : decode c_Mo_init 169 = .ok (.aload_n 0, 1) := by decide +kernel
theorem d_Mo_init_170 : decode c_Mo_init 170 = .ok (.bipush 40, 2) := by decide +kernel
theorem d_Mo_init_172 : decode c_Mo_init 172 = .ok (.newarray .int, 2) := by decide +kernel
theorem d_Mo_init_174 : decode c_Mo_init 174 = .ok (.putfield 71, 3) := by decide +kernel
theorem d_Mo_init_177 : decode c_Mo_init 177 = .ok (.aload_n 0, 1) := by decide +kernel
theorem d_Mo_init_178 : decode c_Mo_init 178 = .ok (.bipush 40, 2) := by decide +kernel
theorem d_Mo_init_180 : decode c_Mo_init 180 = .ok (.newarray .int, 2) := by decide +kernel
theorem d_Mo_init_182 : decode c_Mo_init 182 = .ok (.putfield 74, 3) := by decide +kernel
theorem d_Mo_init_185 : decode c_Mo_init 185 = .ok (.aload_n 0, 1) := by decide +kernel
theorem d_Mo_init_186 : decode c_Mo_init 186 = .ok (.bipush 40, 2) := by decide +kernel
theorem d_Mo_init_188 : decode c_Mo_init 188 = .ok (.newarray .int, 2) := by decide +kernel
theorem d_Mo_init_190 : decode c_Mo_init 190 = .ok (.putfield 77, 3) := by decide +kernel
theorem d_Mo_init_193 : decode c_Mo_init 193 = .ok (.aload_n 0, 1) := by decide +kernel
theorem d_Mo_init_194 : decode c_Mo_init 194 = .ok (.bipush 10, 2) := by decide +kernel
theorem d_Mo_init_196 : decode c_Mo_init 196 = .ok (.newarray .int, 2) := by decide +kernel
theorem d_Mo_init_198 : decode c_Mo_init 198 = .ok (.putfield 80, 3) := by decide +kernel
theorem d_Mo_init_201 : decode c_Mo_init 201 = .ok (.aload_n 0, 1) := by decide +kernel
theorem d_Mo_init_202 : decode c_Mo_init 202 = .ok (.bipush 50, 2) := by decide +kernel
theorem d_Mo_init_204 : decode c_Mo_init 204 = .ok (.newarray .int, 2) := by decide +kernel
theorem d_Mo_init_206 : decode c_Mo_init 206 = .ok (.putfield 83, 3) := by decide +kernel
theorem d_Mo_init_209 : decode c_Mo_init 209 = .ok (.aload_n 0, 1) := by decide +kernel
theorem d_Mo_init_210 : decode c_Mo_init 210 = .ok (.bipush 40, 2) := by decide +kernel
theorem d_Mo_init_212 : decode c_Mo_init 212 = .ok (.newarray .int, 2) := by decide +kernel
theorem d_Mo_init_214 : decode c_Mo_init 214 = .ok (.putfield 86, 3) := by decide +kernel
theorem d_Mo_init_217 : decode c_Mo_init 217 = .ok (.aload_n 0, 1) := by decide +kernel
theorem d_Mo_init_218 : decode c_Mo_init 218 = .ok (.bipush 16, 2) := by decide +kernel
theorem d_Mo_init_220 : decode c_Mo_init 220 = .ok (.newarray .int, 2) := by decide +kernel
theorem d_Mo_init_222 : decode c_Mo_init 222 = .ok (.putfield 89, 3) := by decide +kernel
theorem d_Mo_init_225 : decode c_Mo_init 225 = .ok (.aload_n 0, 1) := by decide +kernel
theorem d_Mo_init_226 : decode c_Mo_init 226 = .ok (.sipush 697, 3) := by decide +kernel
theorem d_Mo_init_229 : decode c_Mo_init 229 = .ok (.newarray .int, 2) := by decide +kernel
theorem d_Mo_init_231 : decode c_Mo_init 231 = .ok (.putfield 92, 3) := by decide +kernel
theorem d_Mo_init_234 : decode c_Mo_init 234 = .ok (.return_, 1) := by decide +kernel
theorem d_Mo_thrown_0 : decode c_Mo_thrown 0 = .ok (.aload_n 0, 1) := by decide +kernel
theorem d_Mo_thrown_1 : decode c_Mo_thrown 1 = .ok (.getfield 95, 3) := by decide +kernel
theorem d_Mo_thrown_4 : decode c_Mo_thrown 4 = .ok (.ireturn, 1) := by decide +kernel
theorem d_Mo_in_0 : decode c_Mo_in 0 = .ok (.iload_n 0, 1) := by decide +kernel
