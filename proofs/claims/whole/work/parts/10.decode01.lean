theorem d_AW_init_0 : decode c_AW_init 0 = .ok (.aload_n 0, 1) := by decide +kernel
theorem d_AW_init_1 : decode c_AW_init 1 = .ok (.invokespecial 1, 3) := by decide +kernel
theorem d_AW_init_4 : decode c_AW_init 4 = .ok (.aload_n 0, 1) := by decide +kernel
theorem d_AW_init_5 : decode c_AW_init 5 = .ok (.bipush 30, 2) := by decide +kernel
theorem d_AW_init_7 : decode c_AW_init 7 = .ok (.anewarray 9, 3) := by decide +kernel
theorem d_AW_init_10 : decode c_AW_init 10 = .ok (.putfield 11, 3) := by decide +kernel
theorem d_AW_init_13 : decode c_AW_init 13 = .ok (.aload_n 0, 1) := by decide +kernel
theorem d_AW_init_14 : decode c_AW_init 14 = .ok (.bipush 20, 2) := by decide +kernel
theorem d_AW_init_16 : decode c_AW_init 16 = .ok (.anewarray 15, 3) := by decide +kernel
theorem d_AW_init_19 : decode c_AW_init 19 = .ok (.putfield 17, 3) := by decide +kernel
theorem d_AW_init_22 : decode c_AW_init 22 = .ok (.aload_n 0, 1) := by decide +kernel
theorem d_AW_init_23 : decode c_AW_init 23 = .ok (.bipush 40, 2) := by decide +kernel
theorem d_AW_init_25 : decode c_AW_init 25 = .ok (.anewarray 21, 3) := by decide +kernel
theorem d_AW_init_28 : decode c_AW_init 28 = .ok (.putfield 23, 3) := by decide +kernel
theorem d_AW_init_31 : decode c_AW_init 31 = .ok (.aload_n 0, 1) := by decide +kernel
theorem d_AW_init_32 : decode c_AW_init 32 = .ok (.new 27, 3) := by decide +kernel
theorem d_AW_init_35 : decode c_AW_init 35 = .ok (.dup, 1) := by decide +kernel
theorem d_AW_init_36 : decode c_AW_init 36 = .ok (.invokespecial 29, 3) := by decide +kernel
theorem d_AW_init_39 : decode c_AW_init 39 = .ok (.putfield 30, 3) := by decide +kernel
theorem d_AW_init_42 : decode c_AW_init 42 = .ok (.aload_n 0, 1) := by decide +kernel
theorem d_AW_init_43 : decode c_AW_init 43 = .ok (.new 34, 3) := by decide +kernel
theorem d_AW_init_46 : decode c_AW_init 46 = .ok (.dup, 1) := by decide +kernel
theorem d_AW_init_47 : decode c_AW_init 47 = .ok (.invokespecial 36, 3) := by decide +kernel
theorem d_AW_init_50 : decode c_AW_init 50 = .ok (.putfield 37, 3) := by decide +kernel
theorem d_AW_init_53 : decode c_AW_init 53 = .ok (.aload_n 0, 1) := by decide +kernel
theorem d_AW_init_54 : decode c_AW_init 54 = .ok (.new 41, 3) := by decide +kernel
theorem d_AW_init_57 : decode c_AW_init 57 = .ok (.dup, 1) := by decide +kernel
theorem d_AW_init_58 : decode c_AW_init 58 = .ok (.invokespecial 43, 3) := by decide +kernel
theorem d_AW_init_61 : decode c_AW_init 61 = .ok (.putfield 44, 3) := by decide +kernel
theorem d_AW_init_64 : decode c_AW_init 64 = .ok (.aload_n 0, 1) := by decide +kernel
theorem d_AW_init_65 : decode c_AW_init 65 = .ok (.bipush 10, 2) := by decide +kernel
theorem d_AW_init_67 : decode c_AW_init 67 = .ok (.anewarray 48, 3) := by decide +kernel
theorem d_AW_init_70 : decode c_AW_init 70 = .ok (.putfield 50, 3) := by decide +kernel
theorem d_AW_init_73 : decode c_AW_init 73 = .ok (.iconst 0, 1) := by decide +kernel
theorem d_AW_init_74 : decode c_AW_init 74 = .ok (.istore_n 1, 1) := by decide +kernel
theorem d_AW_init_75 : decode c_AW_init 75 = .ok (.iload_n 1, 1) := by decide +kernel
theorem d_AW_init_76 : decode c_AW_init 76 = .ok (.bipush 10, 2) := by decide +kernel
theorem d_AW_init_78 : decode c_AW_init 78 = .ok (.if_icmp .ge 22, 3) := by decide +kernel
theorem d_AW_init_81 : decode c_AW_init 81 = .ok (.aload_n 0, 1) := by decide +kernel
theorem d_AW_init_82 : decode c_AW_init 82 = .ok (.getfield 50, 3) := by decide +kernel
theorem d_AW_init_85 : decode c_AW_init 85 = .ok (.iload_n 1, 1) := by decide +kernel
theorem d_AW_init_86 : decode c_AW_init 86 = .ok (.new 48, 3) := by decide +kernel
theorem d_AW_init_89 : decode c_AW_init 89 = .ok (.dup, 1) := by decide +kernel
theorem d_AW_init_90 : decode c_AW_init 90 = .ok (.invokespecial 54, 3) := by decide +kernel
theorem d_AW_init_93 : decode c_AW_init 93 = .ok (.aastore, 1) := by decide +kernel
theorem d_AW_init_94 : decode c_AW_init 94 = .ok (.iinc 1 1, 3) := by decide +kernel
theorem d_AW_init_97 : decode c_AW_init 97 = .ok (.goto (-22), 3) := by decide +kernel
theorem d_AW_init_100 : decode c_AW_init 100 = .ok (.return_, 1) := by decide +kernel
theorem d_AW_street_0 : decode c_AW_street 0 = .ok (.iload_n 1, 1) := by decide +kernel
theorem d_AW_street_1 : decode c_AW_street 1 = .ok (.ifCond .lt 9, 3) := by decide +kernel
theorem d_AW_street_4 : decode c_AW_street 4 = .ok (.iload_n 1, 1) := by decide +kernel
theorem d_AW_street_5 : decode c_AW_street 5 = .ok (.bipush 9, 2) := by decide +kernel
theorem d_AW_street_7 : decode c_AW_street 7 = .ok (.if_icmp .le 13, 3) := by decide +kernel
theorem d_AW_street_10 : decode c_AW_street 10 = .ok (.new 55, 3) := by decide +kernel
theorem d_AW_street_13 : decode c_AW_street 13 = .ok (.dup, 1) := by decide +kernel
theorem d_AW_street_14 : decode c_AW_street 14 = .ok (.ldc 57, 2) := by decide +kernel
theorem d_AW_street_16 : decode c_AW_street 16 = .ok (.invokespecial 59, 3) := by decide +kernel
theorem d_AW_street_19 : decode c_AW_street 19 = .ok (.athrow, 1) := by decide +kernel
theorem d_AW_street_20 : decode c_AW_street 20 = .ok (.aload_n 0, 1) := by decide +kernel
theorem d_AW_street_21 : decode c_AW_street 21 = .ok (.getfield 62, 3) := by decide +kernel
theorem d_AW_street_24 : decode c_AW_street 24 = .ok (.bipush 30, 2) := by decide +kernel
theorem d_AW_street_26 : decode c_AW_street 26 = .ok (.if_icmp .lt 13, 3) := by decide +kernel
theorem d_AW_street_29 : decode c_AW_street 29 = .ok (.new 66, 3) := by decide +kernel
theorem d_AW_street_32 : decode c_AW_street 32 = .ok (.dup, 1) := by decide +kernel
theorem d_AW_street_33 : decode c_AW_street 33 = .ok (.ldc 68, 2) := by decide +kernel
theorem d_AW_street_35 : decode c_AW_street 35 = .ok (.invokespecial 70, 3) := by decide +kernel
theorem d_AW_street_38 : decode c_AW_street 38 = .ok (.athrow, 1) := by decide +kernel
theorem d_AW_street_39 : decode c_AW_street 39 = .ok (.aload_n 0, 1) := by decide +kernel
theorem d_AW_street_40 : decode c_AW_street 40 = .ok (.getfield 11, 3) := by decide +kernel
theorem d_AW_street_43 : decode c_AW_street 43 = .ok (.aload_n 0, 1) := by decide +kernel
theorem d_AW_street_44 : decode c_AW_street 44 = .ok (.getfield 62, 3) := by decide +kernel
theorem d_AW_street_47 : decode c_AW_street 47 = .ok (.new 9, 3) := by decide +kernel
theorem d_AW_street_50 : decode c_AW_street 50 = .ok (.dup, 1) := by decide +kernel
theorem d_AW_street_51 : decode c_AW_street 51 = .ok (.iload_n 1, 1) := by decide +kernel
theorem d_AW_street_52 : decode c_AW_street 52 = .ok (.invokespecial 71, 3) := by decide +kernel
theorem d_AW_street_55 : decode c_AW_street 55 = .ok (.aastore, 1) := by decide +kernel
theorem d_AW_street_56 : decode c_AW_street 56 = .ok (.aload_n 0, 1) := by decide +kernel
theorem d_AW_street_57 : decode c_AW_street 57 = .ok (.dup, 1) := by decide +kernel
theorem d_AW_street_58 : decode c_AW_street 58 = .ok (.getfield 62, 3) := by decide +kernel
theorem d_AW_street_61 : decode c_AW_street 61 = .ok (.iconst 1, 1) := by decide +kernel
theorem d_AW_street_62 : decode c_AW_street 62 = .ok (.iadd, 1) := by decide +kernel
theorem d_AW_street_63 : decode c_AW_street 63 = .ok (.putfield 62, 3) := by decide +kernel
theorem d_AW_street_66 : decode c_AW_street 66 = .ok (.aload_n 0, 1) := by decide +kernel
theorem d_AW_street_67 : decode c_AW_street 67 = .ok (.invokevirtual 74, 3) := by decide +kernel
theorem d_AW_street_70 : decode c_AW_street 70 = .ok (.aload_n 0, 1) := by decide +kernel
theorem d_AW_street_71 : decode c_AW_street 71 = .ok (.getfield 62, 3) := by decide +kernel
theorem d_AW_street_74 : decode c_AW_street 74 = .ok (.iconst 1, 1) := by decide +kernel
theorem d_AW_street_75 : decode c_AW_street 75 = .ok (.isub, 1) := by decide +kernel
theorem d_AW_street_76 : decode c_AW_street 76 = .ok (.ireturn, 1) := by decide +kernel
theorem d_AW_sign_0 : decode c_AW_sign 0 = .ok (.aload_n 0, 1) := by decide +kernel
theorem d_AW_sign_1 : decode c_AW_sign 1 = .ok (.iload_n 1, 1) := by decide +kernel
theorem d_AW_sign_2 : decode c_AW_sign 2 = .ok (.invokevirtual 77, 3) := by decide +kernel
theorem d_AW_sign_5 : decode c_AW_sign 5 = .ok (.invokevirtual 81, 3) := by decide +kernel
theorem d_AW_sign_8 : decode c_AW_sign 8 = .ok (.astore 5, 2) := by decide +kernel
theorem d_AW_sign_10 : decode c_AW_sign 10 = .ok (.lload_n 2, 1) := by decide +kernel
theorem d_AW_sign_11 : decode c_AW_sign 11 = .ok (.iload 4, 2) := by decide +kernel
theorem d_AW_sign_13 : decode c_AW_sign 13 = .ok (.invokestatic 85, 3) := by decide +kernel
theorem d_AW_sign_16 : decode c_AW_sign 16 = .ok (.aload 5, 2) := by decide +kernel
theorem d_AW_sign_18 : decode c_AW_sign 18 = .ok (.iload 4, 2) := by decide +kernel
theorem d_AW_sign_20 : decode c_AW_sign 20 = .ok (.invokevirtual 89, 3) := by decide +kernel
theorem d_AW_sign_23 : decode c_AW_sign 23 = .ok (.ifCond .ne 13, 3) := by decide +kernel
theorem d_AW_sign_26 : decode c_AW_sign 26 = .ok (.new 66, 3) := by decide +kernel
theorem d_AW_sign_29 : decode c_AW_sign 29 = .ok (.dup, 1) := by decide +kernel
theorem d_AW_sign_30 : decode c_AW_sign 30 = .ok (.ldc 95, 2) := by decide +kernel
theorem d_AW_sign_32 : decode c_AW_sign 32 = .ok (.invokespecial 70, 3) := by decide +kernel
theorem d_AW_sign_35 : decode c_AW_sign 35 = .ok (.athrow, 1) := by decide +kernel
theorem d_AW_sign_36 : decode c_AW_sign 36 = .ok (.aload 5, 2) := by decide +kernel
theorem d_AW_sign_38 : decode c_AW_sign 38 = .ok (.lload_n 2, 1) := by decide +kernel
theorem d_AW_sign_39 : decode c_AW_sign 39 = .ok (.iload 4, 2) := by decide +kernel
theorem d_AW_sign_41 : decode c_AW_sign 41 = .ok (.invokevirtual 97, 3) := by decide +kernel
theorem d_AW_sign_44 : decode c_AW_sign 44 = .ok (.aload_n 0, 1) := by decide +kernel
theorem d_AW_sign_45 : decode c_AW_sign 45 = .ok (.invokevirtual 74, 3) := by decide +kernel
theorem d_AW_sign_48 : decode c_AW_sign 48 = .ok (.aload 5, 2) := by decide +kernel
theorem d_AW_sign_50 : decode c_AW_sign 50 = .ok (.getfield 100, 3) := by decide +kernel
theorem d_AW_sign_53 : decode c_AW_sign 53 = .ok (.ireturn, 1) := by decide +kernel
theorem d_AW_alias_0 : decode c_AW_alias 0 = .ok (.aload_n 0, 1) := by decide +kernel
theorem d_AW_alias_1 : decode c_AW_alias 1 = .ok (.iload_n 1, 1) := by decide +kernel
theorem d_AW_alias_2 : decode c_AW_alias 2 = .ok (.invokevirtual 77, 3) := by decide +kernel
theorem d_AW_alias_5 : decode c_AW_alias 5 = .ok (.astore_n 2, 1) := by decide +kernel
theorem d_AW_alias_6 : decode c_AW_alias 6 = .ok (.aload_n 2, 1) := by decide +kernel
theorem d_AW_alias_7 : decode c_AW_alias 7 = .ok (.invokevirtual 81, 3) := by decide +kernel
theorem d_AW_alias_10 : decode c_AW_alias 10 = .ok (.invokevirtual 103, 3) := by decide +kernel
theorem d_AW_alias_13 : decode c_AW_alias 13 = .ok (.ifCond .eq 13, 3) := by decide +kernel
theorem d_AW_alias_16 : decode c_AW_alias 16 = .ok (.new 107, 3) := by decide +kernel
theorem d_AW_alias_19 : decode c_AW_alias 19 = .ok (.dup, 1) := by decide +kernel
theorem d_AW_alias_20 : decode c_AW_alias 20 = .ok (.ldc 109, 2) := by decide +kernel
theorem d_AW_alias_22 : decode c_AW_alias 22 = .ok (.invokespecial 111, 3) := by decide +kernel
theorem d_AW_alias_25 : decode c_AW_alias 25 = .ok (.athrow, 1) := by decide +kernel
theorem d_AW_alias_26 : decode c_AW_alias 26 = .ok (.aload_n 2, 1) := by decide +kernel
theorem d_AW_alias_27 : decode c_AW_alias 27 = .ok (.getfield 112, 3) := by decide +kernel
theorem d_AW_alias_30 : decode c_AW_alias 30 = .ok (.iconst 3, 1) := by decide +kernel
theorem d_AW_alias_31 : decode c_AW_alias 31 = .ok (.if_icmp .lt 13, 3) := by decide +kernel
theorem d_AW_alias_34 : decode c_AW_alias 34 = .ok (.new 66, 3) := by decide +kernel
theorem d_AW_alias_37 : decode c_AW_alias 37 = .ok (.dup, 1) := by decide +kernel
theorem d_AW_alias_38 : decode c_AW_alias 38 = .ok (.ldc 115, 2) := by decide +kernel
theorem d_AW_alias_40 : decode c_AW_alias 40 = .ok (.invokespecial 70, 3) := by decide +kernel
theorem d_AW_alias_43 : decode c_AW_alias 43 = .ok (.athrow, 1) := by decide +kernel
theorem d_AW_alias_44 : decode c_AW_alias 44 = .ok (.aload_n 2, 1) := by decide +kernel
theorem d_AW_alias_45 : decode c_AW_alias 45 = .ok (.dup, 1) := by decide +kernel
theorem d_AW_alias_46 : decode c_AW_alias 46 = .ok (.getfield 112, 3) := by decide +kernel
theorem d_AW_alias_49 : decode c_AW_alias 49 = .ok (.iconst 1, 1) := by decide +kernel
theorem d_AW_alias_50 : decode c_AW_alias 50 = .ok (.iadd, 1) := by decide +kernel
theorem d_AW_alias_51 : decode c_AW_alias 51 = .ok (.putfield 112, 3) := by decide +kernel
theorem d_AW_alias_54 : decode c_AW_alias 54 = .ok (.aload_n 0, 1) := by decide +kernel
theorem d_AW_alias_55 : decode c_AW_alias 55 = .ok (.invokevirtual 74, 3) := by decide +kernel
theorem d_AW_alias_58 : decode c_AW_alias 58 = .ok (.aload_n 2, 1) := by decide +kernel
theorem d_AW_alias_59 : decode c_AW_alias 59 = .ok (.getfield 112, 3) := by decide +kernel
theorem d_AW_alias_62 : decode c_AW_alias 62 = .ok (.ireturn, 1) := by decide +kernel
theorem d_AW_range_0 : decode c_AW_range 0 = .ok (.aload_n 0, 1) := by decide +kernel
theorem d_AW_range_1 : decode c_AW_range 1 = .ok (.iload_n 1, 1) := by decide +kernel
theorem d_AW_range_2 : decode c_AW_range 2 = .ok (.invokevirtual 77, 3) := by decide +kernel
theorem d_AW_range_5 : decode c_AW_range 5 = .ok (.astore 5, 2) := by decide +kernel
theorem d_AW_range_7 : decode c_AW_range 7 = .ok (.iload_n 2, 1) := by decide +kernel
theorem d_AW_range_8 : decode c_AW_range 8 = .ok (.iload_n 3, 1) := by decide +kernel
theorem d_AW_range_9 : decode c_AW_range 9 = .ok (.iload 4, 2) := by decide +kernel
theorem d_AW_range_11 : decode c_AW_range 11 = .ok (.invokestatic 117, 3) := by decide +kernel
theorem d_AW_range_14 : decode c_AW_range 14 = .ok (.aload 5, 2) := by decide +kernel
theorem d_AW_range_16 : decode c_AW_range 16 = .ok (.getfield 121, 3) := by decide +kernel
theorem d_AW_range_19 : decode c_AW_range 19 = .ok (.bipush 6, 2) := by decide +kernel
theorem d_AW_range_21 : decode c_AW_range 21 = .ok (.if_icmp .lt 13, 3) := by decide +kernel
theorem d_AW_range_24 : decode c_AW_range 24 = .ok (.new 66, 3) := by decide +kernel
theorem d_AW_range_27 : decode c_AW_range 27 = .ok (.dup, 1) := by decide +kernel
theorem d_AW_range_28 : decode c_AW_range 28 = .ok (.ldc 124, 2) := by decide +kernel
theorem d_AW_range_30 : decode c_AW_range 30 = .ok (.invokespecial 70, 3) := by decide +kernel
theorem d_AW_range_33 : decode c_AW_range 33 = .ok (.athrow, 1) := by decide +kernel
theorem d_AW_range_34 : decode c_AW_range 34 = .ok (.aload 5, 2) := by decide +kernel
theorem d_AW_range_36 : decode c_AW_range 36 = .ok (.getfield 126, 3) := by decide +kernel
theorem d_AW_range_39 : decode c_AW_range 39 = .ok (.aload 5, 2) := by decide +kernel
theorem d_AW_range_41 : decode c_AW_range 41 = .ok (.getfield 121, 3) := by decide +kernel
theorem d_AW_range_44 : decode c_AW_range 44 = .ok (.new 130, 3) := by decide +kernel
theorem d_AW_range_47 : decode c_AW_range 47 = .ok (.dup, 1) := by decide +kernel
theorem d_AW_range_48 : decode c_AW_range 48 = .ok (.iload_n 2, 1) := by decide +kernel
theorem d_AW_range_49 : decode c_AW_range 49 = .ok (.iload_n 3, 1) := by decide +kernel
theorem d_AW_range_50 : decode c_AW_range 50 = .ok (.iload 4, 2) := by decide +kernel
theorem d_AW_range_52 : decode c_AW_range 52 = .ok (.invokespecial 132, 3) := by decide +kernel
theorem d_AW_range_55 : decode c_AW_range 55 = .ok (.aastore, 1) := by decide +kernel
theorem d_AW_range_56 : decode c_AW_range 56 = .ok (.aload 5, 2) := by decide +kernel
theorem d_AW_range_58 : decode c_AW_range 58 = .ok (.dup, 1) := by decide +kernel
theorem d_AW_range_59 : decode c_AW_range 59 = .ok (.getfield 121, 3) := by decide +kernel
theorem d_AW_range_62 : decode c_AW_range 62 = .ok (.iconst 1, 1) := by decide +kernel
theorem d_AW_range_63 : decode c_AW_range 63 = .ok (.iadd, 1) := by decide +kernel
theorem d_AW_range_64 : decode c_AW_range 64 = .ok (.putfield 121, 3) := by decide +kernel
theorem d_AW_range_67 : decode c_AW_range 67 = .ok (.aload_n 0, 1) := by decide +kernel
theorem d_AW_range_68 : decode c_AW_range 68 = .ok (.invokevirtual 74, 3) := by decide +kernel
theorem d_AW_range_71 : decode c_AW_range 71 = .ok (.aload 5, 2) := by decide +kernel
theorem d_AW_range_73 : decode c_AW_range 73 = .ok (.getfield 121, 3) := by decide +kernel
theorem d_AW_range_76 : decode c_AW_range 76 = .ok (.ireturn, 1) := by decide +kernel
theorem d_AW_line_0 : decode c_AW_line 0 = .ok (.aload_n 0, 1) := by decide +kernel
theorem d_AW_line_1 : decode c_AW_line 1 = .ok (.iload_n 1, 1) := by decide +kernel
theorem d_AW_line_2 : decode c_AW_line 2 = .ok (.invokevirtual 77, 3) := by decide +kernel
theorem d_AW_line_5 : decode c_AW_line 5 = .ok (.astore 6, 2) := by decide +kernel
theorem d_AW_line_7 : decode c_AW_line 7 = .ok (.iload_n 2, 1) := by decide +kernel
theorem d_AW_line_8 : decode c_AW_line 8 = .ok (.iload_n 3, 1) := by decide +kernel
theorem d_AW_line_9 : decode c_AW_line 9 = .ok (.invokestatic 134, 3) := by decide +kernel
theorem d_AW_line_12 : decode c_AW_line 12 = .ok (.iload 4, 2) := by decide +kernel
theorem d_AW_line_14 : decode c_AW_line 14 = .ok (.iload 5, 2) := by decide +kernel
theorem d_AW_line_16 : decode c_AW_line 16 = .ok (.invokestatic 134, 3) := by decide +kernel
theorem d_AW_line_19 : decode c_AW_line 19 = .ok (.aload 6, 2) := by decide +kernel
theorem d_AW_line_21 : decode c_AW_line 21 = .ok (.iload_n 2, 1) := by decide +kernel
theorem d_AW_line_22 : decode c_AW_line 22 = .ok (.iload_n 3, 1) := by decide +kernel
theorem d_AW_line_23 : decode c_AW_line 23 = .ok (.iload 4, 2) := by decide +kernel
theorem d_AW_line_25 : decode c_AW_line 25 = .ok (.iload 5, 2) := by decide +kernel
theorem d_AW_line_27 : decode c_AW_line 27 = .ok (.invokevirtual 138, 3) := by decide +kernel
theorem d_AW_line_30 : decode c_AW_line 30 = .ok (.aload_n 0, 1) := by decide +kernel
theorem d_AW_line_31 : decode c_AW_line 31 = .ok (.invokevirtual 74, 3) := by decide +kernel
theorem d_AW_line_34 : decode c_AW_line 34 = .ok (.aload 6, 2) := by decide +kernel
theorem d_AW_line_36 : decode c_AW_line 36 = .ok (.getfield 142, 3) := by decide +kernel
theorem d_AW_line_39 : decode c_AW_line 39 = .ok (.ireturn, 1) := by decide +kernel
theorem d_AW_close_0 : decode c_AW_close 0 = .ok (.aload_n 0, 1) := by decide +kernel
theorem d_AW_close_1 : decode c_AW_close 1 = .ok (.iload_n 1, 1) := by decide +kernel
theorem d_AW_close_2 : decode c_AW_close 2 = .ok (.invokevirtual 77, 3) := by decide +kernel
theorem d_AW_close_5 : decode c_AW_close 5 = .ok (.iload_n 2, 1) := by decide +kernel
theorem d_AW_close_6 : decode c_AW_close 6 = .ok (.putfield 143, 3) := by decide +kernel
theorem d_AW_close_9 : decode c_AW_close 9 = .ok (.aload_n 0, 1) := by decide +kernel
theorem d_AW_close_10 : decode c_AW_close 10 = .ok (.invokevirtual 74, 3) := by decide +kernel
theorem d_AW_close_13 : decode c_AW_close 13 = .ok (.return_, 1) := by decide +kernel
theorem d_AW_landmark_0 : decode c_AW_landmark 0 = .ok (.aload_n 0, 1) := by decide +kernel
theorem d_AW_landmark_1 : decode c_AW_landmark 1 = .ok (.iload_n 1, 1) := by decide +kernel
theorem d_AW_landmark_2 : decode c_AW_landmark 2 = .ok (.invokevirtual 77, 3) := by decide +kernel
theorem d_AW_landmark_5 : decode c_AW_landmark 5 = .ok (.pop, 1) := by decide +kernel
theorem d_AW_landmark_6 : decode c_AW_landmark 6 = .ok (.iload_n 2, 1) := by decide +kernel
theorem d_AW_landmark_7 : decode c_AW_landmark 7 = .ok (.invokestatic 147, 3) := by decide +kernel
theorem d_AW_landmark_10 : decode c_AW_landmark 10 = .ok (.lload_n 3, 1) := by decide +kernel
theorem d_AW_landmark_11 : decode c_AW_landmark 11 = .ok (.iload 5, 2) := by decide +kernel
theorem d_AW_landmark_13 : decode c_AW_landmark 13 = .ok (.invokestatic 85, 3) := by decide +kernel
theorem d_AW_landmark_16 : decode c_AW_landmark 16 = .ok (.new 15, 3) := by decide +kernel
theorem d_AW_landmark_19 : decode c_AW_landmark 19 = .ok (.dup, 1) := by decide +kernel
theorem d_AW_landmark_20 : decode c_AW_landmark 20 = .ok (.iload_n 1, 1) := by decide +kernel
theorem d_AW_landmark_21 : decode c_AW_landmark 21 = .ok (.iload_n 2, 1) := by decide +kernel
theorem d_AW_landmark_22 : decode c_AW_landmark 22 = .ok (.invokespecial 150, 3) := by decide +kernel
theorem d_AW_landmark_25 : decode c_AW_landmark 25 = .ok (.astore 6, 2) := by decide +kernel
theorem d_AW_landmark_27 : decode c_AW_landmark 27 = .ok (.aload 6, 2) := by decide +kernel
theorem d_AW_landmark_29 : decode c_AW_landmark 29 = .ok (.getfield 152, 3) := by decide +kernel
theorem d_AW_landmark_32 : decode c_AW_landmark 32 = .ok (.lload_n 3, 1) := by decide +kernel
theorem d_AW_landmark_33 : decode c_AW_landmark 33 = .ok (.iload 5, 2) := by decide +kernel
theorem d_AW_landmark_35 : decode c_AW_landmark 35 = .ok (.invokevirtual 97, 3) := by decide +kernel
theorem d_AW_landmark_38 : decode c_AW_landmark 38 = .ok (.aload_n 0, 1) := by decide +kernel
theorem d_AW_landmark_39 : decode c_AW_landmark 39 = .ok (.aload 6, 2) := by decide +kernel
theorem d_AW_landmark_41 : decode c_AW_landmark 41 = .ok (.getfield 152, 3) := by decide +kernel
theorem d_AW_landmark_44 : decode c_AW_landmark 44 = .ok (.invokevirtual 156, 3) := by decide +kernel
theorem d_AW_landmark_47 : decode c_AW_landmark 47 = .ok (.ifCond .eq 13, 3) := by decide +kernel
theorem d_AW_landmark_50 : decode c_AW_landmark 50 = .ok (.new 107, 3) := by decide +kernel
theorem d_AW_landmark_53 : decode c_AW_landmark 53 = .ok (.dup, 1) := by decide +kernel
theorem d_AW_landmark_54 : decode c_AW_landmark 54 = .ok (.ldc 160, 2) := by decide +kernel
theorem d_AW_landmark_56 : decode c_AW_landmark 56 = .ok (.invokespecial 111, 3) := by decide +kernel
theorem d_AW_landmark_59 : decode c_AW_landmark 59 = .ok (.athrow, 1) := by decide +kernel
theorem d_AW_landmark_60 : decode c_AW_landmark 60 = .ok (.aload_n 0, 1) := by decide +kernel
theorem d_AW_landmark_61 : decode c_AW_landmark 61 = .ok (.getfield 162, 3) := by decide +kernel
theorem d_AW_landmark_64 : decode c_AW_landmark 64 = .ok (.bipush 20, 2) := by decide +kernel
theorem d_AW_landmark_66 : decode c_AW_landmark 66 = .ok (.if_icmp .lt 13, 3) := by decide +kernel
theorem d_AW_landmark_69 : decode c_AW_landmark 69 = .ok (.new 66, 3) := by decide +kernel
theorem d_AW_landmark_72 : decode c_AW_landmark 72 = .ok (.dup, 1) := by decide +kernel
theorem d_AW_landmark_73 : decode c_AW_landmark 73 = .ok (.ldc 165, 2) := by decide +kernel
theorem d_AW_landmark_75 : decode c_AW_landmark 75 = .ok (.invokespecial 70, 3) := by decide +kernel
theorem d_AW_landmark_78 : decode c_AW_landmark 78 = .ok (.athrow, 1) := by decide +kernel
theorem d_AW_landmark_79 : decode c_AW_landmark 79 = .ok (.aload_n 0, 1) := by decide +kernel
theorem d_AW_landmark_80 : decode c_AW_landmark 80 = .ok (.getfield 17, 3) := by decide +kernel
theorem d_AW_landmark_83 : decode c_AW_landmark 83 = .ok (.aload_n 0, 1) := by decide +kernel
theorem d_AW_landmark_84 : decode c_AW_landmark 84 = .ok (.getfield 162, 3) := by decide +kernel
theorem d_AW_landmark_87 : decode c_AW_landmark 87 = .ok (.aload 6, 2) := by decide +kernel
theorem d_AW_landmark_89 : decode c_AW_landmark 89 = .ok (.aastore, 1) := by decide +kernel
theorem d_AW_landmark_90 : decode c_AW_landmark 90 = .ok (.aload_n 0, 1) := by decide +kernel
theorem d_AW_landmark_91 : decode c_AW_landmark 91 = .ok (.dup, 1) := by decide +kernel
theorem d_AW_landmark_92 : decode c_AW_landmark 92 = .ok (.getfield 162, 3) := by decide +kernel
theorem d_AW_landmark_95 : decode c_AW_landmark 95 = .ok (.iconst 1, 1) := by decide +kernel
theorem d_AW_landmark_96 : decode c_AW_landmark 96 = .ok (.iadd, 1) := by decide +kernel
theorem d_AW_landmark_97 : decode c_AW_landmark 97 = .ok (.putfield 162, 3) := by decide +kernel
theorem d_AW_landmark_100 : decode c_AW_landmark 100 = .ok (.aload_n 0, 1) := by decide +kernel
theorem d_AW_landmark_101 : decode c_AW_landmark 101 = .ok (.invokevirtual 74, 3) := by decide +kernel
theorem d_AW_landmark_104 : decode c_AW_landmark 104 = .ok (.aload_n 0, 1) := by decide +kernel
theorem d_AW_landmark_105 : decode c_AW_landmark 105 = .ok (.getfield 162, 3) := by decide +kernel
theorem d_AW_landmark_108 : decode c_AW_landmark 108 = .ok (.iconst 1, 1) := by decide +kernel
theorem d_AW_landmark_109 : decode c_AW_landmark 109 = .ok (.isub, 1) := by decide +kernel
theorem d_AW_landmark_110 : decode c_AW_landmark 110 = .ok (.ireturn, 1) := by decide +kernel
theorem d_AW_meet_0 : decode c_AW_meet 0 = .ok (.aload_n 0, 1) := by decide +kernel
theorem d_AW_meet_1 : decode c_AW_meet 1 = .ok (.iload_n 1, 1) := by decide +kernel
theorem d_AW_meet_2 : decode c_AW_meet 2 = .ok (.invokevirtual 77, 3) := by decide +kernel
theorem d_AW_meet_5 : decode c_AW_meet 5 = .ok (.astore 5, 2) := by decide +kernel
theorem d_AW_meet_7 : decode c_AW_meet 7 = .ok (.aload_n 0, 1) := by decide +kernel
theorem d_AW_meet_8 : decode c_AW_meet 8 = .ok (.iload_n 2, 1) := by decide +kernel
theorem d_AW_meet_9 : decode c_AW_meet 9 = .ok (.invokevirtual 77, 3) := by decide +kernel
theorem d_AW_meet_12 : decode c_AW_meet 12 = .ok (.astore 6, 2) := by decide +kernel
theorem d_AW_meet_14 : decode c_AW_meet 14 = .ok (.aload 5, 2) := by decide +kernel
theorem d_AW_meet_16 : decode c_AW_meet 16 = .ok (.iload_n 3, 1) := by decide +kernel
theorem d_AW_meet_17 : decode c_AW_meet 17 = .ok (.invokestatic 167, 3) := by decide +kernel
theorem d_AW_meet_20 : decode c_AW_meet 20 = .ok (.aload 6, 2) := by decide +kernel
theorem d_AW_meet_22 : decode c_AW_meet 22 = .ok (.iload 4, 2) := by decide +kernel
theorem d_AW_meet_24 : decode c_AW_meet 24 = .ok (.invokestatic 167, 3) := by decide +kernel
theorem d_AW_meet_27 : decode c_AW_meet 27 = .ok (.iload_n 1, 1) := by decide +kernel
theorem d_AW_meet_28 : decode c_AW_meet 28 = .ok (.iload_n 2, 1) := by decide +kernel
theorem d_AW_meet_29 : decode c_AW_meet 29 = .ok (.if_icmp .ne 13, 3) := by decide +kernel
theorem d_AW_meet_32 : decode c_AW_meet 32 = .ok (.new 107, 3) := by decide +kernel
theorem d_AW_meet_35 : decode c_AW_meet 35 = .ok (.dup, 1) := by decide +kernel
theorem d_AW_meet_36 : decode c_AW_meet 36 = .ok (.ldc 171, 2) := by decide +kernel
theorem d_AW_meet_38 : decode c_AW_meet 38 = .ok (.invokespecial 111, 3) := by decide +kernel
theorem d_AW_meet_41 : decode c_AW_meet 41 = .ok (.athrow, 1) := by decide +kernel
theorem d_AW_meet_42 : decode c_AW_meet 42 = .ok (.aload_n 0, 1) := by decide +kernel
theorem d_AW_meet_43 : decode c_AW_meet 43 = .ok (.iload_n 1, 1) := by decide +kernel
theorem d_AW_meet_44 : decode c_AW_meet 44 = .ok (.iload_n 2, 1) := by decide +kernel
theorem d_AW_meet_45 : decode c_AW_meet 45 = .ok (.invokevirtual 173, 3) := by decide +kernel
theorem d_AW_meet_48 : decode c_AW_meet 48 = .ok (.iconst (-1), 1) := by decide +kernel
theorem d_AW_meet_49 : decode c_AW_meet 49 = .ok (.if_icmp .eq 13, 3) := by decide +kernel
theorem d_AW_meet_52 : decode c_AW_meet 52 = .ok (.new 107, 3) := by decide +kernel
theorem d_AW_meet_55 : decode c_AW_meet 55 = .ok (.dup, 1) := by decide +kernel
theorem d_AW_meet_56 : decode c_AW_meet 56 = .ok (.ldc 177, 2) := by decide +kernel
theorem d_AW_meet_58 : decode c_AW_meet 58 = .ok (.invokespecial 111, 3) := by decide +kernel
theorem d_AW_meet_61 : decode c_AW_meet 61 = .ok (.athrow, 1) := by decide +kernel
theorem d_AW_meet_62 : decode c_AW_meet 62 = .ok (.aload_n 0, 1) := by decide +kernel
theorem d_AW_meet_63 : decode c_AW_meet 63 = .ok (.getfield 179, 3) := by decide +kernel
theorem d_AW_meet_66 : decode c_AW_meet 66 = .ok (.bipush 40, 2) := by decide +kernel
theorem d_AW_meet_68 : decode c_AW_meet 68 = .ok (.if_icmp .lt 13, 3) := by decide +kernel
theorem d_AW_meet_71 : decode c_AW_meet 71 = .ok (.new 66, 3) := by decide +kernel
theorem d_AW_meet_74 : decode c_AW_meet 74 = .ok (.dup, 1) := by decide +kernel
theorem d_AW_meet_75 : decode c_AW_meet 75 = .ok (.ldc 182, 2) := by decide +kernel
theorem d_AW_meet_77 : decode c_AW_meet 77 = .ok (.invokespecial 70, 3) := by decide +kernel
theorem d_AW_meet_80 : decode c_AW_meet 80 = .ok (.athrow, 1) := by decide +kernel
theorem d_AW_meet_81 : decode c_AW_meet 81 = .ok (.aload_n 0, 1) := by decide +kernel
theorem d_AW_meet_82 : decode c_AW_meet 82 = .ok (.getfield 23, 3) := by decide +kernel
theorem d_AW_meet_85 : decode c_AW_meet 85 = .ok (.aload_n 0, 1) := by decide +kernel
theorem d_AW_meet_86 : decode c_AW_meet 86 = .ok (.getfield 179, 3) := by decide +kernel
theorem d_AW_meet_89 : decode c_AW_meet 89 = .ok (.new 21, 3) := by decide +kernel
theorem d_AW_meet_92 : decode c_AW_meet 92 = .ok (.dup, 1) := by decide +kernel
theorem d_AW_meet_93 : decode c_AW_meet 93 = .ok (.iload_n 1, 1) := by decide +kernel
theorem d_AW_meet_94 : decode c_AW_meet 94 = .ok (.iload_n 2, 1) := by decide +kernel
theorem d_AW_meet_95 : decode c_AW_meet 95 = .ok (.iload_n 3, 1) := by decide +kernel
theorem d_AW_meet_96 : decode c_AW_meet 96 = .ok (.iload 4, 2) := by decide +kernel
theorem d_AW_meet_98 : decode c_AW_meet 98 = .ok (.invokespecial 184, 3) := by decide +kernel
theorem d_AW_meet_101 : decode c_AW_meet 101 = .ok (.aastore, 1) := by decide +kernel
theorem d_AW_meet_102 : decode c_AW_meet 102 = .ok (.aload_n 0, 1) := by decide +kernel
theorem d_AW_meet_103 : decode c_AW_meet 103 = .ok (.dup, 1) := by decide +kernel
theorem d_AW_meet_104 : decode c_AW_meet 104 = .ok (.getfield 179, 3) := by decide +kernel
theorem d_AW_meet_107 : decode c_AW_meet 107 = .ok (.iconst 1, 1) := by decide +kernel
theorem d_AW_meet_108 : decode c_AW_meet 108 = .ok (.iadd, 1) := by decide +kernel
theorem d_AW_meet_109 : decode c_AW_meet 109 = .ok (.putfield 179, 3) := by decide +kernel
theorem d_AW_meet_112 : decode c_AW_meet 112 = .ok (.return_, 1) := by decide +kernel
theorem d_AW_corner_0 : decode c_AW_corner 0 = .ok (.aload_n 0, 1) := by decide +kernel
theorem d_AW_corner_1 : decode c_AW_corner 1 = .ok (.iload_n 1, 1) := by decide +kernel
theorem d_AW_corner_2 : decode c_AW_corner 2 = .ok (.invokevirtual 77, 3) := by decide +kernel
theorem d_AW_corner_5 : decode c_AW_corner 5 = .ok (.pop, 1) := by decide +kernel
theorem d_AW_corner_6 : decode c_AW_corner 6 = .ok (.aload_n 0, 1) := by decide +kernel
theorem d_AW_corner_7 : decode c_AW_corner 7 = .ok (.iload_n 2, 1) := by decide +kernel
theorem d_AW_corner_8 : decode c_AW_corner 8 = .ok (.invokevirtual 77, 3) := by decide +kernel
theorem d_AW_corner_11 : decode c_AW_corner 11 = .ok (.pop, 1) := by decide +kernel
theorem d_AW_corner_12 : decode c_AW_corner 12 = .ok (.aload_n 0, 1) := by decide +kernel
theorem d_AW_corner_13 : decode c_AW_corner 13 = .ok (.iload_n 1, 1) := by decide +kernel
theorem d_AW_corner_14 : decode c_AW_corner 14 = .ok (.iload_n 2, 1) := by decide +kernel
theorem d_AW_corner_15 : decode c_AW_corner 15 = .ok (.invokevirtual 173, 3) := by decide +kernel
theorem d_AW_corner_18 : decode c_AW_corner 18 = .ok (.ireturn, 1) := by decide +kernel
theorem d_AW_post_0 : decode c_AW_post 0 = .ok (.aload_n 0, 1) := by decide +kernel
theorem d_AW_post_1 : decode c_AW_post 1 = .ok (.iload_n 1, 1) := by decide +kernel
theorem d_AW_post_2 : decode c_AW_post 2 = .ok (.invokevirtual 77, 3) := by decide +kernel
theorem d_AW_post_5 : decode c_AW_post 5 = .ok (.astore_n 3, 1) := by decide +kernel
theorem d_AW_post_6 : decode c_AW_post 6 = .ok (.aload_n 3, 1) := by decide +kernel
theorem d_AW_post_7 : decode c_AW_post 7 = .ok (.iload_n 2, 1) := by decide +kernel
theorem d_AW_post_8 : decode c_AW_post 8 = .ok (.invokestatic 167, 3) := by decide +kernel
theorem d_AW_post_11 : decode c_AW_post 11 = .ok (.aload_n 3, 1) := by decide +kernel
theorem d_AW_post_12 : decode c_AW_post 12 = .ok (.aload_n 3, 1) := by decide +kernel
theorem d_AW_post_13 : decode c_AW_post 13 = .ok (.getfield 186, 3) := by decide +kernel
theorem d_AW_post_16 : decode c_AW_post 16 = .ok (.aload_n 3, 1) := by decide +kernel
theorem d_AW_post_17 : decode c_AW_post 17 = .ok (.getfield 189, 3) := by decide +kernel
theorem d_AW_post_20 : decode c_AW_post 20 = .ok (.iload_n 2, 1) := by decide +kernel
theorem d_AW_post_21 : decode c_AW_post 21 = .ok (.invokevirtual 192, 3) := by decide +kernel
theorem d_AW_post_24 : decode c_AW_post 24 = .ok (.istore 4, 2) := by decide +kernel
theorem d_AW_post_26 : decode c_AW_post 26 = .ok (.aload_n 3, 1) := by decide +kernel
theorem d_AW_post_27 : decode c_AW_post 27 = .ok (.aload_n 3, 1) := by decide +kernel
theorem d_AW_post_28 : decode c_AW_post 28 = .ok (.getfield 196, 3) := by decide +kernel
theorem d_AW_post_31 : decode c_AW_post 31 = .ok (.aload_n 3, 1) := by decide +kernel
theorem d_AW_post_32 : decode c_AW_post 32 = .ok (.getfield 199, 3) := by decide +kernel
theorem d_AW_post_35 : decode c_AW_post 35 = .ok (.iload_n 2, 1) := by decide +kernel
theorem d_AW_post_36 : decode c_AW_post 36 = .ok (.invokevirtual 192, 3) := by decide +kernel
theorem d_AW_post_39 : decode c_AW_post 39 = .ok (.istore 5, 2) := by decide +kernel
theorem d_AW_post_41 : decode c_AW_post 41 = .ok (.sipush 20000, 3) := by decide +kernel
theorem d_AW_post_44 : decode c_AW_post 44 = .ok (.iload 4, 2) := by decide +kernel
theorem d_AW_post_46 : decode c_AW_post 46 = .ok (.sipush 10000, 3) := by decide +kernel
theorem d_AW_post_49 : decode c_AW_post 49 = .ok (.iadd, 1) := by decide +kernel
theorem d_AW_post_50 : decode c_AW_post 50 = .ok (.imul, 1) := by decide +kernel
theorem d_AW_post_51 : decode c_AW_post 51 = .ok (.iload 5, 2) := by decide +kernel
theorem d_AW_post_53 : decode c_AW_post 53 = .ok (.iadd, 1) := by decide +kernel
theorem d_AW_post_54 : decode c_AW_post 54 = .ok (.sipush 10000, 3) := by decide +kernel
theorem d_AW_post_57 : decode c_AW_post 57 = .ok (.iadd, 1) := by decide +kernel
theorem d_AW_post_58 : decode c_AW_post 58 = .ok (.ireturn, 1) := by decide +kernel
theorem d_AW_near_0 : decode c_AW_near 0 = .ok (.iload_n 1, 1) := by decide +kernel
theorem d_AW_near_1 : decode c_AW_near 1 = .ok (.iload_n 2, 1) := by decide +kernel
theorem d_AW_near_2 : decode c_AW_near 2 = .ok (.invokestatic 134, 3) := by decide +kernel
theorem d_AW_near_5 : decode c_AW_near 5 = .ok (.iconst (-1), 1) := by decide +kernel
theorem d_AW_near_6 : decode c_AW_near 6 = .ok (.istore_n 3, 1) := by decide +kernel
theorem d_AW_near_7 : decode c_AW_near 7 = .ok (.iconst 0, 1) := by decide +kernel
theorem d_AW_near_8 : decode c_AW_near 8 = .ok (.istore 4, 2) := by decide +kernel
theorem d_AW_near_10 : decode c_AW_near 10 = .ok (.iconst 0, 1) := by decide +kernel
theorem d_AW_near_11 : decode c_AW_near 11 = .ok (.istore 5, 2) := by decide +kernel
theorem d_AW_near_13 : decode c_AW_near 13 = .ok (.iload 5, 2) := by decide +kernel
theorem d_AW_near_15 : decode c_AW_near 15 = .ok (.aload_n 0, 1) := by decide +kernel
theorem d_AW_near_16 : decode c_AW_near 16 = .ok (.getfield 62, 3) := by decide +kernel
theorem d_AW_near_19 : decode c_AW_near 19 = .ok (.if_icmp .ge 55, 3) := by decide +kernel
theorem d_AW_near_22 : decode c_AW_near 22 = .ok (.iload_n 1, 1) := by decide +kernel
theorem d_AW_near_23 : decode c_AW_near 23 = .ok (.iload_n 2, 1) := by decide +kernel
theorem d_AW_near_24 : decode c_AW_near 24 = .ok (.aload_n 0, 1) := by decide +kernel
theorem d_AW_near_25 : decode c_AW_near 25 = .ok (.getfield 11, 3) := by decide +kernel
theorem d_AW_near_28 : decode c_AW_near 28 = .ok (.iload 5, 2) := by decide +kernel
theorem d_AW_near_30 : decode c_AW_near 30 = .ok (.aaload, 1) := by decide +kernel
