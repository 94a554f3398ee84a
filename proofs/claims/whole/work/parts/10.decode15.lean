theorem d_Mo_isSame_0 : decode c_Mo_isSame 0 = .ok (.aload_n 0, 1) := by decide +kernel
theorem d_Mo_isSame_1 : decode c_Mo_isSame 1 = .ok (.getfield 20, 3) := by decide +kernel
theorem d_Mo_isSame_4 : decode c_Mo_isSame 4 = .ok (.iload_n 1, 1) := by decide +kernel
theorem d_Mo_isSame_5 : decode c_Mo_isSame 5 = .ok (.iaload, 1) := by decide +kernel
theorem d_Mo_isSame_6 : decode c_Mo_isSame 6 = .ok (.aload_n 0, 1) := by decide +kernel
theorem d_Mo_isSame_7 : decode c_Mo_isSame 7 = .ok (.getfield 20, 3) := by decide +kernel
theorem d_Mo_isSame_10 : decode c_Mo_isSame 10 = .ok (.iload_n 2, 1) := by decide +kernel
theorem d_Mo_isSame_11 : decode c_Mo_isSame 11 = .ok (.iaload, 1) := by decide +kernel
theorem d_Mo_isSame_12 : decode c_Mo_isSame 12 = .ok (.if_icmp .ne 16, 3) := by decide +kernel
theorem d_Mo_isSame_15 : decode c_Mo_isSame 15 = .ok (.aload_n 0, 1) := by decide +kernel
theorem d_Mo_isSame_16 : decode c_Mo_isSame 16 = .ok (.getfield 20, 3) := by decide +kernel
theorem d_Mo_isSame_19 : decode c_Mo_isSame 19 = .ok (.iload_n 1, 1) := by decide +kernel
theorem d_Mo_isSame_20 : decode c_Mo_isSame 20 = .ok (.iaload, 1) := by decide +kernel
theorem d_Mo_isSame_21 : decode c_Mo_isSame 21 = .ok (.ifCond .le 7, 3) := by decide +kernel
theorem d_Mo_isSame_24 : decode c_Mo_isSame 24 = .ok (.iconst 1, 1) := by decide +kernel
theorem d_Mo_isSame_25 : decode c_Mo_isSame 25 = .ok (.goto 4, 3) := by decide +kernel
theorem d_Mo_isSame_28 : decode c_Mo_isSame 28 = .ok (.iconst 0, 1) := by decide +kernel
theorem d_Mo_isSame_29 : decode c_Mo_isSame 29 = .ok (.istore_n 3, 1) := by decide +kernel
theorem d_Mo_isSame_30 : decode c_Mo_isSame 30 = .ok (.iconst 0, 1) := by decide +kernel
theorem d_Mo_isSame_31 : decode c_Mo_isSame 31 = .ok (.istore 4, 2) := by decide +kernel
theorem d_Mo_isSame_33 : decode c_Mo_isSame 33 = .ok (.iload 4, 2) := by decide +kernel
theorem d_Mo_isSame_35 : decode c_Mo_isSame 35 = .ok (.aload_n 0, 1) := by decide +kernel
theorem d_Mo_isSame_36 : decode c_Mo_isSame 36 = .ok (.getfield 20, 3) := by decide +kernel
theorem d_Mo_isSame_39 : decode c_Mo_isSame 39 = .ok (.iload_n 1, 1) := by decide +kernel
theorem d_Mo_isSame_40 : decode c_Mo_isSame 40 = .ok (.iaload, 1) := by decide +kernel
theorem d_Mo_isSame_41 : decode c_Mo_isSame 41 = .ok (.if_icmp .ge 46, 3) := by decide +kernel
theorem d_Mo_isSame_44 : decode c_Mo_isSame 44 = .ok (.iload_n 3, 1) := by decide +kernel
theorem d_Mo_isSame_45 : decode c_Mo_isSame 45 = .ok (.ifCond .eq 42, 3) := by decide +kernel
theorem d_Mo_isSame_48 : decode c_Mo_isSame 48 = .ok (.aload_n 0, 1) := by decide +kernel
theorem d_Mo_isSame_49 : decode c_Mo_isSame 49 = .ok (.getfield 23, 3) := by decide +kernel
theorem d_Mo_isSame_52 : decode c_Mo_isSame 52 = .ok (.iload_n 1, 1) := by decide +kernel
theorem d_Mo_isSame_53 : decode c_Mo_isSame 53 = .ok (.bipush 16, 2) := by decide +kernel
theorem d_Mo_isSame_55 : decode c_Mo_isSame 55 = .ok (.imul, 1) := by decide +kernel
theorem d_Mo_isSame_56 : decode c_Mo_isSame 56 = .ok (.iload 4, 2) := by decide +kernel
theorem d_Mo_isSame_58 : decode c_Mo_isSame 58 = .ok (.iadd, 1) := by decide +kernel
theorem d_Mo_isSame_59 : decode c_Mo_isSame 59 = .ok (.iaload, 1) := by decide +kernel
theorem d_Mo_isSame_60 : decode c_Mo_isSame 60 = .ok (.aload_n 0, 1) := by decide +kernel
theorem d_Mo_isSame_61 : decode c_Mo_isSame 61 = .ok (.getfield 23, 3) := by decide +kernel
theorem d_Mo_isSame_64 : decode c_Mo_isSame 64 = .ok (.iload_n 2, 1) := by decide +kernel
theorem d_Mo_isSame_65 : decode c_Mo_isSame 65 = .ok (.bipush 16, 2) := by decide +kernel
theorem d_Mo_isSame_67 : decode c_Mo_isSame 67 = .ok (.imul, 1) := by decide +kernel
theorem d_Mo_isSame_68 : decode c_Mo_isSame 68 = .ok (.iload 4, 2) := by decide +kernel
theorem d_Mo_isSame_70 : decode c_Mo_isSame 70 = .ok (.iadd, 1) := by decide +kernel
theorem d_Mo_isSame_71 : decode c_Mo_isSame 71 = .ok (.iaload, 1) := by decide +kernel
theorem d_Mo_isSame_72 : decode c_Mo_isSame 72 = .ok (.if_icmp .ne 7, 3) := by decide +kernel
theorem d_Mo_isSame_75 : decode c_Mo_isSame 75 = .ok (.iconst 1, 1) := by decide +kernel
theorem d_Mo_isSame_76 : decode c_Mo_isSame 76 = .ok (.goto 4, 3) := by decide +kernel
theorem d_Mo_isSame_79 : decode c_Mo_isSame 79 = .ok (.iconst 0, 1) := by decide +kernel
theorem d_Mo_isSame_80 : decode c_Mo_isSame 80 = .ok (.istore_n 3, 1) := by decide +kernel
theorem d_Mo_isSame_81 : decode c_Mo_isSame 81 = .ok (.iinc 4 1, 3) := by decide +kernel
theorem d_Mo_isSame_84 : decode c_Mo_isSame 84 = .ok (.goto (-51), 3) := by decide +kernel
theorem d_Mo_isSame_87 : decode c_Mo_isSame 87 = .ok (.iload_n 3, 1) := by decide +kernel
theorem d_Mo_isSame_88 : decode c_Mo_isSame 88 = .ok (.ireturn, 1) := by decide +kernel
theorem d_Mo_share_0 : decode c_Mo_share 0 = .ok (.iconst 0, 1) := by decide +kernel
theorem d_Mo_share_1 : decode c_Mo_share 1 = .ok (.istore_n 3, 1) := by decide +kernel
theorem d_Mo_share_2 : decode c_Mo_share 2 = .ok (.iload_n 3, 1) := by decide +kernel
theorem d_Mo_share_3 : decode c_Mo_share 3 = .ok (.aload_n 0, 1) := by decide +kernel
theorem d_Mo_share_4 : decode c_Mo_share 4 = .ok (.getfield 17, 3) := by decide +kernel
theorem d_Mo_share_7 : decode c_Mo_share 7 = .ok (.iload_n 1, 1) := by decide +kernel
theorem d_Mo_share_8 : decode c_Mo_share 8 = .ok (.iaload, 1) := by decide +kernel
theorem d_Mo_share_9 : decode c_Mo_share 9 = .ok (.if_icmp .ge 49, 3) := by decide +kernel
theorem d_Mo_share_12 : decode c_Mo_share 12 = .ok (.iconst 0, 1) := by decide +kernel
theorem d_Mo_share_13 : decode c_Mo_share 13 = .ok (.istore 4, 2) := by decide +kernel
theorem d_Mo_share_15 : decode c_Mo_share 15 = .ok (.iload 4, 2) := by decide +kernel
theorem d_Mo_share_17 : decode c_Mo_share 17 = .ok (.aload_n 0, 1) := by decide +kernel
theorem d_Mo_share_18 : decode c_Mo_share 18 = .ok (.getfield 17, 3) := by decide +kernel
theorem d_Mo_share_21 : decode c_Mo_share 21 = .ok (.iload_n 2, 1) := by decide +kernel
theorem d_Mo_share_22 : decode c_Mo_share 22 = .ok (.iaload, 1) := by decide +kernel
theorem d_Mo_share_23 : decode c_Mo_share 23 = .ok (.if_icmp .ge 29, 3) := by decide +kernel
theorem d_Mo_share_26 : decode c_Mo_share 26 = .ok (.aload_n 0, 1) := by decide +kernel
theorem d_Mo_share_27 : decode c_Mo_share 27 = .ok (.iload_n 1, 1) := by decide +kernel
theorem d_Mo_share_28 : decode c_Mo_share 28 = .ok (.iconst 3, 1) := by decide +kernel
theorem d_Mo_share_29 : decode c_Mo_share 29 = .ok (.imul, 1) := by decide +kernel
theorem d_Mo_share_30 : decode c_Mo_share 30 = .ok (.iload_n 3, 1) := by decide +kernel
theorem d_Mo_share_31 : decode c_Mo_share 31 = .ok (.iadd, 1) := by decide +kernel
theorem d_Mo_share_32 : decode c_Mo_share 32 = .ok (.iload_n 2, 1) := by decide +kernel
theorem d_Mo_share_33 : decode c_Mo_share 33 = .ok (.iconst 3, 1) := by decide +kernel
theorem d_Mo_share_34 : decode c_Mo_share 34 = .ok (.imul, 1) := by decide +kernel
theorem d_Mo_share_35 : decode c_Mo_share 35 = .ok (.iload 4, 2) := by decide +kernel
theorem d_Mo_share_37 : decode c_Mo_share 37 = .ok (.iadd, 1) := by decide +kernel
theorem d_Mo_share_38 : decode c_Mo_share 38 = .ok (.invokevirtual 193, 3) := by decide +kernel
theorem d_Mo_share_41 : decode c_Mo_share 41 = .ok (.ifCond .eq 5, 3) := by decide +kernel
theorem d_Mo_share_44 : decode c_Mo_share 44 = .ok (.iconst 1, 1) := by decide +kernel
theorem d_Mo_share_45 : decode c_Mo_share 45 = .ok (.ireturn, 1) := by decide +kernel
theorem d_Mo_share_46 : decode c_Mo_share 46 = .ok (.iinc 4 1, 3) := by decide +kernel
theorem d_Mo_share_49 : decode c_Mo_share 49 = .ok (.goto (-34), 3) := by decide +kernel
theorem d_Mo_share_52 : decode c_Mo_share 52 = .ok (.iinc 3 1, 3) := by decide +kernel
theorem d_Mo_share_55 : decode c_Mo_share 55 = .ok (.goto (-53), 3) := by decide +kernel
theorem d_Mo_share_58 : decode c_Mo_share 58 = .ok (.iconst 0, 1) := by decide +kernel
theorem d_Mo_share_59 : decode c_Mo_share 59 = .ok (.ireturn, 1) := by decide +kernel
theorem d_Mo_twice_0 : decode c_Mo_twice 0 = .ok (.aload_n 0, 1) := by decide +kernel
theorem d_Mo_twice_1 : decode c_Mo_twice 1 = .ok (.iconst 0, 1) := by decide +kernel
theorem d_Mo_twice_2 : decode c_Mo_twice 2 = .ok (.putfield 95, 3) := by decide +kernel
theorem d_Mo_twice_5 : decode c_Mo_twice 5 = .ok (.iconst 0, 1) := by decide +kernel
theorem d_Mo_twice_6 : decode c_Mo_twice 6 = .ok (.istore_n 1, 1) := by decide +kernel
theorem d_Mo_twice_7 : decode c_Mo_twice 7 = .ok (.iconst 0, 1) := by decide +kernel
theorem d_Mo_twice_8 : decode c_Mo_twice 8 = .ok (.istore_n 2, 1) := by decide +kernel
theorem d_Mo_twice_9 : decode c_Mo_twice 9 = .ok (.iload_n 2, 1) := by decide +kernel
theorem d_Mo_twice_10 : decode c_Mo_twice 10 = .ok (.aload_n 0, 1) := by decide +kernel
theorem d_Mo_twice_11 : decode c_Mo_twice 11 = .ok (.getfield 99, 3) := by decide +kernel
theorem d_Mo_twice_14 : decode c_Mo_twice 14 = .ok (.if_icmp .ge 78, 3) := by decide +kernel
theorem d_Mo_twice_17 : decode c_Mo_twice 17 = .ok (.iconst 0, 1) := by decide +kernel
theorem d_Mo_twice_18 : decode c_Mo_twice 18 = .ok (.istore_n 3, 1) := by decide +kernel
theorem d_Mo_twice_19 : decode c_Mo_twice 19 = .ok (.iconst 0, 1) := by decide +kernel
theorem d_Mo_twice_20 : decode c_Mo_twice 20 = .ok (.istore 4, 2) := by decide +kernel
theorem d_Mo_twice_22 : decode c_Mo_twice 22 = .ok (.iload 4, 2) := by decide +kernel
theorem d_Mo_twice_24 : decode c_Mo_twice 24 = .ok (.aload_n 0, 1) := by decide +kernel
theorem d_Mo_twice_25 : decode c_Mo_twice 25 = .ok (.getfield 99, 3) := by decide +kernel
theorem d_Mo_twice_28 : decode c_Mo_twice 28 = .ok (.if_icmp .ge 51, 3) := by decide +kernel
theorem d_Mo_twice_31 : decode c_Mo_twice 31 = .ok (.iload_n 3, 1) := by decide +kernel
theorem d_Mo_twice_32 : decode c_Mo_twice 32 = .ok (.ifCond .ne 35, 3) := by decide +kernel
theorem d_Mo_twice_35 : decode c_Mo_twice 35 = .ok (.iload 4, 2) := by decide +kernel
theorem d_Mo_twice_37 : decode c_Mo_twice 37 = .ok (.iload_n 2, 1) := by decide +kernel
theorem d_Mo_twice_38 : decode c_Mo_twice 38 = .ok (.if_icmp .eq 33, 3) := by decide +kernel
theorem d_Mo_twice_41 : decode c_Mo_twice 41 = .ok (.aload_n 0, 1) := by decide +kernel
theorem d_Mo_twice_42 : decode c_Mo_twice 42 = .ok (.getfield 7, 3) := by decide +kernel
theorem d_Mo_twice_45 : decode c_Mo_twice 45 = .ok (.iload 4, 2) := by decide +kernel
theorem d_Mo_twice_47 : decode c_Mo_twice 47 = .ok (.iaload, 1) := by decide +kernel
theorem d_Mo_twice_48 : decode c_Mo_twice 48 = .ok (.aload_n 0, 1) := by decide +kernel
theorem d_Mo_twice_49 : decode c_Mo_twice 49 = .ok (.getfield 7, 3) := by decide +kernel
theorem d_Mo_twice_52 : decode c_Mo_twice 52 = .ok (.iload_n 2, 1) := by decide +kernel
theorem d_Mo_twice_53 : decode c_Mo_twice 53 = .ok (.iaload, 1) := by decide +kernel
theorem d_Mo_twice_54 : decode c_Mo_twice 54 = .ok (.if_icmp .ne 17, 3) := by decide +kernel
theorem d_Mo_twice_57 : decode c_Mo_twice 57 = .ok (.aload_n 0, 1) := by decide +kernel
theorem d_Mo_twice_58 : decode c_Mo_twice 58 = .ok (.iload_n 2, 1) := by decide +kernel
theorem d_Mo_twice_59 : decode c_Mo_twice 59 = .ok (.iload 4, 2) := by decide +kernel
theorem d_Mo_twice_61 : decode c_Mo_twice 61 = .ok (.invokevirtual 196, 3) := by decide +kernel
theorem d_Mo_twice_64 : decode c_Mo_twice 64 = .ok (.ifCond .eq 7, 3) := by decide +kernel
theorem d_Mo_twice_67 : decode c_Mo_twice 67 = .ok (.iconst 1, 1) := by decide +kernel
theorem d_Mo_twice_68 : decode c_Mo_twice 68 = .ok (.goto 4, 3) := by decide +kernel
theorem d_Mo_twice_71 : decode c_Mo_twice 71 = .ok (.iconst 0, 1) := by decide +kernel
theorem d_Mo_twice_72 : decode c_Mo_twice 72 = .ok (.istore_n 3, 1) := by decide +kernel
theorem d_Mo_twice_73 : decode c_Mo_twice 73 = .ok (.iinc 4 1, 3) := by decide +kernel
theorem d_Mo_twice_76 : decode c_Mo_twice 76 = .ok (.goto (-54), 3) := by decide +kernel
theorem d_Mo_twice_79 : decode c_Mo_twice 79 = .ok (.iload_n 3, 1) := by decide +kernel
theorem d_Mo_twice_80 : decode c_Mo_twice 80 = .ok (.ifCond .eq 6, 3) := by decide +kernel
theorem d_Mo_twice_83 : decode c_Mo_twice 83 = .ok (.iinc 1 1, 3) := by decide +kernel
theorem d_Mo_twice_86 : decode c_Mo_twice 86 = .ok (.iinc 2 1, 3) := by decide +kernel
theorem d_Mo_twice_89 : decode c_Mo_twice 89 = .ok (.goto (-80), 3) := by decide +kernel
theorem d_Mo_twice_92 : decode c_Mo_twice 92 = .ok (.iload_n 1, 1) := by decide +kernel
theorem d_Mo_twice_93 : decode c_Mo_twice 93 = .ok (.ireturn, 1) := by decide +kernel
theorem d_Co_init_0 : decode c_Co_init 0 = .ok (.aload_n 0, 1) := by decide +kernel
theorem d_Co_init_1 : decode c_Co_init 1 = .ok (.invokespecial 1, 3) := by decide +kernel
theorem d_Co_init_4 : decode c_Co_init 4 = .ok (.aload_n 0, 1) := by decide +kernel
theorem d_Co_init_5 : decode c_Co_init 5 = .ok (.iload_n 1, 1) := by decide +kernel
theorem d_Co_init_6 : decode c_Co_init 6 = .ok (.putfield 7, 3) := by decide +kernel
theorem d_Co_init_9 : decode c_Co_init 9 = .ok (.aload_n 0, 1) := by decide +kernel
theorem d_Co_init_10 : decode c_Co_init 10 = .ok (.iload_n 2, 1) := by decide +kernel
theorem d_Co_init_11 : decode c_Co_init 11 = .ok (.putfield 13, 3) := by decide +kernel
theorem d_Co_init_14 : decode c_Co_init 14 = .ok (.aload_n 0, 1) := by decide +kernel
theorem d_Co_init_15 : decode c_Co_init 15 = .ok (.iload_n 3, 1) := by decide +kernel
theorem d_Co_init_16 : decode c_Co_init 16 = .ok (.putfield 16, 3) := by decide +kernel
theorem d_Co_init_19 : decode c_Co_init 19 = .ok (.aload_n 0, 1) := by decide +kernel
theorem d_Co_init_20 : decode c_Co_init 20 = .ok (.iload 4, 2) := by decide +kernel
theorem d_Co_init_22 : decode c_Co_init 22 = .ok (.putfield 19, 3) := by decide +kernel
theorem d_Co_init_25 : decode c_Co_init 25 = .ok (.return_, 1) := by decide +kernel
theorem d_Ed_init_0 : decode c_Ed_init 0 = .ok (.aload_n 0, 1) := by decide +kernel
theorem d_Ed_init_1 : decode c_Ed_init 1 = .ok (.invokespecial 3, 3) := by decide +kernel
theorem d_Ed_init_4 : decode c_Ed_init 4 = .ok (.aload_n 0, 1) := by decide +kernel
theorem d_Ed_init_5 : decode c_Ed_init 5 = .ok (.bipush 17, 2) := by decide +kernel
theorem d_Ed_init_7 : decode c_Ed_init 7 = .ok (.newarray .int, 2) := by decide +kernel
theorem d_Ed_init_9 : decode c_Ed_init 9 = .ok (.putfield 9, 3) := by decide +kernel
theorem d_Ed_init_12 : decode c_Ed_init 12 = .ok (.aload_n 0, 1) := by decide +kernel
theorem d_Ed_init_13 : decode c_Ed_init 13 = .ok (.bipush 17, 2) := by decide +kernel
theorem d_Ed_init_15 : decode c_Ed_init 15 = .ok (.newarray .int, 2) := by decide +kernel
theorem d_Ed_init_17 : decode c_Ed_init 17 = .ok (.putfield 15, 3) := by decide +kernel
theorem d_Ed_init_20 : decode c_Ed_init 20 = .ok (.aload_n 0, 1) := by decide +kernel
theorem d_Ed_init_21 : decode c_Ed_init 21 = .ok (.bipush 17, 2) := by decide +kernel
theorem d_Ed_init_23 : decode c_Ed_init 23 = .ok (.newarray .int, 2) := by decide +kernel
theorem d_Ed_init_25 : decode c_Ed_init 25 = .ok (.putfield 18, 3) := by decide +kernel
theorem d_Ed_init_28 : decode c_Ed_init 28 = .ok (.return_, 1) := by decide +kernel
theorem d_Ed_count_0 : decode c_Ed_count 0 = .ok (.iconst 0, 1) := by decide +kernel
theorem d_Ed_count_1 : decode c_Ed_count 1 = .ok (.istore 5, 2) := by decide +kernel
theorem d_Ed_count_3 : decode c_Ed_count 3 = .ok (.iload 5, 2) := by decide +kernel
theorem d_Ed_count_5 : decode c_Ed_count 5 = .ok (.aload 4, 2) := by decide +kernel
theorem d_Ed_count_7 : decode c_Ed_count 7 = .ok (.getfield 21, 3) := by decide +kernel
theorem d_Ed_count_10 : decode c_Ed_count 10 = .ok (.if_icmp .gt 18, 3) := by decide +kernel
theorem d_Ed_count_13 : decode c_Ed_count 13 = .ok (.aload_n 0, 1) := by decide +kernel
theorem d_Ed_count_14 : decode c_Ed_count 14 = .ok (.getfield 18, 3) := by decide +kernel
theorem d_Ed_count_17 : decode c_Ed_count 17 = .ok (.iload 5, 2) := by decide +kernel
theorem d_Ed_count_19 : decode c_Ed_count 19 = .ok (.iload 5, 2) := by decide +kernel
theorem d_Ed_count_21 : decode c_Ed_count 21 = .ok (.iastore, 1) := by decide +kernel
theorem d_Ed_count_22 : decode c_Ed_count 22 = .ok (.iinc 5 1, 3) := by decide +kernel
theorem d_Ed_count_25 : decode c_Ed_count 25 = .ok (.goto (-22), 3) := by decide +kernel
theorem d_Ed_count_28 : decode c_Ed_count 28 = .ok (.iconst 0, 1) := by decide +kernel
theorem d_Ed_count_29 : decode c_Ed_count 29 = .ok (.istore 5, 2) := by decide +kernel
theorem d_Ed_count_31 : decode c_Ed_count 31 = .ok (.iload 5, 2) := by decide +kernel
theorem d_Ed_count_33 : decode c_Ed_count 33 = .ok (.iload_n 3, 1) := by decide +kernel
theorem d_Ed_count_34 : decode c_Ed_count 34 = .ok (.if_icmp .ge 51, 3) := by decide +kernel
theorem d_Ed_count_37 : decode c_Ed_count 37 = .ok (.aload_n 0, 1) := by decide +kernel
theorem d_Ed_count_38 : decode c_Ed_count 38 = .ok (.invokevirtual 27, 3) := by decide +kernel
theorem d_Ed_count_41 : decode c_Ed_count 41 = .ok (.iload 5, 2) := by decide +kernel
theorem d_Ed_count_43 : decode c_Ed_count 43 = .ok (.ifCond .le 14, 3) := by decide +kernel
theorem d_Ed_count_46 : decode c_Ed_count 46 = .ok (.aload_n 1, 1) := by decide +kernel
theorem d_Ed_count_47 : decode c_Ed_count 47 = .ok (.iload_n 2, 1) := by decide +kernel
theorem d_Ed_count_48 : decode c_Ed_count 48 = .ok (.iload 5, 2) := by decide +kernel
theorem d_Ed_count_50 : decode c_Ed_count 50 = .ok (.iadd, 1) := by decide +kernel
theorem d_Ed_count_51 : decode c_Ed_count 51 = .ok (.iconst 1, 1) := by decide +kernel
theorem d_Ed_count_52 : decode c_Ed_count 52 = .ok (.isub, 1) := by decide +kernel
theorem d_Ed_count_53 : decode c_Ed_count 53 = .ok (.caload, 1) := by decide +kernel
theorem d_Ed_count_54 : decode c_Ed_count 54 = .ok (.goto 5, 3) := by decide +kernel
theorem d_Ed_count_57 : decode c_Ed_count 57 = .ok (.bipush 32, 2) := by decide +kernel
theorem d_Ed_count_59 : decode c_Ed_count 59 = .ok (.istore 6, 2) := by decide +kernel
theorem d_Ed_count_61 : decode c_Ed_count 61 = .ok (.aload_n 0, 1) := by decide +kernel
theorem d_Ed_count_62 : decode c_Ed_count 62 = .ok (.iload 5, 2) := by decide +kernel
theorem d_Ed_count_64 : decode c_Ed_count 64 = .ok (.iconst 1, 1) := by decide +kernel
theorem d_Ed_count_65 : decode c_Ed_count 65 = .ok (.iadd, 1) := by decide +kernel
theorem d_Ed_count_66 : decode c_Ed_count 66 = .ok (.aload_n 1, 1) := by decide +kernel
theorem d_Ed_count_67 : decode c_Ed_count 67 = .ok (.iload_n 2, 1) := by decide +kernel
theorem d_Ed_count_68 : decode c_Ed_count 68 = .ok (.iload 5, 2) := by decide +kernel
theorem d_Ed_count_70 : decode c_Ed_count 70 = .ok (.iadd, 1) := by decide +kernel
theorem d_Ed_count_71 : decode c_Ed_count 71 = .ok (.caload, 1) := by decide +kernel
theorem d_Ed_count_72 : decode c_Ed_count 72 = .ok (.iload 6, 2) := by decide +kernel
theorem d_Ed_count_74 : decode c_Ed_count 74 = .ok (.aload 4, 2) := by decide +kernel
theorem d_Ed_count_76 : decode c_Ed_count 76 = .ok (.invokevirtual 30, 3) := by decide +kernel
theorem d_Ed_count_79 : decode c_Ed_count 79 = .ok (.iinc 5 1, 3) := by decide +kernel
theorem d_Ed_count_82 : decode c_Ed_count 82 = .ok (.goto (-51), 3) := by decide +kernel
theorem d_Ed_count_85 : decode c_Ed_count 85 = .ok (.aload_n 0, 1) := by decide +kernel
theorem d_Ed_count_86 : decode c_Ed_count 86 = .ok (.getfield 18, 3) := by decide +kernel
theorem d_Ed_count_89 : decode c_Ed_count 89 = .ok (.aload 4, 2) := by decide +kernel
theorem d_Ed_count_91 : decode c_Ed_count 91 = .ok (.getfield 21, 3) := by decide +kernel
theorem d_Ed_count_94 : decode c_Ed_count 94 = .ok (.iaload, 1) := by decide +kernel
theorem d_Ed_count_95 : decode c_Ed_count 95 = .ok (.ireturn, 1) := by decide +kernel
theorem d_Ed_turnRows_0 : decode c_Ed_turnRows 0 = .ok (.aload_n 0, 1) := by decide +kernel
theorem d_Ed_turnRows_1 : decode c_Ed_turnRows 1 = .ok (.getfield 9, 3) := by decide +kernel
theorem d_Ed_turnRows_4 : decode c_Ed_turnRows 4 = .ok (.astore_n 1, 1) := by decide +kernel
theorem d_Ed_turnRows_5 : decode c_Ed_turnRows 5 = .ok (.aload_n 0, 1) := by decide +kernel
theorem d_Ed_turnRows_6 : decode c_Ed_turnRows 6 = .ok (.aload_n 0, 1) := by decide +kernel
theorem d_Ed_turnRows_7 : decode c_Ed_turnRows 7 = .ok (.getfield 15, 3) := by decide +kernel
theorem d_Ed_turnRows_10 : decode c_Ed_turnRows 10 = .ok (.putfield 9, 3) := by decide +kernel
theorem d_Ed_turnRows_13 : decode c_Ed_turnRows 13 = .ok (.aload_n 0, 1) := by decide +kernel
theorem d_Ed_turnRows_14 : decode c_Ed_turnRows 14 = .ok (.aload_n 0, 1) := by decide +kernel
theorem d_Ed_turnRows_15 : decode c_Ed_turnRows 15 = .ok (.getfield 18, 3) := by decide +kernel
theorem d_Ed_turnRows_18 : decode c_Ed_turnRows 18 = .ok (.putfield 15, 3) := by decide +kernel
theorem d_Ed_turnRows_21 : decode c_Ed_turnRows 21 = .ok (.aload_n 0, 1) := by decide +kernel
theorem d_Ed_turnRows_22 : decode c_Ed_turnRows 22 = .ok (.aload_n 1, 1) := by decide +kernel
theorem d_Ed_turnRows_23 : decode c_Ed_turnRows 23 = .ok (.putfield 18, 3) := by decide +kernel
theorem d_Ed_turnRows_26 : decode c_Ed_turnRows 26 = .ok (.return_, 1) := by decide +kernel
theorem d_Ed_fillRow_0 : decode c_Ed_fillRow 0 = .ok (.aload 4, 2) := by decide +kernel
theorem d_Ed_fillRow_2 : decode c_Ed_fillRow 2 = .ok (.getfield 34, 3) := by decide +kernel
theorem d_Ed_fillRow_5 : decode c_Ed_fillRow 5 = .ok (.astore 5, 2) := by decide +kernel
theorem d_Ed_fillRow_7 : decode c_Ed_fillRow 7 = .ok (.aload_n 0, 1) := by decide +kernel
theorem d_Ed_fillRow_8 : decode c_Ed_fillRow 8 = .ok (.getfield 18, 3) := by decide +kernel
theorem d_Ed_fillRow_11 : decode c_Ed_fillRow 11 = .ok (.iconst 0, 1) := by decide +kernel
theorem d_Ed_fillRow_12 : decode c_Ed_fillRow 12 = .ok (.iload_n 1, 1) := by decide +kernel
theorem d_Ed_fillRow_13 : decode c_Ed_fillRow 13 = .ok (.iastore, 1) := by decide +kernel
theorem d_Ed_fillRow_14 : decode c_Ed_fillRow 14 = .ok (.iconst 1, 1) := by decide +kernel
theorem d_Ed_fillRow_15 : decode c_Ed_fillRow 15 = .ok (.istore 6, 2) := by decide +kernel
theorem d_Ed_fillRow_17 : decode c_Ed_fillRow 17 = .ok (.iload 6, 2) := by decide +kernel
theorem d_Ed_fillRow_19 : decode c_Ed_fillRow 19 = .ok (.aload 4, 2) := by decide +kernel
theorem d_Ed_fillRow_21 : decode c_Ed_fillRow 21 = .ok (.getfield 21, 3) := by decide +kernel
theorem d_Ed_fillRow_24 : decode c_Ed_fillRow 24 = .ok (.if_icmp .gt 124, 3) := by decide +kernel
theorem d_Ed_fillRow_27 : decode c_Ed_fillRow 27 = .ok (.aload_n 0, 1) := by decide +kernel
theorem d_Ed_fillRow_28 : decode c_Ed_fillRow 28 = .ok (.getfield 15, 3) := by decide +kernel
theorem d_Ed_fillRow_31 : decode c_Ed_fillRow 31 = .ok (.iload 6, 2) := by decide +kernel
theorem d_Ed_fillRow_33 : decode c_Ed_fillRow 33 = .ok (.iconst 1, 1) := by decide +kernel
theorem d_Ed_fillRow_34 : decode c_Ed_fillRow 34 = .ok (.isub, 1) := by decide +kernel
theorem d_Ed_fillRow_35 : decode c_Ed_fillRow 35 = .ok (.iaload, 1) := by decide +kernel
theorem d_Ed_fillRow_36 : decode c_Ed_fillRow 36 = .ok (.iload_n 2, 1) := by decide +kernel
theorem d_Ed_fillRow_37 : decode c_Ed_fillRow 37 = .ok (.aload 5, 2) := by decide +kernel
theorem d_Ed_fillRow_39 : decode c_Ed_fillRow 39 = .ok (.iload 6, 2) := by decide +kernel
theorem d_Ed_fillRow_41 : decode c_Ed_fillRow 41 = .ok (.iconst 1, 1) := by decide +kernel
theorem d_Ed_fillRow_42 : decode c_Ed_fillRow 42 = .ok (.isub, 1) := by decide +kernel
theorem d_Ed_fillRow_43 : decode c_Ed_fillRow 43 = .ok (.caload, 1) := by decide +kernel
theorem d_Ed_fillRow_44 : decode c_Ed_fillRow 44 = .ok (.if_icmp .ne 7, 3) := by decide +kernel
theorem d_Ed_fillRow_47 : decode c_Ed_fillRow 47 = .ok (.iconst 0, 1) := by decide +kernel
theorem d_Ed_fillRow_48 : decode c_Ed_fillRow 48 = .ok (.goto 4, 3) := by decide +kernel
theorem d_Ed_fillRow_51 : decode c_Ed_fillRow 51 = .ok (.iconst 1, 1) := by decide +kernel
theorem d_Ed_fillRow_52 : decode c_Ed_fillRow 52 = .ok (.iadd, 1) := by decide +kernel
theorem d_Ed_fillRow_53 : decode c_Ed_fillRow 53 = .ok (.istore 7, 2) := by decide +kernel
theorem d_Ed_fillRow_55 : decode c_Ed_fillRow 55 = .ok (.aload_n 0, 1) := by decide +kernel
theorem d_Ed_fillRow_56 : decode c_Ed_fillRow 56 = .ok (.getfield 15, 3) := by decide +kernel
theorem d_Ed_fillRow_59 : decode c_Ed_fillRow 59 = .ok (.iload 6, 2) := by decide +kernel
theorem d_Ed_fillRow_61 : decode c_Ed_fillRow 61 = .ok (.iaload, 1) := by decide +kernel
theorem d_Ed_fillRow_62 : decode c_Ed_fillRow 62 = .ok (.aload_n 0, 1) := by decide +kernel
theorem d_Ed_fillRow_63 : decode c_Ed_fillRow 63 = .ok (.getfield 18, 3) := by decide +kernel
theorem d_Ed_fillRow_66 : decode c_Ed_fillRow 66 = .ok (.iload 6, 2) := by decide +kernel
theorem d_Ed_fillRow_68 : decode c_Ed_fillRow 68 = .ok (.iconst 1, 1) := by decide +kernel
theorem d_Ed_fillRow_69 : decode c_Ed_fillRow 69 = .ok (.isub, 1) := by decide +kernel
theorem d_Ed_fillRow_70 : decode c_Ed_fillRow 70 = .ok (.iaload, 1) := by decide +kernel
theorem d_Ed_fillRow_71 : decode c_Ed_fillRow 71 = .ok (.invokestatic 38, 3) := by decide +kernel
theorem d_Ed_fillRow_74 : decode c_Ed_fillRow 74 = .ok (.iconst 1, 1) := by decide +kernel
theorem d_Ed_fillRow_75 : decode c_Ed_fillRow 75 = .ok (.iadd, 1) := by decide +kernel
theorem d_Ed_fillRow_76 : decode c_Ed_fillRow 76 = .ok (.istore 8, 2) := by decide +kernel
theorem d_Ed_fillRow_78 : decode c_Ed_fillRow 78 = .ok (.iload 7, 2) := by decide +kernel
theorem d_Ed_fillRow_80 : decode c_Ed_fillRow 80 = .ok (.iload 8, 2) := by decide +kernel
theorem d_Ed_fillRow_82 : decode c_Ed_fillRow 82 = .ok (.invokestatic 38, 3) := by decide +kernel
theorem d_Ed_fillRow_85 : decode c_Ed_fillRow 85 = .ok (.istore 9, 2) := by decide +kernel
theorem d_Ed_fillRow_87 : decode c_Ed_fillRow 87 = .ok (.iload 6, 2) := by decide +kernel
theorem d_Ed_fillRow_89 : decode c_Ed_fillRow 89 = .ok (.iconst 1, 1) := by decide +kernel
theorem d_Ed_fillRow_90 : decode c_Ed_fillRow 90 = .ok (.if_icmp .le 43, 3) := by decide +kernel
theorem d_Ed_fillRow_93 : decode c_Ed_fillRow 93 = .ok (.iload_n 2, 1) := by decide +kernel
theorem d_Ed_fillRow_94 : decode c_Ed_fillRow 94 = .ok (.aload 5, 2) := by decide +kernel
theorem d_Ed_fillRow_96 : decode c_Ed_fillRow 96 = .ok (.iload 6, 2) := by decide +kernel
theorem d_Ed_fillRow_98 : decode c_Ed_fillRow 98 = .ok (.iconst 2, 1) := by decide +kernel
theorem d_Ed_fillRow_99 : decode c_Ed_fillRow 99 = .ok (.isub, 1) := by decide +kernel
theorem d_Ed_fillRow_100 : decode c_Ed_fillRow 100 = .ok (.caload, 1) := by decide +kernel
theorem d_Ed_fillRow_101 : decode c_Ed_fillRow 101 = .ok (.if_icmp .ne 32, 3) := by decide +kernel
theorem d_Ed_fillRow_104 : decode c_Ed_fillRow 104 = .ok (.iload_n 3, 1) := by decide +kernel
theorem d_Ed_fillRow_105 : decode c_Ed_fillRow 105 = .ok (.aload 5, 2) := by decide +kernel
theorem d_Ed_fillRow_107 : decode c_Ed_fillRow 107 = .ok (.iload 6, 2) := by decide +kernel
theorem d_Ed_fillRow_109 : decode c_Ed_fillRow 109 = .ok (.iconst 1, 1) := by decide +kernel
theorem d_Ed_fillRow_110 : decode c_Ed_fillRow 110 = .ok (.isub, 1) := by decide +kernel
theorem d_Ed_fillRow_111 : decode c_Ed_fillRow 111 = .ok (.caload, 1) := by decide +kernel
theorem d_Ed_fillRow_112 : decode c_Ed_fillRow 112 = .ok (.if_icmp .ne 21, 3) := by decide +kernel
theorem d_Ed_fillRow_115 : decode c_Ed_fillRow 115 = .ok (.iload 9, 2) := by decide +kernel
theorem d_Ed_fillRow_117 : decode c_Ed_fillRow 117 = .ok (.aload_n 0, 1) := by decide +kernel
theorem d_Ed_fillRow_118 : decode c_Ed_fillRow 118 = .ok (.getfield 9, 3) := by decide +kernel
theorem d_Ed_fillRow_121 : decode c_Ed_fillRow 121 = .ok (.iload 6, 2) := by decide +kernel
theorem d_Ed_fillRow_123 : decode c_Ed_fillRow 123 = .ok (.iconst 2, 1) := by decide +kernel
theorem d_Ed_fillRow_124 : decode c_Ed_fillRow 124 = .ok (.isub, 1) := by decide +kernel
theorem d_Ed_fillRow_125 : decode c_Ed_fillRow 125 = .ok (.iaload, 1) := by decide +kernel
theorem d_Ed_fillRow_126 : decode c_Ed_fillRow 126 = .ok (.iconst 1, 1) := by decide +kernel
theorem d_Ed_fillRow_127 : decode c_Ed_fillRow 127 = .ok (.iadd, 1) := by decide +kernel
theorem d_Ed_fillRow_128 : decode c_Ed_fillRow 128 = .ok (.invokestatic 38, 3) := by decide +kernel
theorem d_Ed_fillRow_131 : decode c_Ed_fillRow 131 = .ok (.istore 9, 2) := by decide +kernel
theorem d_Ed_fillRow_133 : decode c_Ed_fillRow 133 = .ok (.aload_n 0, 1) := by decide +kernel
theorem d_Ed_fillRow_134 : decode c_Ed_fillRow 134 = .ok (.getfield 18, 3) := by decide +kernel
theorem d_Ed_fillRow_137 : decode c_Ed_fillRow 137 = .ok (.iload 6, 2) := by decide +kernel
theorem d_Ed_fillRow_139 : decode c_Ed_fillRow 139 = .ok (.iload 9, 2) := by decide +kernel
theorem d_Ed_fillRow_141 : decode c_Ed_fillRow 141 = .ok (.iastore, 1) := by decide +kernel
theorem d_Ed_fillRow_142 : decode c_Ed_fillRow 142 = .ok (.iinc 6 1, 3) := by decide +kernel
theorem d_Ed_fillRow_145 : decode c_Ed_fillRow 145 = .ok (.goto (-128), 3) := by decide +kernel
theorem d_Ed_fillRow_148 : decode c_Ed_fillRow 148 = .ok (.return_, 1) := by decide +kernel
theorem d_HR_init_0 : decode c_HR_init 0 = .ok (.aload_n 0, 1) := by decide +kernel
theorem d_HR_init_1 : decode c_HR_init 1 = .ok (.invokespecial 3, 3) := by decide +kernel
theorem d_HR_init_4 : decode c_HR_init 4 = .ok (.aload_n 0, 1) := by decide +kernel
theorem d_HR_init_5 : decode c_HR_init 5 = .ok (.iload_n 1, 1) := by decide +kernel
theorem d_HR_init_6 : decode c_HR_init 6 = .ok (.putfield 9, 3) := by decide +kernel
theorem d_HR_init_9 : decode c_HR_init 9 = .ok (.aload_n 0, 1) := by decide +kernel
theorem d_HR_init_10 : decode c_HR_init 10 = .ok (.iload_n 1, 1) := by decide +kernel
theorem d_HR_init_11 : decode c_HR_init 11 = .ok (.iload_n 2, 1) := by decide +kernel
theorem d_HR_init_12 : decode c_HR_init 12 = .ok (.invokestatic 15, 3) := by decide +kernel
theorem d_HR_init_15 : decode c_HR_init 15 = .ok (.putfield 19, 3) := by decide +kernel
theorem d_HR_init_18 : decode c_HR_init 18 = .ok (.aload_n 0, 1) := by decide +kernel
theorem d_HR_init_19 : decode c_HR_init 19 = .ok (.iload_n 1, 1) := by decide +kernel
theorem d_HR_init_20 : decode c_HR_init 20 = .ok (.iload_n 3, 1) := by decide +kernel
theorem d_HR_init_21 : decode c_HR_init 21 = .ok (.invokestatic 22, 3) := by decide +kernel
theorem d_HR_init_24 : decode c_HR_init 24 = .ok (.putfield 25, 3) := by decide +kernel
theorem d_HR_init_27 : decode c_HR_init 27 = .ok (.return_, 1) := by decide +kernel
theorem d_HR_firstFrom_0 : decode c_HR_firstFrom 0 = .ok (.iload_n 0, 1) := by decide +kernel
theorem d_HR_firstFrom_1 : decode c_HR_firstFrom 1 = .ok (.iload_n 1, 1) := by decide +kernel
theorem d_HR_firstFrom_2 : decode c_HR_firstFrom 2 = .ok (.invokestatic 28, 3) := by decide +kernel
theorem d_HR_firstFrom_5 : decode c_HR_firstFrom 5 = .ok (.ifCond .eq 7, 3) := by decide +kernel
theorem d_HR_firstFrom_8 : decode c_HR_firstFrom 8 = .ok (.iload_n 1, 1) := by decide +kernel
theorem d_HR_firstFrom_9 : decode c_HR_firstFrom 9 = .ok (.goto 6, 3) := by decide +kernel
theorem d_HR_firstFrom_12 : decode c_HR_firstFrom 12 = .ok (.iload_n 1, 1) := by decide +kernel
theorem d_HR_firstFrom_13 : decode c_HR_firstFrom 13 = .ok (.iconst 1, 1) := by decide +kernel
theorem d_HR_firstFrom_14 : decode c_HR_firstFrom 14 = .ok (.iadd, 1) := by decide +kernel
theorem d_HR_firstFrom_15 : decode c_HR_firstFrom 15 = .ok (.ireturn, 1) := by decide +kernel
theorem d_HR_lastTo_0 : decode c_HR_lastTo 0 = .ok (.iload_n 0, 1) := by decide +kernel
theorem d_HR_lastTo_1 : decode c_HR_lastTo 1 = .ok (.iload_n 1, 1) := by decide +kernel
theorem d_HR_lastTo_2 : decode c_HR_lastTo 2 = .ok (.invokestatic 28, 3) := by decide +kernel
theorem d_HR_lastTo_5 : decode c_HR_lastTo 5 = .ok (.ifCond .eq 7, 3) := by decide +kernel
theorem d_HR_lastTo_8 : decode c_HR_lastTo 8 = .ok (.iload_n 1, 1) := by decide +kernel
theorem d_HR_lastTo_9 : decode c_HR_lastTo 9 = .ok (.goto 6, 3) := by decide +kernel
theorem d_HR_lastTo_12 : decode c_HR_lastTo 12 = .ok (.iload_n 1, 1) := by decide +kernel
theorem d_HR_lastTo_13 : decode c_HR_lastTo 13 = .ok (.iconst 1, 1) := by decide +kernel
theorem d_HR_lastTo_14 : decode c_HR_lastTo 14 = .ok (.isub, 1) := by decide +kernel
theorem d_HR_lastTo_15 : decode c_HR_lastTo 15 = .ok (.ireturn, 1) := by decide +kernel
theorem d_HR_isOnSide_0 : decode c_HR_isOnSide 0 = .ok (.iload_n 0, 1) := by decide +kernel
theorem d_HR_isOnSide_1 : decode c_HR_isOnSide 1 = .ok (.iconst 2, 1) := by decide +kernel
theorem d_HR_isOnSide_2 : decode c_HR_isOnSide 2 = .ok (.if_icmp .eq 10, 3) := by decide +kernel
theorem d_HR_isOnSide_5 : decode c_HR_isOnSide 5 = .ok (.iload_n 1, 1) := by decide +kernel
theorem d_HR_isOnSide_6 : decode c_HR_isOnSide 6 = .ok (.iconst 1, 1) := by decide +kernel
theorem d_HR_isOnSide_7 : decode c_HR_isOnSide 7 = .ok (.iand, 1) := by decide +kernel
theorem d_HR_isOnSide_8 : decode c_HR_isOnSide 8 = .ok (.iload_n 0, 1) := by decide +kernel
theorem d_HR_isOnSide_9 : decode c_HR_isOnSide 9 = .ok (.if_icmp .ne 7, 3) := by decide +kernel
theorem d_HR_isOnSide_12 : decode c_HR_isOnSide 12 = .ok (.iconst 1, 1) := by decide +kernel
theorem d_HR_isOnSide_13 : decode c_HR_isOnSide 13 = .ok (.goto 4, 3) := by decide +kernel
theorem d_HR_isOnSide_16 : decode c_HR_isOnSide 16 = .ok (.iconst 0, 1) := by decide +kernel
theorem d_HR_isOnSide_17 : decode c_HR_isOnSide 17 = .ok (.ireturn, 1) := by decide +kernel
theorem d_HR_nearestTo_0 : decode c_HR_nearestTo 0 = .ok (.iload_n 1, 1) := by decide +kernel
theorem d_HR_nearestTo_1 : decode c_HR_nearestTo 1 = .ok (.aload_n 0, 1) := by decide +kernel
theorem d_HR_nearestTo_2 : decode c_HR_nearestTo 2 = .ok (.getfield 19, 3) := by decide +kernel
theorem d_HR_nearestTo_5 : decode c_HR_nearestTo 5 = .ok (.if_icmp .gt 8, 3) := by decide +kernel
theorem d_HR_nearestTo_8 : decode c_HR_nearestTo 8 = .ok (.aload_n 0, 1) := by decide +kernel
theorem d_HR_nearestTo_9 : decode c_HR_nearestTo 9 = .ok (.getfield 19, 3) := by decide +kernel
theorem d_HR_nearestTo_12 : decode c_HR_nearestTo 12 = .ok (.ireturn, 1) := by decide +kernel
theorem d_HR_nearestTo_13 : decode c_HR_nearestTo 13 = .ok (.iload_n 1, 1) := by decide +kernel
theorem d_HR_nearestTo_14 : decode c_HR_nearestTo 14 = .ok (.aload_n 0, 1) := by decide +kernel
theorem d_HR_nearestTo_15 : decode c_HR_nearestTo 15 = .ok (.getfield 25, 3) := by decide +kernel
theorem d_HR_nearestTo_18 : decode c_HR_nearestTo 18 = .ok (.if_icmp .lt 8, 3) := by decide +kernel
theorem d_HR_nearestTo_21 : decode c_HR_nearestTo 21 = .ok (.aload_n 0, 1) := by decide +kernel
theorem d_HR_nearestTo_22 : decode c_HR_nearestTo 22 = .ok (.getfield 25, 3) := by decide +kernel
theorem d_HR_nearestTo_25 : decode c_HR_nearestTo 25 = .ok (.ireturn, 1) := by decide +kernel
theorem d_HR_nearestTo_26 : decode c_HR_nearestTo 26 = .ok (.aload_n 0, 1) := by decide +kernel
theorem d_HR_nearestTo_27 : decode c_HR_nearestTo 27 = .ok (.getfield 9, 3) := by decide +kernel
theorem d_HR_nearestTo_30 : decode c_HR_nearestTo 30 = .ok (.iload_n 1, 1) := by decide +kernel
theorem d_HR_nearestTo_31 : decode c_HR_nearestTo 31 = .ok (.invokestatic 28, 3) := by decide +kernel
theorem d_HR_nearestTo_34 : decode c_HR_nearestTo 34 = .ok (.ifCond .eq 7, 3) := by decide +kernel
theorem d_HR_nearestTo_37 : decode c_HR_nearestTo 37 = .ok (.iload_n 1, 1) := by decide +kernel
theorem d_HR_nearestTo_38 : decode c_HR_nearestTo 38 = .ok (.goto 6, 3) := by decide +kernel
theorem d_HR_nearestTo_41 : decode c_HR_nearestTo 41 = .ok (.iload_n 1, 1) := by decide +kernel
theorem d_HR_nearestTo_42 : decode c_HR_nearestTo 42 = .ok (.iconst 1, 1) := by decide +kernel
theorem d_HR_nearestTo_43 : decode c_HR_nearestTo 43 = .ok (.isub, 1) := by decide +kernel
theorem d_HR_nearestTo_44 : decode c_HR_nearestTo 44 = .ok (.ireturn, 1) := by decide +kernel
theorem d_LM_init_0 : decode c_LM_init 0 = .ok (.aload_n 0, 1) := by decide +kernel
theorem d_LM_init_1 : decode c_LM_init 1 = .ok (.invokespecial 1, 3) := by decide +kernel
theorem d_LM_init_4 : decode c_LM_init 4 = .ok (.aload_n 0, 1) := by decide +kernel
