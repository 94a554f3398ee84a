theorem d_Na_init_0 : decode c_Na_init 0 = .ok (.aload_n 0, 1) := by decide +kernel
theorem d_Na_init_1 : decode c_Na_init 1 = .ok (.invokespecial 3, 3) := by decide +kernel
theorem d_Na_init_4 : decode c_Na_init 4 = .ok (.aload_n 0, 1) := by decide +kernel
theorem d_Na_init_5 : decode c_Na_init 5 = .ok (.bipush 16, 2) := by decide +kernel
theorem d_Na_init_7 : decode c_Na_init 7 = .ok (.newarray .char, 2) := by decide +kernel
theorem d_Na_init_9 : decode c_Na_init 9 = .ok (.putfield 9, 3) := by decide +kernel
theorem d_Na_init_12 : decode c_Na_init 12 = .ok (.return_, 1) := by decide +kernel
theorem d_Na_isEmpty_0 : decode c_Na_isEmpty 0 = .ok (.aload_n 0, 1) := by decide +kernel
theorem d_Na_isEmpty_1 : decode c_Na_isEmpty 1 = .ok (.getfield 15, 3) := by decide +kernel
theorem d_Na_isEmpty_4 : decode c_Na_isEmpty 4 = .ok (.ifCond .ne 7, 3) := by decide +kernel
theorem d_Na_isEmpty_7 : decode c_Na_isEmpty 7 = .ok (.iconst 1, 1) := by decide +kernel
theorem d_Na_isEmpty_8 : decode c_Na_isEmpty 8 = .ok (.goto 4, 3) := by decide +kernel
theorem d_Na_isEmpty_11 : decode c_Na_isEmpty 11 = .ok (.iconst 0, 1) := by decide +kernel
theorem d_Na_isEmpty_12 : decode c_Na_isEmpty 12 = .ok (.ireturn, 1) := by decide +kernel
theorem d_Na_hasRoomFor_0 : decode c_Na_hasRoomFor 0 = .ok (.aload_n 0, 1) := by decide +kernel
theorem d_Na_hasRoomFor_1 : decode c_Na_hasRoomFor 1 = .ok (.getfield 15, 3) := by decide +kernel
theorem d_Na_hasRoomFor_4 : decode c_Na_hasRoomFor 4 = .ok (.iload_n 1, 1) := by decide +kernel
theorem d_Na_hasRoomFor_5 : decode c_Na_hasRoomFor 5 = .ok (.iadd, 1) := by decide +kernel
theorem d_Na_hasRoomFor_6 : decode c_Na_hasRoomFor 6 = .ok (.bipush 16, 2) := by decide +kernel
theorem d_Na_hasRoomFor_8 : decode c_Na_hasRoomFor 8 = .ok (.if_icmp .gt 7, 3) := by decide +kernel
theorem d_Na_hasRoomFor_11 : decode c_Na_hasRoomFor 11 = .ok (.iconst 1, 1) := by decide +kernel
theorem d_Na_hasRoomFor_12 : decode c_Na_hasRoomFor 12 = .ok (.goto 4, 3) := by decide +kernel
theorem d_Na_hasRoomFor_15 : decode c_Na_hasRoomFor 15 = .ok (.iconst 0, 1) := by decide +kernel
theorem d_Na_hasRoomFor_16 : decode c_Na_hasRoomFor 16 = .ok (.ireturn, 1) := by decide +kernel
theorem d_Na_append_0 : decode c_Na_append 0 = .ok (.iconst 0, 1) := by decide +kernel
theorem d_Na_append_1 : decode c_Na_append 1 = .ok (.istore 4, 2) := by decide +kernel
theorem d_Na_append_3 : decode c_Na_append 3 = .ok (.iload 4, 2) := by decide +kernel
theorem d_Na_append_5 : decode c_Na_append 5 = .ok (.iload_n 3, 1) := by decide +kernel
theorem d_Na_append_6 : decode c_Na_append 6 = .ok (.if_icmp .ge 44, 3) := by decide +kernel
theorem d_Na_append_9 : decode c_Na_append 9 = .ok (.aload_n 0, 1) := by decide +kernel
theorem d_Na_append_10 : decode c_Na_append 10 = .ok (.getfield 15, 3) := by decide +kernel
theorem d_Na_append_13 : decode c_Na_append 13 = .ok (.bipush 16, 2) := by decide +kernel
theorem d_Na_append_15 : decode c_Na_append 15 = .ok (.if_icmp .ge 35, 3) := by decide +kernel
theorem d_Na_append_18 : decode c_Na_append 18 = .ok (.aload_n 0, 1) := by decide +kernel
theorem d_Na_append_19 : decode c_Na_append 19 = .ok (.getfield 9, 3) := by decide +kernel
theorem d_Na_append_22 : decode c_Na_append 22 = .ok (.aload_n 0, 1) := by decide +kernel
theorem d_Na_append_23 : decode c_Na_append 23 = .ok (.getfield 15, 3) := by decide +kernel
theorem d_Na_append_26 : decode c_Na_append 26 = .ok (.lload_n 1, 1) := by decide +kernel
theorem d_Na_append_27 : decode c_Na_append 27 = .ok (.iload_n 3, 1) := by decide +kernel
theorem d_Na_append_28 : decode c_Na_append 28 = .ok (.iload 4, 2) := by decide +kernel
theorem d_Na_append_30 : decode c_Na_append 30 = .ok (.invokestatic 19, 3) := by decide +kernel
theorem d_Na_append_33 : decode c_Na_append 33 = .ok (.castore, 1) := by decide +kernel
theorem d_Na_append_34 : decode c_Na_append 34 = .ok (.aload_n 0, 1) := by decide +kernel
theorem d_Na_append_35 : decode c_Na_append 35 = .ok (.dup, 1) := by decide +kernel
theorem d_Na_append_36 : decode c_Na_append 36 = .ok (.getfield 15, 3) := by decide +kernel
theorem d_Na_append_39 : decode c_Na_append 39 = .ok (.iconst 1, 1) := by decide +kernel
theorem d_Na_append_40 : decode c_Na_append 40 = .ok (.iadd, 1) := by decide +kernel
theorem d_Na_append_41 : decode c_Na_append 41 = .ok (.putfield 15, 3) := by decide +kernel
theorem d_Na_append_44 : decode c_Na_append 44 = .ok (.iinc 4 1, 3) := by decide +kernel
theorem d_Na_append_47 : decode c_Na_append 47 = .ok (.goto (-44), 3) := by decide +kernel
theorem d_Na_append_50 : decode c_Na_append 50 = .ok (.return_, 1) := by decide +kernel
theorem d_Na_isSameAs_0 : decode c_Na_isSameAs 0 = .ok (.aload_n 0, 1) := by decide +kernel
theorem d_Na_isSameAs_1 : decode c_Na_isSameAs 1 = .ok (.getfield 15, 3) := by decide +kernel
theorem d_Na_isSameAs_4 : decode c_Na_isSameAs 4 = .ok (.aload_n 1, 1) := by decide +kernel
theorem d_Na_isSameAs_5 : decode c_Na_isSameAs 5 = .ok (.getfield 15, 3) := by decide +kernel
theorem d_Na_isSameAs_8 : decode c_Na_isSameAs 8 = .ok (.if_icmp .eq 5, 3) := by decide +kernel
theorem d_Na_isSameAs_11 : decode c_Na_isSameAs 11 = .ok (.iconst 0, 1) := by decide +kernel
theorem d_Na_isSameAs_12 : decode c_Na_isSameAs 12 = .ok (.ireturn, 1) := by decide +kernel
theorem d_Na_isSameAs_13 : decode c_Na_isSameAs 13 = .ok (.iconst 0, 1) := by decide +kernel
theorem d_Na_isSameAs_14 : decode c_Na_isSameAs 14 = .ok (.istore_n 2, 1) := by decide +kernel
theorem d_Na_isSameAs_15 : decode c_Na_isSameAs 15 = .ok (.iload_n 2, 1) := by decide +kernel
theorem d_Na_isSameAs_16 : decode c_Na_isSameAs 16 = .ok (.aload_n 0, 1) := by decide +kernel
theorem d_Na_isSameAs_17 : decode c_Na_isSameAs 17 = .ok (.getfield 15, 3) := by decide +kernel
theorem d_Na_isSameAs_20 : decode c_Na_isSameAs 20 = .ok (.if_icmp .ge 26, 3) := by decide +kernel
theorem d_Na_isSameAs_23 : decode c_Na_isSameAs 23 = .ok (.aload_n 0, 1) := by decide +kernel
theorem d_Na_isSameAs_24 : decode c_Na_isSameAs 24 = .ok (.getfield 9, 3) := by decide +kernel
theorem d_Na_isSameAs_27 : decode c_Na_isSameAs 27 = .ok (.iload_n 2, 1) := by decide +kernel
theorem d_Na_isSameAs_28 : decode c_Na_isSameAs 28 = .ok (.caload, 1) := by decide +kernel
theorem d_Na_isSameAs_29 : decode c_Na_isSameAs 29 = .ok (.aload_n 1, 1) := by decide +kernel
theorem d_Na_isSameAs_30 : decode c_Na_isSameAs 30 = .ok (.getfield 9, 3) := by decide +kernel
theorem d_Na_isSameAs_33 : decode c_Na_isSameAs 33 = .ok (.iload_n 2, 1) := by decide +kernel
theorem d_Na_isSameAs_34 : decode c_Na_isSameAs 34 = .ok (.caload, 1) := by decide +kernel
theorem d_Na_isSameAs_35 : decode c_Na_isSameAs 35 = .ok (.if_icmp .eq 5, 3) := by decide +kernel
theorem d_Na_isSameAs_38 : decode c_Na_isSameAs 38 = .ok (.iconst 0, 1) := by decide +kernel
theorem d_Na_isSameAs_39 : decode c_Na_isSameAs 39 = .ok (.ireturn, 1) := by decide +kernel
theorem d_Na_isSameAs_40 : decode c_Na_isSameAs 40 = .ok (.iinc 2 1, 3) := by decide +kernel
theorem d_Na_isSameAs_43 : decode c_Na_isSameAs 43 = .ok (.goto (-28), 3) := by decide +kernel
theorem d_Na_isSameAs_46 : decode c_Na_isSameAs 46 = .ok (.iconst 1, 1) := by decide +kernel
theorem d_Na_isSameAs_47 : decode c_Na_isSameAs 47 = .ok (.ireturn, 1) := by decide +kernel
theorem d_Pl_init_0 : decode c_Pl_init 0 = .ok (.aload_n 0, 1) := by decide +kernel
theorem d_Pl_init_1 : decode c_Pl_init 1 = .ok (.invokespecial 1, 3) := by decide +kernel
theorem d_Pl_init_4 : decode c_Pl_init 4 = .ok (.return_, 1) := by decide +kernel
theorem d_Ra_init_0 : decode c_Ra_init 0 = .ok (.aload_n 0, 1) := by decide +kernel
theorem d_Ra_init_1 : decode c_Ra_init 1 = .ok (.invokespecial 3, 3) := by decide +kernel
theorem d_Ra_init_4 : decode c_Ra_init 4 = .ok (.aload_n 0, 1) := by decide +kernel
theorem d_Ra_init_5 : decode c_Ra_init 5 = .ok (.bipush 10, 2) := by decide +kernel
theorem d_Ra_init_7 : decode c_Ra_init 7 = .ok (.newarray .int, 2) := by decide +kernel
theorem d_Ra_init_9 : decode c_Ra_init 9 = .ok (.putfield 9, 3) := by decide +kernel
theorem d_Ra_init_12 : decode c_Ra_init 12 = .ok (.aload_n 0, 1) := by decide +kernel
theorem d_Ra_init_13 : decode c_Ra_init 13 = .ok (.bipush 10, 2) := by decide +kernel
theorem d_Ra_init_15 : decode c_Ra_init 15 = .ok (.newarray .int, 2) := by decide +kernel
theorem d_Ra_init_17 : decode c_Ra_init 17 = .ok (.putfield 15, 3) := by decide +kernel
theorem d_Ra_init_20 : decode c_Ra_init 20 = .ok (.return_, 1) := by decide +kernel
theorem d_Ra_begin_0 : decode c_Ra_begin 0 = .ok (.aload_n 0, 1) := by decide +kernel
theorem d_Ra_begin_1 : decode c_Ra_begin 1 = .ok (.iload_n 1, 1) := by decide +kernel
theorem d_Ra_begin_2 : decode c_Ra_begin 2 = .ok (.putfield 18, 3) := by decide +kernel
theorem d_Ra_begin_5 : decode c_Ra_begin 5 = .ok (.aload_n 0, 1) := by decide +kernel
theorem d_Ra_begin_6 : decode c_Ra_begin 6 = .ok (.iconst 0, 1) := by decide +kernel
theorem d_Ra_begin_7 : decode c_Ra_begin 7 = .ok (.putfield 22, 3) := by decide +kernel
theorem d_Ra_begin_10 : decode c_Ra_begin 10 = .ok (.return_, 1) := by decide +kernel
theorem d_Ra_offer_0 : decode c_Ra_offer 0 = .ok (.aload_n 0, 1) := by decide +kernel
theorem d_Ra_offer_1 : decode c_Ra_offer 1 = .ok (.getfield 22, 3) := by decide +kernel
theorem d_Ra_offer_4 : decode c_Ra_offer 4 = .ok (.istore_n 3, 1) := by decide +kernel
theorem d_Ra_offer_5 : decode c_Ra_offer 5 = .ok (.iload_n 3, 1) := by decide +kernel
theorem d_Ra_offer_6 : decode c_Ra_offer 6 = .ok (.ifCond .le 21, 3) := by decide +kernel
theorem d_Ra_offer_9 : decode c_Ra_offer 9 = .ok (.iload_n 2, 1) := by decide +kernel
theorem d_Ra_offer_10 : decode c_Ra_offer 10 = .ok (.aload_n 0, 1) := by decide +kernel
theorem d_Ra_offer_11 : decode c_Ra_offer 11 = .ok (.getfield 15, 3) := by decide +kernel
theorem d_Ra_offer_14 : decode c_Ra_offer 14 = .ok (.iload_n 3, 1) := by decide +kernel
theorem d_Ra_offer_15 : decode c_Ra_offer 15 = .ok (.iconst 1, 1) := by decide +kernel
theorem d_Ra_offer_16 : decode c_Ra_offer 16 = .ok (.isub, 1) := by decide +kernel
theorem d_Ra_offer_17 : decode c_Ra_offer 17 = .ok (.iaload, 1) := by decide +kernel
theorem d_Ra_offer_18 : decode c_Ra_offer 18 = .ok (.if_icmp .ge 9, 3) := by decide +kernel
theorem d_Ra_offer_21 : decode c_Ra_offer 21 = .ok (.iinc 3 (-1), 3) := by decide +kernel
theorem d_Ra_offer_24 : decode c_Ra_offer 24 = .ok (.goto (-19), 3) := by decide +kernel
theorem d_Ra_offer_27 : decode c_Ra_offer 27 = .ok (.iload_n 3, 1) := by decide +kernel
theorem d_Ra_offer_28 : decode c_Ra_offer 28 = .ok (.aload_n 0, 1) := by decide +kernel
theorem d_Ra_offer_29 : decode c_Ra_offer 29 = .ok (.getfield 18, 3) := by decide +kernel
theorem d_Ra_offer_32 : decode c_Ra_offer 32 = .ok (.if_icmp .lt 4, 3) := by decide +kernel
theorem d_Ra_offer_35 : decode c_Ra_offer 35 = .ok (.return_, 1) := by decide +kernel
theorem d_Ra_offer_36 : decode c_Ra_offer 36 = .ok (.aload_n 0, 1) := by decide +kernel
theorem d_Ra_offer_37 : decode c_Ra_offer 37 = .ok (.getfield 22, 3) := by decide +kernel
theorem d_Ra_offer_40 : decode c_Ra_offer 40 = .ok (.aload_n 0, 1) := by decide +kernel
theorem d_Ra_offer_41 : decode c_Ra_offer 41 = .ok (.getfield 18, 3) := by decide +kernel
theorem d_Ra_offer_44 : decode c_Ra_offer 44 = .ok (.if_icmp .ge 13, 3) := by decide +kernel
theorem d_Ra_offer_47 : decode c_Ra_offer 47 = .ok (.aload_n 0, 1) := by decide +kernel
theorem d_Ra_offer_48 : decode c_Ra_offer 48 = .ok (.dup, 1) := by decide +kernel
theorem d_Ra_offer_49 : decode c_Ra_offer 49 = .ok (.getfield 22, 3) := by decide +kernel
theorem d_Ra_offer_52 : decode c_Ra_offer 52 = .ok (.iconst 1, 1) := by decide +kernel
theorem d_Ra_offer_53 : decode c_Ra_offer 53 = .ok (.iadd, 1) := by decide +kernel
theorem d_Ra_offer_54 : decode c_Ra_offer 54 = .ok (.putfield 22, 3) := by decide +kernel
theorem d_Ra_offer_57 : decode c_Ra_offer 57 = .ok (.aload_n 0, 1) := by decide +kernel
theorem d_Ra_offer_58 : decode c_Ra_offer 58 = .ok (.getfield 22, 3) := by decide +kernel
theorem d_Ra_offer_61 : decode c_Ra_offer 61 = .ok (.iconst 1, 1) := by decide +kernel
theorem d_Ra_offer_62 : decode c_Ra_offer 62 = .ok (.isub, 1) := by decide +kernel
theorem d_Ra_offer_63 : decode c_Ra_offer 63 = .ok (.istore 4, 2) := by decide +kernel
theorem d_Ra_offer_65 : decode c_Ra_offer 65 = .ok (.iload 4, 2) := by decide +kernel
theorem d_Ra_offer_67 : decode c_Ra_offer 67 = .ok (.iload_n 3, 1) := by decide +kernel
theorem d_Ra_offer_68 : decode c_Ra_offer 68 = .ok (.if_icmp .le 41, 3) := by decide +kernel
theorem d_Ra_offer_71 : decode c_Ra_offer 71 = .ok (.aload_n 0, 1) := by decide +kernel
theorem d_Ra_offer_72 : decode c_Ra_offer 72 = .ok (.getfield 9, 3) := by decide +kernel
theorem d_Ra_offer_75 : decode c_Ra_offer 75 = .ok (.iload 4, 2) := by decide +kernel
theorem d_Ra_offer_77 : decode c_Ra_offer 77 = .ok (.aload_n 0, 1) := by decide +kernel
theorem d_Ra_offer_78 : decode c_Ra_offer 78 = .ok (.getfield 9, 3) := by decide +kernel
theorem d_Ra_offer_81 : decode c_Ra_offer 81 = .ok (.iload 4, 2) := by decide +kernel
theorem d_Ra_offer_83 : decode c_Ra_offer 83 = .ok (.iconst 1, 1) := by decide +kernel
theorem d_Ra_offer_84 : decode c_Ra_offer 84 = .ok (.isub, 1) := by decide +kernel
theorem d_Ra_offer_85 : decode c_Ra_offer 85 = .ok (.iaload, 1) := by decide +kernel
theorem d_Ra_offer_86 : decode c_Ra_offer 86 = .ok (.iastore, 1) := by decide +kernel
theorem d_Ra_offer_87 : decode c_Ra_offer 87 = .ok (.aload_n 0, 1) := by decide +kernel
theorem d_Ra_offer_88 : decode c_Ra_offer 88 = .ok (.getfield 15, 3) := by decide +kernel
theorem d_Ra_offer_91 : decode c_Ra_offer 91 = .ok (.iload 4, 2) := by decide +kernel
theorem d_Ra_offer_93 : decode c_Ra_offer 93 = .ok (.aload_n 0, 1) := by decide +kernel
theorem d_Ra_offer_94 : decode c_Ra_offer 94 = .ok (.getfield 15, 3) := by decide +kernel
theorem d_Ra_offer_97 : decode c_Ra_offer 97 = .ok (.iload 4, 2) := by decide +kernel
theorem d_Ra_offer_99 : decode c_Ra_offer 99 = .ok (.iconst 1, 1) := by decide +kernel
theorem d_Ra_offer_100 : decode c_Ra_offer 100 = .ok (.isub, 1) := by decide +kernel
theorem d_Ra_offer_101 : decode c_Ra_offer 101 = .ok (.iaload, 1) := by decide +kernel
theorem d_Ra_offer_102 : decode c_Ra_offer 102 = .ok (.iastore, 1) := by decide +kernel
theorem d_Ra_offer_103 : decode c_Ra_offer 103 = .ok (.iinc 4 (-1), 3) := by decide +kernel
theorem d_Ra_offer_106 : decode c_Ra_offer 106 = .ok (.goto (-41), 3) := by decide +kernel
theorem d_Ra_offer_109 : decode c_Ra_offer 109 = .ok (.aload_n 0, 1) := by decide +kernel
theorem d_Ra_offer_110 : decode c_Ra_offer 110 = .ok (.getfield 9, 3) := by decide +kernel
theorem d_Ra_offer_113 : decode c_Ra_offer 113 = .ok (.iload_n 3, 1) := by decide +kernel
theorem d_Ra_offer_114 : decode c_Ra_offer 114 = .ok (.iload_n 1, 1) := by decide +kernel
theorem d_Ra_offer_115 : decode c_Ra_offer 115 = .ok (.iastore, 1) := by decide +kernel
theorem d_Ra_offer_116 : decode c_Ra_offer 116 = .ok (.aload_n 0, 1) := by decide +kernel
theorem d_Ra_offer_117 : decode c_Ra_offer 117 = .ok (.getfield 15, 3) := by decide +kernel
theorem d_Ra_offer_120 : decode c_Ra_offer 120 = .ok (.iload_n 3, 1) := by decide +kernel
theorem d_Ra_offer_121 : decode c_Ra_offer 121 = .ok (.iload_n 2, 1) := by decide +kernel
theorem d_Ra_offer_122 : decode c_Ra_offer 122 = .ok (.iastore, 1) := by decide +kernel
theorem d_Ra_offer_123 : decode c_Ra_offer 123 = .ok (.return_, 1) := by decide +kernel
theorem d_Sa_init_0 : decode c_Sa_init 0 = .ok (.aload_n 0, 1) := by decide +kernel
theorem d_Sa_init_1 : decode c_Sa_init 1 = .ok (.invokespecial 3, 3) := by decide +kernel
theorem d_Sa_init_4 : decode c_Sa_init 4 = .ok (.aload_n 0, 1) := by decide +kernel
theorem d_Sa_init_5 : decode c_Sa_init 5 = .ok (.bipush 40, 2) := by decide +kernel
theorem d_Sa_init_7 : decode c_Sa_init 7 = .ok (.newarray .char, 2) := by decide +kernel
theorem d_Sa_init_9 : decode c_Sa_init 9 = .ok (.putfield 9, 3) := by decide +kernel
theorem d_Sa_init_12 : decode c_Sa_init 12 = .ok (.aload_n 0, 1) := by decide +kernel
theorem d_Sa_init_13 : decode c_Sa_init 13 = .ok (.bipush 20, 2) := by decide +kernel
theorem d_Sa_init_15 : decode c_Sa_init 15 = .ok (.newarray .int, 2) := by decide +kernel
theorem d_Sa_init_17 : decode c_Sa_init 17 = .ok (.putfield 15, 3) := by decide +kernel
theorem d_Sa_init_20 : decode c_Sa_init 20 = .ok (.aload_n 0, 1) := by decide +kernel
theorem d_Sa_init_21 : decode c_Sa_init 21 = .ok (.bipush 20, 2) := by decide +kernel
theorem d_Sa_init_23 : decode c_Sa_init 23 = .ok (.newarray .int, 2) := by decide +kernel
theorem d_Sa_init_25 : decode c_Sa_init 25 = .ok (.putfield 19, 3) := by decide +kernel
theorem d_Sa_init_28 : decode c_Sa_init 28 = .ok (.return_, 1) := by decide +kernel
theorem d_Sa_hasRoomFor_0 : decode c_Sa_hasRoomFor 0 = .ok (.aload_n 0, 1) := by decide +kernel
theorem d_Sa_hasRoomFor_1 : decode c_Sa_hasRoomFor 1 = .ok (.getfield 22, 3) := by decide +kernel
theorem d_Sa_hasRoomFor_4 : decode c_Sa_hasRoomFor 4 = .ok (.iload_n 1, 1) := by decide +kernel
theorem d_Sa_hasRoomFor_5 : decode c_Sa_hasRoomFor 5 = .ok (.iadd, 1) := by decide +kernel
theorem d_Sa_hasRoomFor_6 : decode c_Sa_hasRoomFor 6 = .ok (.bipush 40, 2) := by decide +kernel
theorem d_Sa_hasRoomFor_8 : decode c_Sa_hasRoomFor 8 = .ok (.if_icmp .gt 7, 3) := by decide +kernel
theorem d_Sa_hasRoomFor_11 : decode c_Sa_hasRoomFor 11 = .ok (.iconst 1, 1) := by decide +kernel
theorem d_Sa_hasRoomFor_12 : decode c_Sa_hasRoomFor 12 = .ok (.goto 4, 3) := by decide +kernel
theorem d_Sa_hasRoomFor_15 : decode c_Sa_hasRoomFor 15 = .ok (.iconst 0, 1) := by decide +kernel
theorem d_Sa_hasRoomFor_16 : decode c_Sa_hasRoomFor 16 = .ok (.ireturn, 1) := by decide +kernel
theorem d_Sa_clear_0 : decode c_Sa_clear 0 = .ok (.aload_n 0, 1) := by decide +kernel
theorem d_Sa_clear_1 : decode c_Sa_clear 1 = .ok (.iconst 0, 1) := by decide +kernel
theorem d_Sa_clear_2 : decode c_Sa_clear 2 = .ok (.putfield 22, 3) := by decide +kernel
theorem d_Sa_clear_5 : decode c_Sa_clear 5 = .ok (.return_, 1) := by decide +kernel
theorem d_Sa_append_0 : decode c_Sa_append 0 = .ok (.iconst 0, 1) := by decide +kernel
theorem d_Sa_append_1 : decode c_Sa_append 1 = .ok (.istore 4, 2) := by decide +kernel
theorem d_Sa_append_3 : decode c_Sa_append 3 = .ok (.iload 4, 2) := by decide +kernel
theorem d_Sa_append_5 : decode c_Sa_append 5 = .ok (.iload_n 3, 1) := by decide +kernel
theorem d_Sa_append_6 : decode c_Sa_append 6 = .ok (.if_icmp .ge 44, 3) := by decide +kernel
theorem d_Sa_append_9 : decode c_Sa_append 9 = .ok (.aload_n 0, 1) := by decide +kernel
theorem d_Sa_append_10 : decode c_Sa_append 10 = .ok (.getfield 22, 3) := by decide +kernel
theorem d_Sa_append_13 : decode c_Sa_append 13 = .ok (.bipush 40, 2) := by decide +kernel
theorem d_Sa_append_15 : decode c_Sa_append 15 = .ok (.if_icmp .ge 35, 3) := by decide +kernel
theorem d_Sa_append_18 : decode c_Sa_append 18 = .ok (.aload_n 0, 1) := by decide +kernel
theorem d_Sa_append_19 : decode c_Sa_append 19 = .ok (.getfield 9, 3) := by decide +kernel
theorem d_Sa_append_22 : decode c_Sa_append 22 = .ok (.aload_n 0, 1) := by decide +kernel
theorem d_Sa_append_23 : decode c_Sa_append 23 = .ok (.getfield 22, 3) := by decide +kernel
theorem d_Sa_append_26 : decode c_Sa_append 26 = .ok (.lload_n 1, 1) := by decide +kernel
theorem d_Sa_append_27 : decode c_Sa_append 27 = .ok (.iload_n 3, 1) := by decide +kernel
theorem d_Sa_append_28 : decode c_Sa_append 28 = .ok (.iload 4, 2) := by decide +kernel
theorem d_Sa_append_30 : decode c_Sa_append 30 = .ok (.invokestatic 26, 3) := by decide +kernel
theorem d_Sa_append_33 : decode c_Sa_append 33 = .ok (.castore, 1) := by decide +kernel
theorem d_Sa_append_34 : decode c_Sa_append 34 = .ok (.aload_n 0, 1) := by decide +kernel
theorem d_Sa_append_35 : decode c_Sa_append 35 = .ok (.dup, 1) := by decide +kernel
theorem d_Sa_append_36 : decode c_Sa_append 36 = .ok (.getfield 22, 3) := by decide +kernel
theorem d_Sa_append_39 : decode c_Sa_append 39 = .ok (.iconst 1, 1) := by decide +kernel
theorem d_Sa_append_40 : decode c_Sa_append 40 = .ok (.iadd, 1) := by decide +kernel
theorem d_Sa_append_41 : decode c_Sa_append 41 = .ok (.putfield 22, 3) := by decide +kernel
theorem d_Sa_append_44 : decode c_Sa_append 44 = .ok (.iinc 4 1, 3) := by decide +kernel
theorem d_Sa_append_47 : decode c_Sa_append 47 = .ok (.goto (-44), 3) := by decide +kernel
theorem d_Sa_append_50 : decode c_Sa_append 50 = .ok (.return_, 1) := by decide +kernel
theorem d_Sa_lookThrough_0 : decode c_Sa_lookThrough 0 = .ok (.aload_n 0, 1) := by decide +kernel
theorem d_Sa_lookThrough_1 : decode c_Sa_lookThrough 1 = .ok (.iconst 0, 1) := by decide +kernel
theorem d_Sa_lookThrough_2 : decode c_Sa_lookThrough 2 = .ok (.putfield 30, 3) := by decide +kernel
theorem d_Sa_lookThrough_5 : decode c_Sa_lookThrough 5 = .ok (.aload_n 0, 1) := by decide +kernel
theorem d_Sa_lookThrough_6 : decode c_Sa_lookThrough 6 = .ok (.iconst 0, 1) := by decide +kernel
theorem d_Sa_lookThrough_7 : decode c_Sa_lookThrough 7 = .ok (.putfield 33, 3) := by decide +kernel
theorem d_Sa_lookThrough_10 : decode c_Sa_lookThrough 10 = .ok (.aload_n 0, 1) := by decide +kernel
theorem d_Sa_lookThrough_11 : decode c_Sa_lookThrough 11 = .ok (.iconst 0, 1) := by decide +kernel
theorem d_Sa_lookThrough_12 : decode c_Sa_lookThrough 12 = .ok (.putfield 36, 3) := by decide +kernel
theorem d_Sa_lookThrough_15 : decode c_Sa_lookThrough 15 = .ok (.aload_n 0, 1) := by decide +kernel
theorem d_Sa_lookThrough_16 : decode c_Sa_lookThrough 16 = .ok (.iconst 0, 1) := by decide +kernel
theorem d_Sa_lookThrough_17 : decode c_Sa_lookThrough 17 = .ok (.putfield 39, 3) := by decide +kernel
theorem d_Sa_lookThrough_20 : decode c_Sa_lookThrough 20 = .ok (.iconst 0, 1) := by decide +kernel
theorem d_Sa_lookThrough_21 : decode c_Sa_lookThrough 21 = .ok (.istore_n 1, 1) := by decide +kernel
theorem d_Sa_lookThrough_22 : decode c_Sa_lookThrough 22 = .ok (.iload_n 1, 1) := by decide +kernel
theorem d_Sa_lookThrough_23 : decode c_Sa_lookThrough 23 = .ok (.aload_n 0, 1) := by decide +kernel
theorem d_Sa_lookThrough_24 : decode c_Sa_lookThrough 24 = .ok (.getfield 22, 3) := by decide +kernel
theorem d_Sa_lookThrough_27 : decode c_Sa_lookThrough 27 = .ok (.if_icmp .ge 46, 3) := by decide +kernel
theorem d_Sa_lookThrough_30 : decode c_Sa_lookThrough 30 = .ok (.aload_n 0, 1) := by decide +kernel
theorem d_Sa_lookThrough_31 : decode c_Sa_lookThrough 31 = .ok (.getfield 9, 3) := by decide +kernel
theorem d_Sa_lookThrough_34 : decode c_Sa_lookThrough 34 = .ok (.iload_n 1, 1) := by decide +kernel
theorem d_Sa_lookThrough_35 : decode c_Sa_lookThrough 35 = .ok (.caload, 1) := by decide +kernel
theorem d_Sa_lookThrough_36 : decode c_Sa_lookThrough 36 = .ok (.invokestatic 42, 3) := by decide +kernel
theorem d_Sa_lookThrough_39 : decode c_Sa_lookThrough 39 = .ok (.ifCond .eq 11, 3) := by decide +kernel
theorem d_Sa_lookThrough_42 : decode c_Sa_lookThrough 42 = .ok (.aload_n 0, 1) := by decide +kernel
theorem d_Sa_lookThrough_43 : decode c_Sa_lookThrough 43 = .ok (.iload_n 1, 1) := by decide +kernel
theorem d_Sa_lookThrough_44 : decode c_Sa_lookThrough 44 = .ok (.invokevirtual 46, 3) := by decide +kernel
theorem d_Sa_lookThrough_47 : decode c_Sa_lookThrough 47 = .ok (.goto 20, 3) := by decide +kernel
theorem d_Sa_lookThrough_50 : decode c_Sa_lookThrough 50 = .ok (.aload_n 0, 1) := by decide +kernel
theorem d_Sa_lookThrough_51 : decode c_Sa_lookThrough 51 = .ok (.getfield 9, 3) := by decide +kernel
theorem d_Sa_lookThrough_54 : decode c_Sa_lookThrough 54 = .ok (.iload_n 1, 1) := by decide +kernel
theorem d_Sa_lookThrough_55 : decode c_Sa_lookThrough 55 = .ok (.caload, 1) := by decide +kernel
theorem d_Sa_lookThrough_56 : decode c_Sa_lookThrough 56 = .ok (.invokestatic 50, 3) := by decide +kernel
theorem d_Sa_lookThrough_59 : decode c_Sa_lookThrough 59 = .ok (.ifCond .eq 8, 3) := by decide +kernel
theorem d_Sa_lookThrough_62 : decode c_Sa_lookThrough 62 = .ok (.aload_n 0, 1) := by decide +kernel
theorem d_Sa_lookThrough_63 : decode c_Sa_lookThrough 63 = .ok (.iload_n 1, 1) := by decide +kernel
theorem d_Sa_lookThrough_64 : decode c_Sa_lookThrough 64 = .ok (.invokevirtual 53, 3) := by decide +kernel
theorem d_Sa_lookThrough_67 : decode c_Sa_lookThrough 67 = .ok (.iinc 1 1, 3) := by decide +kernel
theorem d_Sa_lookThrough_70 : decode c_Sa_lookThrough 70 = .ok (.goto (-48), 3) := by decide +kernel
theorem d_Sa_lookThrough_73 : decode c_Sa_lookThrough 73 = .ok (.return_, 1) := by decide +kernel
theorem d_Sa_takeLetter_0 : decode c_Sa_takeLetter 0 = .ok (.iload_n 1, 1) := by decide +kernel
theorem d_Sa_takeLetter_1 : decode c_Sa_takeLetter 1 = .ok (.ifCond .eq 17, 3) := by decide +kernel
theorem d_Sa_takeLetter_4 : decode c_Sa_takeLetter 4 = .ok (.aload_n 0, 1) := by decide +kernel
theorem d_Sa_takeLetter_5 : decode c_Sa_takeLetter 5 = .ok (.getfield 9, 3) := by decide +kernel
theorem d_Sa_takeLetter_8 : decode c_Sa_takeLetter 8 = .ok (.iload_n 1, 1) := by decide +kernel
theorem d_Sa_takeLetter_9 : decode c_Sa_takeLetter 9 = .ok (.iconst 1, 1) := by decide +kernel
theorem d_Sa_takeLetter_10 : decode c_Sa_takeLetter 10 = .ok (.isub, 1) := by decide +kernel
theorem d_Sa_takeLetter_11 : decode c_Sa_takeLetter 11 = .ok (.caload, 1) := by decide +kernel
theorem d_Sa_takeLetter_12 : decode c_Sa_takeLetter 12 = .ok (.invokestatic 42, 3) := by decide +kernel
theorem d_Sa_takeLetter_15 : decode c_Sa_takeLetter 15 = .ok (.ifCond .ne 7, 3) := by decide +kernel
theorem d_Sa_takeLetter_18 : decode c_Sa_takeLetter 18 = .ok (.iconst 1, 1) := by decide +kernel
theorem d_Sa_takeLetter_19 : decode c_Sa_takeLetter 19 = .ok (.goto 4, 3) := by decide +kernel
theorem d_Sa_takeLetter_22 : decode c_Sa_takeLetter 22 = .ok (.iconst 0, 1) := by decide +kernel
theorem d_Sa_takeLetter_23 : decode c_Sa_takeLetter 23 = .ok (.istore_n 2, 1) := by decide +kernel
theorem d_Sa_takeLetter_24 : decode c_Sa_takeLetter 24 = .ok (.iload_n 2, 1) := by decide +kernel
theorem d_Sa_takeLetter_25 : decode c_Sa_takeLetter 25 = .ok (.ifCond .eq 42, 3) := by decide +kernel
theorem d_Sa_takeLetter_28 : decode c_Sa_takeLetter 28 = .ok (.aload_n 0, 1) := by decide +kernel
theorem d_Sa_takeLetter_29 : decode c_Sa_takeLetter 29 = .ok (.getfield 30, 3) := by decide +kernel
theorem d_Sa_takeLetter_32 : decode c_Sa_takeLetter 32 = .ok (.bipush 20, 2) := by decide +kernel
theorem d_Sa_takeLetter_34 : decode c_Sa_takeLetter 34 = .ok (.if_icmp .ge 33, 3) := by decide +kernel
theorem d_Sa_takeLetter_37 : decode c_Sa_takeLetter 37 = .ok (.aload_n 0, 1) := by decide +kernel
theorem d_Sa_takeLetter_38 : decode c_Sa_takeLetter 38 = .ok (.getfield 15, 3) := by decide +kernel
theorem d_Sa_takeLetter_41 : decode c_Sa_takeLetter 41 = .ok (.aload_n 0, 1) := by decide +kernel
theorem d_Sa_takeLetter_42 : decode c_Sa_takeLetter 42 = .ok (.getfield 30, 3) := by decide +kernel
theorem d_Sa_takeLetter_45 : decode c_Sa_takeLetter 45 = .ok (.iload_n 1, 1) := by decide +kernel
theorem d_Sa_takeLetter_46 : decode c_Sa_takeLetter 46 = .ok (.iastore, 1) := by decide +kernel
theorem d_Sa_takeLetter_47 : decode c_Sa_takeLetter 47 = .ok (.aload_n 0, 1) := by decide +kernel
theorem d_Sa_takeLetter_48 : decode c_Sa_takeLetter 48 = .ok (.getfield 19, 3) := by decide +kernel
theorem d_Sa_takeLetter_51 : decode c_Sa_takeLetter 51 = .ok (.aload_n 0, 1) := by decide +kernel
theorem d_Sa_takeLetter_52 : decode c_Sa_takeLetter 52 = .ok (.getfield 30, 3) := by decide +kernel
theorem d_Sa_takeLetter_55 : decode c_Sa_takeLetter 55 = .ok (.iconst 0, 1) := by decide +kernel
theorem d_Sa_takeLetter_56 : decode c_Sa_takeLetter 56 = .ok (.iastore, 1) := by decide +kernel
theorem d_Sa_takeLetter_57 : decode c_Sa_takeLetter 57 = .ok (.aload_n 0, 1) := by decide +kernel
theorem d_Sa_takeLetter_58 : decode c_Sa_takeLetter 58 = .ok (.dup, 1) := by decide +kernel
theorem d_Sa_takeLetter_59 : decode c_Sa_takeLetter 59 = .ok (.getfield 30, 3) := by decide +kernel
theorem d_Sa_takeLetter_62 : decode c_Sa_takeLetter 62 = .ok (.iconst 1, 1) := by decide +kernel
theorem d_Sa_takeLetter_63 : decode c_Sa_takeLetter 63 = .ok (.iadd, 1) := by decide +kernel
theorem d_Sa_takeLetter_64 : decode c_Sa_takeLetter 64 = .ok (.putfield 30, 3) := by decide +kernel
theorem d_Sa_takeLetter_67 : decode c_Sa_takeLetter 67 = .ok (.aload_n 0, 1) := by decide +kernel
theorem d_Sa_takeLetter_68 : decode c_Sa_takeLetter 68 = .ok (.getfield 30, 3) := by decide +kernel
theorem d_Sa_takeLetter_71 : decode c_Sa_takeLetter 71 = .ok (.ifCond .le 18, 3) := by decide +kernel
theorem d_Sa_takeLetter_74 : decode c_Sa_takeLetter 74 = .ok (.aload_n 0, 1) := by decide +kernel
theorem d_Sa_takeLetter_75 : decode c_Sa_takeLetter 75 = .ok (.getfield 19, 3) := by decide +kernel
theorem d_Sa_takeLetter_78 : decode c_Sa_takeLetter 78 = .ok (.aload_n 0, 1) := by decide +kernel
theorem d_Sa_takeLetter_79 : decode c_Sa_takeLetter 79 = .ok (.getfield 30, 3) := by decide +kernel
theorem d_Sa_takeLetter_82 : decode c_Sa_takeLetter 82 = .ok (.iconst 1, 1) := by decide +kernel
theorem d_Sa_takeLetter_83 : decode c_Sa_takeLetter 83 = .ok (.isub, 1) := by decide +kernel
theorem d_Sa_takeLetter_84 : decode c_Sa_takeLetter 84 = .ok (.dup2, 1) := by decide +kernel
theorem d_Sa_takeLetter_85 : decode c_Sa_takeLetter 85 = .ok (.iaload, 1) := by decide +kernel
theorem d_Sa_takeLetter_86 : decode c_Sa_takeLetter 86 = .ok (.iconst 1, 1) := by decide +kernel
theorem d_Sa_takeLetter_87 : decode c_Sa_takeLetter 87 = .ok (.iadd, 1) := by decide +kernel
theorem d_Sa_takeLetter_88 : decode c_Sa_takeLetter 88 = .ok (.iastore, 1) := by decide +kernel
theorem d_Sa_takeLetter_89 : decode c_Sa_takeLetter 89 = .ok (.return_, 1) := by decide +kernel
theorem d_Sa_takeDigit_0 : decode c_Sa_takeDigit 0 = .ok (.iload_n 1, 1) := by decide +kernel
theorem d_Sa_takeDigit_1 : decode c_Sa_takeDigit 1 = .ok (.ifCond .eq 17, 3) := by decide +kernel
theorem d_Sa_takeDigit_4 : decode c_Sa_takeDigit 4 = .ok (.aload_n 0, 1) := by decide +kernel
theorem d_Sa_takeDigit_5 : decode c_Sa_takeDigit 5 = .ok (.getfield 9, 3) := by decide +kernel
theorem d_Sa_takeDigit_8 : decode c_Sa_takeDigit 8 = .ok (.iload_n 1, 1) := by decide +kernel
theorem d_Sa_takeDigit_9 : decode c_Sa_takeDigit 9 = .ok (.iconst 1, 1) := by decide +kernel
theorem d_Sa_takeDigit_10 : decode c_Sa_takeDigit 10 = .ok (.isub, 1) := by decide +kernel
theorem d_Sa_takeDigit_11 : decode c_Sa_takeDigit 11 = .ok (.caload, 1) := by decide +kernel
theorem d_Sa_takeDigit_12 : decode c_Sa_takeDigit 12 = .ok (.invokestatic 50, 3) := by decide +kernel
theorem d_Sa_takeDigit_15 : decode c_Sa_takeDigit 15 = .ok (.ifCond .ne 13, 3) := by decide +kernel
theorem d_Sa_takeDigit_18 : decode c_Sa_takeDigit 18 = .ok (.aload_n 0, 1) := by decide +kernel
theorem d_Sa_takeDigit_19 : decode c_Sa_takeDigit 19 = .ok (.dup, 1) := by decide +kernel
theorem d_Sa_takeDigit_20 : decode c_Sa_takeDigit 20 = .ok (.getfield 33, 3) := by decide +kernel
theorem d_Sa_takeDigit_23 : decode c_Sa_takeDigit 23 = .ok (.iconst 1, 1) := by decide +kernel
theorem d_Sa_takeDigit_24 : decode c_Sa_takeDigit 24 = .ok (.iadd, 1) := by decide +kernel
theorem d_Sa_takeDigit_25 : decode c_Sa_takeDigit 25 = .ok (.putfield 33, 3) := by decide +kernel
theorem d_Sa_takeDigit_28 : decode c_Sa_takeDigit 28 = .ok (.aload_n 0, 1) := by decide +kernel
theorem d_Sa_takeDigit_29 : decode c_Sa_takeDigit 29 = .ok (.getfield 33, 3) := by decide +kernel
theorem d_Sa_takeDigit_32 : decode c_Sa_takeDigit 32 = .ok (.iconst 1, 1) := by decide +kernel
theorem d_Sa_takeDigit_33 : decode c_Sa_takeDigit 33 = .ok (.if_icmp .ne 48, 3) := by decide +kernel
theorem d_Sa_takeDigit_36 : decode c_Sa_takeDigit 36 = .ok (.aload_n 0, 1) := by decide +kernel
theorem d_Sa_takeDigit_37 : decode c_Sa_takeDigit 37 = .ok (.dup, 1) := by decide +kernel
theorem d_Sa_takeDigit_38 : decode c_Sa_takeDigit 38 = .ok (.getfield 36, 3) := by decide +kernel
theorem d_Sa_takeDigit_41 : decode c_Sa_takeDigit 41 = .ok (.iconst 1, 1) := by decide +kernel
theorem d_Sa_takeDigit_42 : decode c_Sa_takeDigit 42 = .ok (.iadd, 1) := by decide +kernel
theorem d_Sa_takeDigit_43 : decode c_Sa_takeDigit 43 = .ok (.putfield 36, 3) := by decide +kernel
theorem d_Sa_takeDigit_46 : decode c_Sa_takeDigit 46 = .ok (.aload_n 0, 1) := by decide +kernel
theorem d_Sa_takeDigit_47 : decode c_Sa_takeDigit 47 = .ok (.aload_n 0, 1) := by decide +kernel
theorem d_Sa_takeDigit_48 : decode c_Sa_takeDigit 48 = .ok (.getfield 36, 3) := by decide +kernel
theorem d_Sa_takeDigit_51 : decode c_Sa_takeDigit 51 = .ok (.iconst 4, 1) := by decide +kernel
theorem d_Sa_takeDigit_52 : decode c_Sa_takeDigit 52 = .ok (.if_icmp .le 9, 3) := by decide +kernel
theorem d_Sa_takeDigit_55 : decode c_Sa_takeDigit 55 = .ok (.sipush 9999, 3) := by decide +kernel
theorem d_Sa_takeDigit_58 : decode c_Sa_takeDigit 58 = .ok (.goto 20, 3) := by decide +kernel
theorem d_Sa_takeDigit_61 : decode c_Sa_takeDigit 61 = .ok (.bipush 10, 2) := by decide +kernel
theorem d_Sa_takeDigit_63 : decode c_Sa_takeDigit 63 = .ok (.aload_n 0, 1) := by decide +kernel
theorem d_Sa_takeDigit_64 : decode c_Sa_takeDigit 64 = .ok (.getfield 39, 3) := by decide +kernel
theorem d_Sa_takeDigit_67 : decode c_Sa_takeDigit 67 = .ok (.imul, 1) := by decide +kernel
theorem d_Sa_takeDigit_68 : decode c_Sa_takeDigit 68 = .ok (.aload_n 0, 1) := by decide +kernel
theorem d_Sa_takeDigit_69 : decode c_Sa_takeDigit 69 = .ok (.getfield 9, 3) := by decide +kernel
theorem d_Sa_takeDigit_72 : decode c_Sa_takeDigit 72 = .ok (.iload_n 1, 1) := by decide +kernel
theorem d_Sa_takeDigit_73 : decode c_Sa_takeDigit 73 = .ok (.caload, 1) := by decide +kernel
theorem d_Sa_takeDigit_74 : decode c_Sa_takeDigit 74 = .ok (.bipush 48, 2) := by decide +kernel
theorem d_Sa_takeDigit_76 : decode c_Sa_takeDigit 76 = .ok (.isub, 1) := by decide +kernel
theorem d_Sa_takeDigit_77 : decode c_Sa_takeDigit 77 = .ok (.iadd, 1) := by decide +kernel
theorem d_Sa_takeDigit_78 : decode c_Sa_takeDigit 78 = .ok (.putfield 39, 3) := by decide +kernel
theorem d_Sa_takeDigit_81 : decode c_Sa_takeDigit 81 = .ok (.return_, 1) := by decide +kernel
theorem d_St_init_0 : decode c_St_init 0 = .ok (.aload_n 0, 1) := by decide +kernel
theorem d_St_init_1 : decode c_St_init 1 = .ok (.invokespecial 3, 3) := by decide +kernel
theorem d_St_init_4 : decode c_St_init 4 = .ok (.aload_n 0, 1) := by decide +kernel
theorem d_St_init_5 : decode c_St_init 5 = .ok (.iconst 3, 1) := by decide +kernel
theorem d_St_init_6 : decode c_St_init 6 = .ok (.anewarray 9, 3) := by decide +kernel
theorem d_St_init_9 : decode c_St_init 9 = .ok (.putfield 11, 3) := by decide +kernel
theorem d_St_init_12 : decode c_St_init 12 = .ok (.aload_n 0, 1) := by decide +kernel
theorem d_St_init_13 : decode c_St_init 13 = .ok (.iconst 1, 1) := by decide +kernel
theorem d_St_init_14 : decode c_St_init 14 = .ok (.putfield 17, 3) := by decide +kernel
theorem d_St_init_17 : decode c_St_init 17 = .ok (.aload_n 0, 1) := by decide +kernel
theorem d_St_init_18 : decode c_St_init 18 = .ok (.bipush 6, 2) := by decide +kernel
theorem d_St_init_20 : decode c_St_init 20 = .ok (.anewarray 21, 3) := by decide +kernel
theorem d_St_init_23 : decode c_St_init 23 = .ok (.putfield 23, 3) := by decide +kernel
theorem d_St_init_26 : decode c_St_init 26 = .ok (.aload_n 0, 1) := by decide +kernel
theorem d_St_init_27 : decode c_St_init 27 = .ok (.iload_n 1, 1) := by decide +kernel
theorem d_St_init_28 : decode c_St_init 28 = .ok (.putfield 27, 3) := by decide +kernel
theorem d_St_init_31 : decode c_St_init 31 = .ok (.iconst 0, 1) := by decide +kernel
theorem d_St_init_32 : decode c_St_init 32 = .ok (.istore_n 2, 1) := by decide +kernel
theorem d_St_init_33 : decode c_St_init 33 = .ok (.iload_n 2, 1) := by decide +kernel
theorem d_St_init_34 : decode c_St_init 34 = .ok (.iconst 3, 1) := by decide +kernel
theorem d_St_init_35 : decode c_St_init 35 = .ok (.if_icmp .ge 22, 3) := by decide +kernel
theorem d_St_init_38 : decode c_St_init 38 = .ok (.aload_n 0, 1) := by decide +kernel
theorem d_St_init_39 : decode c_St_init 39 = .ok (.getfield 11, 3) := by decide +kernel
theorem d_St_init_42 : decode c_St_init 42 = .ok (.iload_n 2, 1) := by decide +kernel
theorem d_St_init_43 : decode c_St_init 43 = .ok (.new 9, 3) := by decide +kernel
theorem d_St_init_46 : decode c_St_init 46 = .ok (.dup, 1) := by decide +kernel
theorem d_St_init_47 : decode c_St_init 47 = .ok (.invokespecial 30, 3) := by decide +kernel
theorem d_St_init_50 : decode c_St_init 50 = .ok (.aastore, 1) := by decide +kernel
theorem d_St_init_51 : decode c_St_init 51 = .ok (.iinc 2 1, 3) := by decide +kernel
theorem d_St_init_54 : decode c_St_init 54 = .ok (.goto (-21), 3) := by decide +kernel
theorem d_St_init_57 : decode c_St_init 57 = .ok (.return_, 1) := by decide +kernel
theorem d_St_latestName_0 : decode c_St_latestName 0 = .ok (.aload_n 0, 1) := by decide +kernel
theorem d_St_latestName_1 : decode c_St_latestName 1 = .ok (.getfield 11, 3) := by decide +kernel
