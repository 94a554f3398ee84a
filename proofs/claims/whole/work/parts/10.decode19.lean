theorem d_St_draw_0 : decode c_St_draw 0 = .ok (.aload_n 0, 1) := by decide +kernel
theorem d_St_draw_1 : decode c_St_draw 1 = .ok (.iload_n 1, 1) := by decide +kernel
theorem d_St_draw_2 : decode c_St_draw 2 = .ok (.putfield 31, 3) := by decide +kernel
theorem d_St_draw_5 : decode c_St_draw 5 = .ok (.aload_n 0, 1) := by decide +kernel
theorem d_St_draw_6 : decode c_St_draw 6 = .ok (.iload_n 2, 1) := by decide +kernel
theorem d_St_draw_7 : decode c_St_draw 7 = .ok (.putfield 34, 3) := by decide +kernel
theorem d_St_draw_10 : decode c_St_draw 10 = .ok (.aload_n 0, 1) := by decide +kernel
theorem d_St_draw_11 : decode c_St_draw 11 = .ok (.iload_n 3, 1) := by decide +kernel
theorem d_St_draw_12 : decode c_St_draw 12 = .ok (.putfield 37, 3) := by decide +kernel
theorem d_St_draw_15 : decode c_St_draw 15 = .ok (.aload_n 0, 1) := by decide +kernel
theorem d_St_draw_16 : decode c_St_draw 16 = .ok (.iload 4, 2) := by decide +kernel
theorem d_St_draw_18 : decode c_St_draw 18 = .ok (.putfield 40, 3) := by decide +kernel
theorem d_St_draw_21 : decode c_St_draw 21 = .ok (.aload_n 0, 1) := by decide +kernel
theorem d_St_draw_22 : decode c_St_draw 22 = .ok (.iload_n 1, 1) := by decide +kernel
theorem d_St_draw_23 : decode c_St_draw 23 = .ok (.iload_n 2, 1) := by decide +kernel
theorem d_St_draw_24 : decode c_St_draw 24 = .ok (.iload_n 3, 1) := by decide +kernel
theorem d_St_draw_25 : decode c_St_draw 25 = .ok (.iload 4, 2) := by decide +kernel
theorem d_St_draw_27 : decode c_St_draw 27 = .ok (.invokestatic 43, 3) := by decide +kernel
theorem d_St_draw_30 : decode c_St_draw 30 = .ok (.invokestatic 47, 3) := by decide +kernel
theorem d_St_draw_33 : decode c_St_draw 33 = .ok (.putfield 51, 3) := by decide +kernel
theorem d_St_draw_36 : decode c_St_draw 36 = .ok (.return_, 1) := by decide +kernel
theorem d_St_between_0 : decode c_St_between 0 = .ok (.aload_n 0, 1) := by decide +kernel
theorem d_St_between_1 : decode c_St_between 1 = .ok (.getfield 51, 3) := by decide +kernel
theorem d_St_between_4 : decode c_St_between 4 = .ok (.ifCond .ne 5, 3) := by decide +kernel
theorem d_St_between_7 : decode c_St_between 7 = .ok (.iload_n 1, 1) := by decide +kernel
theorem d_St_between_8 : decode c_St_between 8 = .ok (.ireturn, 1) := by decide +kernel
theorem d_St_between_9 : decode c_St_between 9 = .ok (.iload_n 1, 1) := by decide +kernel
theorem d_St_between_10 : decode c_St_between 10 = .ok (.iconst 2, 1) := by decide +kernel
theorem d_St_between_11 : decode c_St_between 11 = .ok (.iload_n 2, 1) := by decide +kernel
theorem d_St_between_12 : decode c_St_between 12 = .ok (.iload_n 1, 1) := by decide +kernel
theorem d_St_between_13 : decode c_St_between 13 = .ok (.isub, 1) := by decide +kernel
theorem d_St_between_14 : decode c_St_between 14 = .ok (.imul, 1) := by decide +kernel
theorem d_St_between_15 : decode c_St_between 15 = .ok (.iload_n 3, 1) := by decide +kernel
theorem d_St_between_16 : decode c_St_between 16 = .ok (.imul, 1) := by decide +kernel
theorem d_St_between_17 : decode c_St_between 17 = .ok (.aload_n 0, 1) := by decide +kernel
theorem d_St_between_18 : decode c_St_between 18 = .ok (.getfield 51, 3) := by decide +kernel
theorem d_St_between_21 : decode c_St_between 21 = .ok (.iadd, 1) := by decide +kernel
theorem d_St_between_22 : decode c_St_between 22 = .ok (.iconst 2, 1) := by decide +kernel
theorem d_St_between_23 : decode c_St_between 23 = .ok (.aload_n 0, 1) := by decide +kernel
theorem d_St_between_24 : decode c_St_between 24 = .ok (.getfield 51, 3) := by decide +kernel
theorem d_St_between_27 : decode c_St_between 27 = .ok (.imul, 1) := by decide +kernel
theorem d_St_between_28 : decode c_St_between 28 = .ok (.invokestatic 54, 3) := by decide +kernel
theorem d_St_between_31 : decode c_St_between 31 = .ok (.iadd, 1) := by decide +kernel
theorem d_St_between_32 : decode c_St_between 32 = .ok (.ireturn, 1) := by decide +kernel
theorem d_St_hasHouse_0 : decode c_St_hasHouse 0 = .ok (.aload_n 0, 1) := by decide +kernel
theorem d_St_hasHouse_1 : decode c_St_hasHouse 1 = .ok (.getfield 60, 3) := by decide +kernel
theorem d_St_hasHouse_4 : decode c_St_hasHouse 4 = .ok (.ifCond .le 16, 3) := by decide +kernel
theorem d_St_hasHouse_7 : decode c_St_hasHouse 7 = .ok (.aload_n 0, 1) := by decide +kernel
theorem d_St_hasHouse_8 : decode c_St_hasHouse 8 = .ok (.iload_n 1, 1) := by decide +kernel
theorem d_St_hasHouse_9 : decode c_St_hasHouse 9 = .ok (.invokevirtual 63, 3) := by decide +kernel
theorem d_St_hasHouse_12 : decode c_St_hasHouse 12 = .ok (.iload_n 1, 1) := by decide +kernel
theorem d_St_hasHouse_13 : decode c_St_hasHouse 13 = .ok (.if_icmp .ne 7, 3) := by decide +kernel
theorem d_St_hasHouse_16 : decode c_St_hasHouse 16 = .ok (.iconst 1, 1) := by decide +kernel
theorem d_St_hasHouse_17 : decode c_St_hasHouse 17 = .ok (.goto 4, 3) := by decide +kernel
theorem d_St_hasHouse_20 : decode c_St_hasHouse 20 = .ok (.iconst 0, 1) := by decide +kernel
theorem d_St_hasHouse_21 : decode c_St_hasHouse 21 = .ok (.ireturn, 1) := by decide +kernel
theorem d_St_nearestHouse_0 : decode c_St_nearestHouse 0 = .ok (.iload_n 1, 1) := by decide +kernel
theorem d_St_nearestHouse_1 : decode c_St_nearestHouse 1 = .ok (.istore_n 2, 1) := by decide +kernel
theorem d_St_nearestHouse_2 : decode c_St_nearestHouse 2 = .ok (.iconst 0, 1) := by decide +kernel
theorem d_St_nearestHouse_3 : decode c_St_nearestHouse 3 = .ok (.istore_n 3, 1) := by decide +kernel
theorem d_St_nearestHouse_4 : decode c_St_nearestHouse 4 = .ok (.iload_n 3, 1) := by decide +kernel
theorem d_St_nearestHouse_5 : decode c_St_nearestHouse 5 = .ok (.aload_n 0, 1) := by decide +kernel
theorem d_St_nearestHouse_6 : decode c_St_nearestHouse 6 = .ok (.getfield 60, 3) := by decide +kernel
theorem d_St_nearestHouse_9 : decode c_St_nearestHouse 9 = .ok (.if_icmp .ge 38, 3) := by decide +kernel
theorem d_St_nearestHouse_12 : decode c_St_nearestHouse 12 = .ok (.aload_n 0, 1) := by decide +kernel
theorem d_St_nearestHouse_13 : decode c_St_nearestHouse 13 = .ok (.getfield 23, 3) := by decide +kernel
theorem d_St_nearestHouse_16 : decode c_St_nearestHouse 16 = .ok (.iload_n 3, 1) := by decide +kernel
theorem d_St_nearestHouse_17 : decode c_St_nearestHouse 17 = .ok (.aaload, 1) := by decide +kernel
theorem d_St_nearestHouse_18 : decode c_St_nearestHouse 18 = .ok (.iload_n 1, 1) := by decide +kernel
theorem d_St_nearestHouse_19 : decode c_St_nearestHouse 19 = .ok (.invokevirtual 66, 3) := by decide +kernel
theorem d_St_nearestHouse_22 : decode c_St_nearestHouse 22 = .ok (.istore 4, 2) := by decide +kernel
theorem d_St_nearestHouse_24 : decode c_St_nearestHouse 24 = .ok (.iload_n 3, 1) := by decide +kernel
theorem d_St_nearestHouse_25 : decode c_St_nearestHouse 25 = .ok (.ifCond .eq 13, 3) := by decide +kernel
theorem d_St_nearestHouse_28 : decode c_St_nearestHouse 28 = .ok (.iload_n 1, 1) := by decide +kernel
theorem d_St_nearestHouse_29 : decode c_St_nearestHouse 29 = .ok (.iload 4, 2) := by decide +kernel
theorem d_St_nearestHouse_31 : decode c_St_nearestHouse 31 = .ok (.iload_n 2, 1) := by decide +kernel
theorem d_St_nearestHouse_32 : decode c_St_nearestHouse 32 = .ok (.invokestatic 69, 3) := by decide +kernel
theorem d_St_nearestHouse_35 : decode c_St_nearestHouse 35 = .ok (.ifCond .eq 6, 3) := by decide +kernel
theorem d_St_nearestHouse_38 : decode c_St_nearestHouse 38 = .ok (.iload 4, 2) := by decide +kernel
theorem d_St_nearestHouse_40 : decode c_St_nearestHouse 40 = .ok (.istore_n 2, 1) := by decide +kernel
theorem d_St_nearestHouse_41 : decode c_St_nearestHouse 41 = .ok (.iinc 3 1, 3) := by decide +kernel
theorem d_St_nearestHouse_44 : decode c_St_nearestHouse 44 = .ok (.goto (-40), 3) := by decide +kernel
theorem d_St_nearestHouse_47 : decode c_St_nearestHouse 47 = .ok (.iload_n 2, 1) := by decide +kernel
theorem d_St_nearestHouse_48 : decode c_St_nearestHouse 48 = .ok (.ireturn, 1) := by decide +kernel
theorem d_St_isNearer_0 : decode c_St_isNearer 0 = .ok (.iload_n 1, 1) := by decide +kernel
theorem d_St_isNearer_1 : decode c_St_isNearer 1 = .ok (.iload_n 0, 1) := by decide +kernel
theorem d_St_isNearer_2 : decode c_St_isNearer 2 = .ok (.isub, 1) := by decide +kernel
theorem d_St_isNearer_3 : decode c_St_isNearer 3 = .ok (.invokestatic 73, 3) := by decide +kernel
theorem d_St_isNearer_6 : decode c_St_isNearer 6 = .ok (.istore_n 3, 1) := by decide +kernel
theorem d_St_isNearer_7 : decode c_St_isNearer 7 = .ok (.iload_n 2, 1) := by decide +kernel
theorem d_St_isNearer_8 : decode c_St_isNearer 8 = .ok (.iload_n 0, 1) := by decide +kernel
theorem d_St_isNearer_9 : decode c_St_isNearer 9 = .ok (.isub, 1) := by decide +kernel
theorem d_St_isNearer_10 : decode c_St_isNearer 10 = .ok (.invokestatic 73, 3) := by decide +kernel
theorem d_St_isNearer_13 : decode c_St_isNearer 13 = .ok (.istore 4, 2) := by decide +kernel
theorem d_St_isNearer_15 : decode c_St_isNearer 15 = .ok (.iload_n 3, 1) := by decide +kernel
theorem d_St_isNearer_16 : decode c_St_isNearer 16 = .ok (.iload 4, 2) := by decide +kernel
theorem d_St_isNearer_18 : decode c_St_isNearer 18 = .ok (.if_icmp .lt 14, 3) := by decide +kernel
theorem d_St_isNearer_21 : decode c_St_isNearer 21 = .ok (.iload_n 3, 1) := by decide +kernel
theorem d_St_isNearer_22 : decode c_St_isNearer 22 = .ok (.iload 4, 2) := by decide +kernel
theorem d_St_isNearer_24 : decode c_St_isNearer 24 = .ok (.if_icmp .ne 12, 3) := by decide +kernel
theorem d_St_isNearer_27 : decode c_St_isNearer 27 = .ok (.iload_n 1, 1) := by decide +kernel
theorem d_St_isNearer_28 : decode c_St_isNearer 28 = .ok (.iload_n 2, 1) := by decide +kernel
theorem d_St_isNearer_29 : decode c_St_isNearer 29 = .ok (.if_icmp .ge 7, 3) := by decide +kernel
theorem d_St_isNearer_32 : decode c_St_isNearer 32 = .ok (.iconst 1, 1) := by decide +kernel
theorem d_St_isNearer_33 : decode c_St_isNearer 33 = .ok (.goto 4, 3) := by decide +kernel
theorem d_St_isNearer_36 : decode c_St_isNearer 36 = .ok (.iconst 0, 1) := by decide +kernel
theorem d_St_isNearer_37 : decode c_St_isNearer 37 = .ok (.ireturn, 1) := by decide +kernel
theorem d_St_sharesNameWith_0 : decode c_St_sharesNameWith 0 = .ok (.iconst 0, 1) := by decide +kernel
theorem d_St_sharesNameWith_1 : decode c_St_sharesNameWith 1 = .ok (.istore_n 2, 1) := by decide +kernel
theorem d_St_sharesNameWith_2 : decode c_St_sharesNameWith 2 = .ok (.iload_n 2, 1) := by decide +kernel
theorem d_St_sharesNameWith_3 : decode c_St_sharesNameWith 3 = .ok (.aload_n 0, 1) := by decide +kernel
theorem d_St_sharesNameWith_4 : decode c_St_sharesNameWith 4 = .ok (.getfield 17, 3) := by decide +kernel
theorem d_St_sharesNameWith_7 : decode c_St_sharesNameWith 7 = .ok (.if_icmp .ge 24, 3) := by decide +kernel
theorem d_St_sharesNameWith_10 : decode c_St_sharesNameWith 10 = .ok (.aload_n 1, 1) := by decide +kernel
theorem d_St_sharesNameWith_11 : decode c_St_sharesNameWith 11 = .ok (.aload_n 0, 1) := by decide +kernel
theorem d_St_sharesNameWith_12 : decode c_St_sharesNameWith 12 = .ok (.getfield 11, 3) := by decide +kernel
theorem d_St_sharesNameWith_15 : decode c_St_sharesNameWith 15 = .ok (.iload_n 2, 1) := by decide +kernel
theorem d_St_sharesNameWith_16 : decode c_St_sharesNameWith 16 = .ok (.aaload, 1) := by decide +kernel
theorem d_St_sharesNameWith_17 : decode c_St_sharesNameWith 17 = .ok (.invokevirtual 76, 3) := by decide +kernel
theorem d_St_sharesNameWith_20 : decode c_St_sharesNameWith 20 = .ok (.ifCond .eq 5, 3) := by decide +kernel
theorem d_St_sharesNameWith_23 : decode c_St_sharesNameWith 23 = .ok (.iconst 1, 1) := by decide +kernel
theorem d_St_sharesNameWith_24 : decode c_St_sharesNameWith 24 = .ok (.ireturn, 1) := by decide +kernel
theorem d_St_sharesNameWith_25 : decode c_St_sharesNameWith 25 = .ok (.iinc 2 1, 3) := by decide +kernel
theorem d_St_sharesNameWith_28 : decode c_St_sharesNameWith 28 = .ok (.goto (-26), 3) := by decide +kernel
theorem d_St_sharesNameWith_31 : decode c_St_sharesNameWith 31 = .ok (.iconst 0, 1) := by decide +kernel
theorem d_St_sharesNameWith_32 : decode c_St_sharesNameWith 32 = .ok (.ireturn, 1) := by decide +kernel
theorem d_St_hasName_0 : decode c_St_hasName 0 = .ok (.aload_n 1, 1) := by decide +kernel
theorem d_St_hasName_1 : decode c_St_hasName 1 = .ok (.invokevirtual 80, 3) := by decide +kernel
theorem d_St_hasName_4 : decode c_St_hasName 4 = .ok (.ifCond .eq 5, 3) := by decide +kernel
theorem d_St_hasName_7 : decode c_St_hasName 7 = .ok (.iconst 0, 1) := by decide +kernel
theorem d_St_hasName_8 : decode c_St_hasName 8 = .ok (.ireturn, 1) := by decide +kernel
theorem d_St_hasName_9 : decode c_St_hasName 9 = .ok (.iconst 0, 1) := by decide +kernel
theorem d_St_hasName_10 : decode c_St_hasName 10 = .ok (.istore_n 2, 1) := by decide +kernel
theorem d_St_hasName_11 : decode c_St_hasName 11 = .ok (.iload_n 2, 1) := by decide +kernel
theorem d_St_hasName_12 : decode c_St_hasName 12 = .ok (.aload_n 0, 1) := by decide +kernel
theorem d_St_hasName_13 : decode c_St_hasName 13 = .ok (.getfield 17, 3) := by decide +kernel
theorem d_St_hasName_16 : decode c_St_hasName 16 = .ok (.if_icmp .ge 24, 3) := by decide +kernel
theorem d_St_hasName_19 : decode c_St_hasName 19 = .ok (.aload_n 0, 1) := by decide +kernel
theorem d_St_hasName_20 : decode c_St_hasName 20 = .ok (.getfield 11, 3) := by decide +kernel
theorem d_St_hasName_23 : decode c_St_hasName 23 = .ok (.iload_n 2, 1) := by decide +kernel
theorem d_St_hasName_24 : decode c_St_hasName 24 = .ok (.aaload, 1) := by decide +kernel
theorem d_St_hasName_25 : decode c_St_hasName 25 = .ok (.aload_n 1, 1) := by decide +kernel
theorem d_St_hasName_26 : decode c_St_hasName 26 = .ok (.invokevirtual 84, 3) := by decide +kernel
theorem d_St_hasName_29 : decode c_St_hasName 29 = .ok (.ifCond .eq 5, 3) := by decide +kernel
theorem d_St_hasName_32 : decode c_St_hasName 32 = .ok (.iconst 1, 1) := by decide +kernel
theorem d_St_hasName_33 : decode c_St_hasName 33 = .ok (.ireturn, 1) := by decide +kernel
theorem d_St_hasName_34 : decode c_St_hasName 34 = .ok (.iinc 2 1, 3) := by decide +kernel
theorem d_St_hasName_37 : decode c_St_hasName 37 = .ok (.goto (-26), 3) := by decide +kernel
theorem d_St_hasName_40 : decode c_St_hasName 40 = .ok (.iconst 0, 1) := by decide +kernel
theorem d_St_hasName_41 : decode c_St_hasName 41 = .ok (.ireturn, 1) := by decide +kernel
theorem d_La_street_0 : decode c_La_street 0 = .ok (.aload_n 2, 1) := by decide +kernel
theorem d_La_street_1 : decode c_La_street 1 = .ok (.iconst 0, 1) := by decide +kernel
theorem d_La_street_2 : decode c_La_street 2 = .ok (.aload_n 0, 1) := by decide +kernel
theorem d_La_street_3 : decode c_La_street 3 = .ok (.iload_n 1, 1) := by decide +kernel
theorem d_La_street_4 : decode c_La_street 4 = .ok (.invokevirtual 7, 3) := by decide +kernel
theorem d_La_street_7 : decode c_La_street 7 = .ok (.i2l, 1) := by decide +kernel
theorem d_La_street_8 : decode c_La_street 8 = .ok (.lastore, 1) := by decide +kernel
theorem d_La_street_9 : decode c_La_street 9 = .ok (.goto 9, 3) := by decide +kernel
theorem d_La_street_12 : decode c_La_street 12 = .ok (.astore_n 3, 1) := by decide +kernel
theorem d_La_street_13 : decode c_La_street 13 = .ok (.iconst 1, 1) := by decide +kernel
theorem d_La_street_14 : decode c_La_street 14 = .ok (.ireturn, 1) := by decide +kernel
theorem d_La_street_15 : decode c_La_street 15 = .ok (.astore_n 3, 1) := by decide +kernel
theorem d_La_street_16 : decode c_La_street 16 = .ok (.iconst 2, 1) := by decide +kernel
theorem d_La_street_17 : decode c_La_street 17 = .ok (.ireturn, 1) := by decide +kernel
theorem d_La_street_18 : decode c_La_street 18 = .ok (.iconst 0, 1) := by decide +kernel
theorem d_La_street_19 : decode c_La_street 19 = .ok (.ireturn, 1) := by decide +kernel
theorem d_La_sign_0 : decode c_La_sign 0 = .ok (.aload 5, 2) := by decide +kernel
theorem d_La_sign_2 : decode c_La_sign 2 = .ok (.iconst 0, 1) := by decide +kernel
theorem d_La_sign_3 : decode c_La_sign 3 = .ok (.aload_n 0, 1) := by decide +kernel
theorem d_La_sign_4 : decode c_La_sign 4 = .ok (.iload_n 1, 1) := by decide +kernel
theorem d_La_sign_5 : decode c_La_sign 5 = .ok (.lload_n 2, 1) := by decide +kernel
theorem d_La_sign_6 : decode c_La_sign 6 = .ok (.iload 4, 2) := by decide +kernel
theorem d_La_sign_8 : decode c_La_sign 8 = .ok (.invokevirtual 17, 3) := by decide +kernel
theorem d_La_sign_11 : decode c_La_sign 11 = .ok (.i2l, 1) := by decide +kernel
theorem d_La_sign_12 : decode c_La_sign 12 = .ok (.lastore, 1) := by decide +kernel
theorem d_La_sign_13 : decode c_La_sign 13 = .ok (.goto 15, 3) := by decide +kernel
theorem d_La_sign_16 : decode c_La_sign 16 = .ok (.astore 6, 2) := by decide +kernel
theorem d_La_sign_18 : decode c_La_sign 18 = .ok (.iconst 1, 1) := by decide +kernel
theorem d_La_sign_19 : decode c_La_sign 19 = .ok (.ireturn, 1) := by decide +kernel
theorem d_La_sign_20 : decode c_La_sign 20 = .ok (.astore 6, 2) := by decide +kernel
theorem d_La_sign_22 : decode c_La_sign 22 = .ok (.iconst 2, 1) := by decide +kernel
theorem d_La_sign_23 : decode c_La_sign 23 = .ok (.ireturn, 1) := by decide +kernel
theorem d_La_sign_24 : decode c_La_sign 24 = .ok (.astore 6, 2) := by decide +kernel
theorem d_La_sign_26 : decode c_La_sign 26 = .ok (.iconst 3, 1) := by decide +kernel
theorem d_La_sign_27 : decode c_La_sign 27 = .ok (.ireturn, 1) := by decide +kernel
theorem d_La_sign_28 : decode c_La_sign 28 = .ok (.iconst 0, 1) := by decide +kernel
theorem d_La_sign_29 : decode c_La_sign 29 = .ok (.ireturn, 1) := by decide +kernel
theorem d_La_alias_0 : decode c_La_alias 0 = .ok (.aload_n 2, 1) := by decide +kernel
theorem d_La_alias_1 : decode c_La_alias 1 = .ok (.iconst 0, 1) := by decide +kernel
theorem d_La_alias_2 : decode c_La_alias 2 = .ok (.aload_n 0, 1) := by decide +kernel
theorem d_La_alias_3 : decode c_La_alias 3 = .ok (.iload_n 1, 1) := by decide +kernel
theorem d_La_alias_4 : decode c_La_alias 4 = .ok (.invokevirtual 23, 3) := by decide +kernel
theorem d_La_alias_7 : decode c_La_alias 7 = .ok (.i2l, 1) := by decide +kernel
theorem d_La_alias_8 : decode c_La_alias 8 = .ok (.lastore, 1) := by decide +kernel
theorem d_La_alias_9 : decode c_La_alias 9 = .ok (.goto 12, 3) := by decide +kernel
theorem d_La_alias_12 : decode c_La_alias 12 = .ok (.astore_n 3, 1) := by decide +kernel
theorem d_La_alias_13 : decode c_La_alias 13 = .ok (.iconst 1, 1) := by decide +kernel
theorem d_La_alias_14 : decode c_La_alias 14 = .ok (.ireturn, 1) := by decide +kernel
theorem d_La_alias_15 : decode c_La_alias 15 = .ok (.astore_n 3, 1) := by decide +kernel
theorem d_La_alias_16 : decode c_La_alias 16 = .ok (.iconst 2, 1) := by decide +kernel
theorem d_La_alias_17 : decode c_La_alias 17 = .ok (.ireturn, 1) := by decide +kernel
theorem d_La_alias_18 : decode c_La_alias 18 = .ok (.astore_n 3, 1) := by decide +kernel
theorem d_La_alias_19 : decode c_La_alias 19 = .ok (.iconst 3, 1) := by decide +kernel
theorem d_La_alias_20 : decode c_La_alias 20 = .ok (.ireturn, 1) := by decide +kernel
theorem d_La_alias_21 : decode c_La_alias 21 = .ok (.iconst 0, 1) := by decide +kernel
theorem d_La_alias_22 : decode c_La_alias 22 = .ok (.ireturn, 1) := by decide +kernel
theorem d_La_range_0 : decode c_La_range 0 = .ok (.aload 5, 2) := by decide +kernel
theorem d_La_range_2 : decode c_La_range 2 = .ok (.iconst 0, 1) := by decide +kernel
theorem d_La_range_3 : decode c_La_range 3 = .ok (.aload_n 0, 1) := by decide +kernel
theorem d_La_range_4 : decode c_La_range 4 = .ok (.iload_n 1, 1) := by decide +kernel
theorem d_La_range_5 : decode c_La_range 5 = .ok (.iload_n 2, 1) := by decide +kernel
theorem d_La_range_6 : decode c_La_range 6 = .ok (.iload_n 3, 1) := by decide +kernel
theorem d_La_range_7 : decode c_La_range 7 = .ok (.iload 4, 2) := by decide +kernel
theorem d_La_range_9 : decode c_La_range 9 = .ok (.invokevirtual 28, 3) := by decide +kernel
theorem d_La_range_12 : decode c_La_range 12 = .ok (.i2l, 1) := by decide +kernel
theorem d_La_range_13 : decode c_La_range 13 = .ok (.lastore, 1) := by decide +kernel
theorem d_La_range_14 : decode c_La_range 14 = .ok (.goto 15, 3) := by decide +kernel
theorem d_La_range_17 : decode c_La_range 17 = .ok (.astore 6, 2) := by decide +kernel
theorem d_La_range_19 : decode c_La_range 19 = .ok (.iconst 1, 1) := by decide +kernel
theorem d_La_range_20 : decode c_La_range 20 = .ok (.ireturn, 1) := by decide +kernel
theorem d_La_range_21 : decode c_La_range 21 = .ok (.astore 6, 2) := by decide +kernel
theorem d_La_range_23 : decode c_La_range 23 = .ok (.iconst 2, 1) := by decide +kernel
theorem d_La_range_24 : decode c_La_range 24 = .ok (.ireturn, 1) := by decide +kernel
theorem d_La_range_25 : decode c_La_range 25 = .ok (.astore 6, 2) := by decide +kernel
theorem d_La_range_27 : decode c_La_range 27 = .ok (.iconst 3, 1) := by decide +kernel
theorem d_La_range_28 : decode c_La_range 28 = .ok (.ireturn, 1) := by decide +kernel
theorem d_La_range_29 : decode c_La_range 29 = .ok (.iconst 0, 1) := by decide +kernel
theorem d_La_range_30 : decode c_La_range 30 = .ok (.ireturn, 1) := by decide +kernel
theorem d_La_line_0 : decode c_La_line 0 = .ok (.aload 6, 2) := by decide +kernel
theorem d_La_line_2 : decode c_La_line 2 = .ok (.iconst 0, 1) := by decide +kernel
theorem d_La_line_3 : decode c_La_line 3 = .ok (.aload_n 0, 1) := by decide +kernel
theorem d_La_line_4 : decode c_La_line 4 = .ok (.iload_n 1, 1) := by decide +kernel
theorem d_La_line_5 : decode c_La_line 5 = .ok (.iload_n 2, 1) := by decide +kernel
theorem d_La_line_6 : decode c_La_line 6 = .ok (.iload_n 3, 1) := by decide +kernel
theorem d_La_line_7 : decode c_La_line 7 = .ok (.iload 4, 2) := by decide +kernel
theorem d_La_line_9 : decode c_La_line 9 = .ok (.iload 5, 2) := by decide +kernel
theorem d_La_line_11 : decode c_La_line 11 = .ok (.invokevirtual 32, 3) := by decide +kernel
theorem d_La_line_14 : decode c_La_line 14 = .ok (.i2l, 1) := by decide +kernel
theorem d_La_line_15 : decode c_La_line 15 = .ok (.lastore, 1) := by decide +kernel
theorem d_La_line_16 : decode c_La_line 16 = .ok (.goto 11, 3) := by decide +kernel
theorem d_La_line_19 : decode c_La_line 19 = .ok (.astore 7, 2) := by decide +kernel
theorem d_La_line_21 : decode c_La_line 21 = .ok (.iconst 1, 1) := by decide +kernel
theorem d_La_line_22 : decode c_La_line 22 = .ok (.ireturn, 1) := by decide +kernel
theorem d_La_line_23 : decode c_La_line 23 = .ok (.astore 7, 2) := by decide +kernel
theorem d_La_line_25 : decode c_La_line 25 = .ok (.iconst 2, 1) := by decide +kernel
theorem d_La_line_26 : decode c_La_line 26 = .ok (.ireturn, 1) := by decide +kernel
theorem d_La_line_27 : decode c_La_line 27 = .ok (.iconst 0, 1) := by decide +kernel
theorem d_La_line_28 : decode c_La_line 28 = .ok (.ireturn, 1) := by decide +kernel
theorem d_La_close_0 : decode c_La_close 0 = .ok (.aload_n 0, 1) := by decide +kernel
theorem d_La_close_1 : decode c_La_close 1 = .ok (.iload_n 1, 1) := by decide +kernel
theorem d_La_close_2 : decode c_La_close 2 = .ok (.iload_n 2, 1) := by decide +kernel
theorem d_La_close_3 : decode c_La_close 3 = .ok (.invokevirtual 36, 3) := by decide +kernel
theorem d_La_close_6 : decode c_La_close 6 = .ok (.goto 6, 3) := by decide +kernel
theorem d_La_close_9 : decode c_La_close 9 = .ok (.astore_n 3, 1) := by decide +kernel
theorem d_La_close_10 : decode c_La_close 10 = .ok (.iconst 1, 1) := by decide +kernel
theorem d_La_close_11 : decode c_La_close 11 = .ok (.ireturn, 1) := by decide +kernel
theorem d_La_close_12 : decode c_La_close 12 = .ok (.iconst 0, 1) := by decide +kernel
theorem d_La_close_13 : decode c_La_close 13 = .ok (.ireturn, 1) := by decide +kernel
theorem d_La_landmark_0 : decode c_La_landmark 0 = .ok (.aload 6, 2) := by decide +kernel
theorem d_La_landmark_2 : decode c_La_landmark 2 = .ok (.iconst 0, 1) := by decide +kernel
theorem d_La_landmark_3 : decode c_La_landmark 3 = .ok (.aload_n 0, 1) := by decide +kernel
theorem d_La_landmark_4 : decode c_La_landmark 4 = .ok (.iload_n 1, 1) := by decide +kernel
theorem d_La_landmark_5 : decode c_La_landmark 5 = .ok (.iload_n 2, 1) := by decide +kernel
theorem d_La_landmark_6 : decode c_La_landmark 6 = .ok (.lload_n 3, 1) := by decide +kernel
theorem d_La_landmark_7 : decode c_La_landmark 7 = .ok (.iload 5, 2) := by decide +kernel
theorem d_La_landmark_9 : decode c_La_landmark 9 = .ok (.invokevirtual 40, 3) := by decide +kernel
theorem d_La_landmark_12 : decode c_La_landmark 12 = .ok (.i2l, 1) := by decide +kernel
theorem d_La_landmark_13 : decode c_La_landmark 13 = .ok (.lastore, 1) := by decide +kernel
theorem d_La_landmark_14 : decode c_La_landmark 14 = .ok (.goto 19, 3) := by decide +kernel
theorem d_La_landmark_17 : decode c_La_landmark 17 = .ok (.astore 7, 2) := by decide +kernel
theorem d_La_landmark_19 : decode c_La_landmark 19 = .ok (.iconst 1, 1) := by decide +kernel
theorem d_La_landmark_20 : decode c_La_landmark 20 = .ok (.ireturn, 1) := by decide +kernel
theorem d_La_landmark_21 : decode c_La_landmark 21 = .ok (.astore 7, 2) := by decide +kernel
theorem d_La_landmark_23 : decode c_La_landmark 23 = .ok (.iconst 2, 1) := by decide +kernel
theorem d_La_landmark_24 : decode c_La_landmark 24 = .ok (.ireturn, 1) := by decide +kernel
theorem d_La_landmark_25 : decode c_La_landmark 25 = .ok (.astore 7, 2) := by decide +kernel
theorem d_La_landmark_27 : decode c_La_landmark 27 = .ok (.iconst 3, 1) := by decide +kernel
theorem d_La_landmark_28 : decode c_La_landmark 28 = .ok (.ireturn, 1) := by decide +kernel
theorem d_La_landmark_29 : decode c_La_landmark 29 = .ok (.astore 7, 2) := by decide +kernel
theorem d_La_landmark_31 : decode c_La_landmark 31 = .ok (.iconst 4, 1) := by decide +kernel
theorem d_La_landmark_32 : decode c_La_landmark 32 = .ok (.ireturn, 1) := by decide +kernel
theorem d_La_landmark_33 : decode c_La_landmark 33 = .ok (.iconst 0, 1) := by decide +kernel
theorem d_La_landmark_34 : decode c_La_landmark 34 = .ok (.ireturn, 1) := by decide +kernel
theorem d_La_meet_0 : decode c_La_meet 0 = .ok (.aload_n 0, 1) := by decide +kernel
theorem d_La_meet_1 : decode c_La_meet 1 = .ok (.iload_n 1, 1) := by decide +kernel
theorem d_La_meet_2 : decode c_La_meet 2 = .ok (.iload_n 2, 1) := by decide +kernel
theorem d_La_meet_3 : decode c_La_meet 3 = .ok (.iload_n 3, 1) := by decide +kernel
theorem d_La_meet_4 : decode c_La_meet 4 = .ok (.iload 4, 2) := by decide +kernel
theorem d_La_meet_6 : decode c_La_meet 6 = .ok (.invokevirtual 44, 3) := by decide +kernel
theorem d_La_meet_9 : decode c_La_meet 9 = .ok (.goto 19, 3) := by decide +kernel
theorem d_La_meet_12 : decode c_La_meet 12 = .ok (.astore 5, 2) := by decide +kernel
theorem d_La_meet_14 : decode c_La_meet 14 = .ok (.iconst 1, 1) := by decide +kernel
theorem d_La_meet_15 : decode c_La_meet 15 = .ok (.ireturn, 1) := by decide +kernel
theorem d_La_meet_16 : decode c_La_meet 16 = .ok (.astore 5, 2) := by decide +kernel
theorem d_La_meet_18 : decode c_La_meet 18 = .ok (.iconst 2, 1) := by decide +kernel
theorem d_La_meet_19 : decode c_La_meet 19 = .ok (.ireturn, 1) := by decide +kernel
theorem d_La_meet_20 : decode c_La_meet 20 = .ok (.astore 5, 2) := by decide +kernel
theorem d_La_meet_22 : decode c_La_meet 22 = .ok (.iconst 3, 1) := by decide +kernel
theorem d_La_meet_23 : decode c_La_meet 23 = .ok (.ireturn, 1) := by decide +kernel
theorem d_La_meet_24 : decode c_La_meet 24 = .ok (.astore 5, 2) := by decide +kernel
theorem d_La_meet_26 : decode c_La_meet 26 = .ok (.iconst 4, 1) := by decide +kernel
theorem d_La_meet_27 : decode c_La_meet 27 = .ok (.ireturn, 1) := by decide +kernel
theorem d_La_meet_28 : decode c_La_meet 28 = .ok (.iconst 0, 1) := by decide +kernel
theorem d_La_meet_29 : decode c_La_meet 29 = .ok (.ireturn, 1) := by decide +kernel
theorem d_La_corner_0 : decode c_La_corner 0 = .ok (.aload_n 3, 1) := by decide +kernel
theorem d_La_corner_1 : decode c_La_corner 1 = .ok (.iconst 0, 1) := by decide +kernel
theorem d_La_corner_2 : decode c_La_corner 2 = .ok (.aload_n 0, 1) := by decide +kernel
theorem d_La_corner_3 : decode c_La_corner 3 = .ok (.iload_n 1, 1) := by decide +kernel
theorem d_La_corner_4 : decode c_La_corner 4 = .ok (.iload_n 2, 1) := by decide +kernel
theorem d_La_corner_5 : decode c_La_corner 5 = .ok (.invokevirtual 48, 3) := by decide +kernel
theorem d_La_corner_8 : decode c_La_corner 8 = .ok (.i2l, 1) := by decide +kernel
theorem d_La_corner_9 : decode c_La_corner 9 = .ok (.lastore, 1) := by decide +kernel
theorem d_La_corner_10 : decode c_La_corner 10 = .ok (.goto 7, 3) := by decide +kernel
theorem d_La_corner_13 : decode c_La_corner 13 = .ok (.astore 4, 2) := by decide +kernel
theorem d_La_corner_15 : decode c_La_corner 15 = .ok (.iconst 1, 1) := by decide +kernel
theorem d_La_corner_16 : decode c_La_corner 16 = .ok (.ireturn, 1) := by decide +kernel
theorem d_La_corner_17 : decode c_La_corner 17 = .ok (.iconst 0, 1) := by decide +kernel
theorem d_La_corner_18 : decode c_La_corner 18 = .ok (.ireturn, 1) := by decide +kernel
theorem d_La_post_0 : decode c_La_post 0 = .ok (.aload_n 3, 1) := by decide +kernel
theorem d_La_post_1 : decode c_La_post 1 = .ok (.iconst 0, 1) := by decide +kernel
theorem d_La_post_2 : decode c_La_post 2 = .ok (.aload_n 0, 1) := by decide +kernel
theorem d_La_post_3 : decode c_La_post 3 = .ok (.iload_n 1, 1) := by decide +kernel
theorem d_La_post_4 : decode c_La_post 4 = .ok (.iload_n 2, 1) := by decide +kernel
theorem d_La_post_5 : decode c_La_post 5 = .ok (.invokevirtual 52, 3) := by decide +kernel
theorem d_La_post_8 : decode c_La_post 8 = .ok (.i2l, 1) := by decide +kernel
theorem d_La_post_9 : decode c_La_post 9 = .ok (.lastore, 1) := by decide +kernel
theorem d_La_post_10 : decode c_La_post 10 = .ok (.goto 11, 3) := by decide +kernel
theorem d_La_post_13 : decode c_La_post 13 = .ok (.astore 4, 2) := by decide +kernel
theorem d_La_post_15 : decode c_La_post 15 = .ok (.iconst 1, 1) := by decide +kernel
theorem d_La_post_16 : decode c_La_post 16 = .ok (.ireturn, 1) := by decide +kernel
theorem d_La_post_17 : decode c_La_post 17 = .ok (.astore 4, 2) := by decide +kernel
theorem d_La_post_19 : decode c_La_post 19 = .ok (.iconst 2, 1) := by decide +kernel
theorem d_La_post_20 : decode c_La_post 20 = .ok (.ireturn, 1) := by decide +kernel
theorem d_La_post_21 : decode c_La_post 21 = .ok (.iconst 0, 1) := by decide +kernel
theorem d_La_post_22 : decode c_La_post 22 = .ok (.ireturn, 1) := by decide +kernel
theorem d_La_near_0 : decode c_La_near 0 = .ok (.aload_n 3, 1) := by decide +kernel
theorem d_La_near_1 : decode c_La_near 1 = .ok (.iconst 0, 1) := by decide +kernel
theorem d_La_near_2 : decode c_La_near 2 = .ok (.aload_n 0, 1) := by decide +kernel
theorem d_La_near_3 : decode c_La_near 3 = .ok (.iload_n 1, 1) := by decide +kernel
theorem d_La_near_4 : decode c_La_near 4 = .ok (.iload_n 2, 1) := by decide +kernel
theorem d_La_near_5 : decode c_La_near 5 = .ok (.invokevirtual 55, 3) := by decide +kernel
theorem d_La_near_8 : decode c_La_near 8 = .ok (.i2l, 1) := by decide +kernel
theorem d_La_near_9 : decode c_La_near 9 = .ok (.lastore, 1) := by decide +kernel
theorem d_La_near_10 : decode c_La_near 10 = .ok (.goto 7, 3) := by decide +kernel
theorem d_La_near_13 : decode c_La_near 13 = .ok (.astore 4, 2) := by decide +kernel
theorem d_La_near_15 : decode c_La_near 15 = .ok (.iconst 1, 1) := by decide +kernel
theorem d_La_near_16 : decode c_La_near 16 = .ok (.ireturn, 1) := by decide +kernel
theorem d_La_near_17 : decode c_La_near 17 = .ok (.iconst 0, 1) := by decide +kernel
theorem d_La_near_18 : decode c_La_near 18 = .ok (.ireturn, 1) := by decide +kernel
theorem d_La_word_0 : decode c_La_word 0 = .ok (.aload 4, 2) := by decide +kernel
theorem d_La_word_2 : decode c_La_word 2 = .ok (.iconst 0, 1) := by decide +kernel
theorem d_La_word_3 : decode c_La_word 3 = .ok (.aload_n 0, 1) := by decide +kernel
theorem d_La_word_4 : decode c_La_word 4 = .ok (.lload_n 1, 1) := by decide +kernel
theorem d_La_word_5 : decode c_La_word 5 = .ok (.iload_n 3, 1) := by decide +kernel
theorem d_La_word_6 : decode c_La_word 6 = .ok (.invokevirtual 58, 3) := by decide +kernel
theorem d_La_word_9 : decode c_La_word 9 = .ok (.i2l, 1) := by decide +kernel
theorem d_La_word_10 : decode c_La_word 10 = .ok (.lastore, 1) := by decide +kernel
theorem d_La_word_11 : decode c_La_word 11 = .ok (.goto 11, 3) := by decide +kernel
theorem d_La_word_14 : decode c_La_word 14 = .ok (.astore 5, 2) := by decide +kernel
theorem d_La_word_16 : decode c_La_word 16 = .ok (.iconst 1, 1) := by decide +kernel
theorem d_La_word_17 : decode c_La_word 17 = .ok (.ireturn, 1) := by decide +kernel
theorem d_La_word_18 : decode c_La_word 18 = .ok (.astore 5, 2) := by decide +kernel
theorem d_La_word_20 : decode c_La_word 20 = .ok (.iconst 2, 1) := by decide +kernel
theorem d_La_word_21 : decode c_La_word 21 = .ok (.ireturn, 1) := by decide +kernel
theorem d_La_word_22 : decode c_La_word 22 = .ok (.iconst 0, 1) := by decide +kernel
theorem d_La_word_23 : decode c_La_word 23 = .ok (.ireturn, 1) := by decide +kernel
theorem d_La_find_0 : decode c_La_find 0 = .ok (.aload_n 2, 1) := by decide +kernel
theorem d_La_find_1 : decode c_La_find 1 = .ok (.iconst 0, 1) := by decide +kernel
theorem d_La_find_2 : decode c_La_find 2 = .ok (.aload_n 0, 1) := by decide +kernel
theorem d_La_find_3 : decode c_La_find 3 = .ok (.iload_n 1, 1) := by decide +kernel
theorem d_La_find_4 : decode c_La_find 4 = .ok (.invokevirtual 62, 3) := by decide +kernel
theorem d_La_find_7 : decode c_La_find 7 = .ok (.i2l, 1) := by decide +kernel
theorem d_La_find_8 : decode c_La_find 8 = .ok (.lastore, 1) := by decide +kernel
theorem d_La_find_9 : decode c_La_find 9 = .ok (.goto 9, 3) := by decide +kernel
theorem d_La_find_12 : decode c_La_find 12 = .ok (.astore_n 3, 1) := by decide +kernel
theorem d_La_find_13 : decode c_La_find 13 = .ok (.iconst 1, 1) := by decide +kernel
theorem d_La_find_14 : decode c_La_find 14 = .ok (.ireturn, 1) := by decide +kernel
theorem d_La_find_15 : decode c_La_find 15 = .ok (.astore_n 3, 1) := by decide +kernel
theorem d_La_find_16 : decode c_La_find 16 = .ok (.iconst 2, 1) := by decide +kernel
theorem d_La_find_17 : decode c_La_find 17 = .ok (.ireturn, 1) := by decide +kernel
theorem d_La_find_18 : decode c_La_find 18 = .ok (.iconst 0, 1) := by decide +kernel
theorem d_La_find_19 : decode c_La_find 19 = .ok (.ireturn, 1) := by decide +kernel
theorem d_La_place_0 : decode c_La_place 0 = .ok (.aload_n 3, 1) := by decide +kernel
theorem d_La_place_1 : decode c_La_place 1 = .ok (.iconst 0, 1) := by decide +kernel
theorem d_La_place_2 : decode c_La_place 2 = .ok (.aload_n 0, 1) := by decide +kernel
theorem d_La_place_3 : decode c_La_place 3 = .ok (.iload_n 1, 1) := by decide +kernel
theorem d_La_place_4 : decode c_La_place 4 = .ok (.iload_n 2, 1) := by decide +kernel
theorem d_La_place_5 : decode c_La_place 5 = .ok (.invokevirtual 65, 3) := by decide +kernel
theorem d_La_place_8 : decode c_La_place 8 = .ok (.i2l, 1) := by decide +kernel
theorem d_La_place_9 : decode c_La_place 9 = .ok (.lastore, 1) := by decide +kernel
theorem d_La_place_10 : decode c_La_place 10 = .ok (.goto 11, 3) := by decide +kernel
theorem d_La_place_13 : decode c_La_place 13 = .ok (.astore 4, 2) := by decide +kernel
theorem d_La_place_15 : decode c_La_place 15 = .ok (.iconst 1, 1) := by decide +kernel
theorem d_La_place_16 : decode c_La_place 16 = .ok (.ireturn, 1) := by decide +kernel
theorem d_La_place_17 : decode c_La_place 17 = .ok (.astore 4, 2) := by decide +kernel
theorem d_La_place_19 : decode c_La_place 19 = .ok (.iconst 2, 1) := by decide +kernel
theorem d_La_place_20 : decode c_La_place 20 = .ok (.ireturn, 1) := by decide +kernel
theorem d_La_place_21 : decode c_La_place 21 = .ok (.iconst 0, 1) := by decide +kernel
theorem d_La_place_22 : decode c_La_place 22 = .ok (.ireturn, 1) := by decide +kernel
theorem d_La_law_0 : decode c_La_law 0 = .ok (.new 8, 3) := by decide +kernel
