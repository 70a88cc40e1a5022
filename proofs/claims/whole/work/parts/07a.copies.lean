theorem dX0_clear_0 : decode cX0_clear 0 = .ok (.aload_n 0, 1) := by decide +kernel
theorem dX0_clear_1 : decode cX0_clear 1 = .ok (.iconst 0, 1) := by decide +kernel
theorem dX0_clear_2 : decode cX0_clear 2 = .ok (.putfield 22, 3) := by decide +kernel
theorem dX0_clear_5 : decode cX0_clear 5 = .ok (.return_, 1) := by decide +kernel
theorem dX0_nameAt_0 : decode cX0_nameAt 0 = .ok (.iload_n 1, 1) := by decide +kernel
theorem dX0_nameAt_1 : decode cX0_nameAt 1 = .ok (.ifCond .lt 20, 3) := by decide +kernel
theorem dX0_nameAt_4 : decode cX0_nameAt 4 = .ok (.iload_n 1, 1) := by decide +kernel
theorem dX0_nameAt_5 : decode cX0_nameAt 5 = .ok (.aload_n 0, 1) := by decide +kernel
theorem dX0_nameAt_6 : decode cX0_nameAt 6 = .ok (.getfield 22, 3) := by decide +kernel
theorem dX0_nameAt_9 : decode cX0_nameAt 9 = .ok (.if_icmp .ge 12, 3) := by decide +kernel
theorem dX0_nameAt_12 : decode cX0_nameAt 12 = .ok (.aload_n 0, 1) := by decide +kernel
theorem dX0_nameAt_13 : decode cX0_nameAt 13 = .ok (.getfield 11, 3) := by decide +kernel
theorem dX0_nameAt_16 : decode cX0_nameAt 16 = .ok (.iload_n 1, 1) := by decide +kernel
theorem dX0_nameAt_17 : decode cX0_nameAt 17 = .ok (.iaload, 1) := by decide +kernel
theorem dX0_nameAt_18 : decode cX0_nameAt 18 = .ok (.goto 4, 3) := by decide +kernel
theorem dX0_nameAt_21 : decode cX0_nameAt 21 = .ok (.iconst (-1), 1) := by decide +kernel
theorem dX0_nameAt_22 : decode cX0_nameAt 22 = .ok (.ireturn, 1) := by decide +kernel
theorem dX0_placeOf_0 : decode cX0_placeOf 0 = .ok (.iconst 0, 1) := by decide +kernel
theorem dX0_placeOf_1 : decode cX0_placeOf 1 = .ok (.istore_n 2, 1) := by decide +kernel
theorem dX0_placeOf_2 : decode cX0_placeOf 2 = .ok (.iload_n 2, 1) := by decide +kernel
theorem dX0_placeOf_3 : decode cX0_placeOf 3 = .ok (.aload_n 0, 1) := by decide +kernel
theorem dX0_placeOf_4 : decode cX0_placeOf 4 = .ok (.getfield 22, 3) := by decide +kernel
theorem dX0_placeOf_7 : decode cX0_placeOf 7 = .ok (.if_icmp .ge 21, 3) := by decide +kernel
theorem dX0_placeOf_10 : decode cX0_placeOf 10 = .ok (.aload_n 0, 1) := by decide +kernel
theorem dX0_placeOf_11 : decode cX0_placeOf 11 = .ok (.getfield 11, 3) := by decide +kernel
theorem dX0_placeOf_14 : decode cX0_placeOf 14 = .ok (.iload_n 2, 1) := by decide +kernel
theorem dX0_placeOf_15 : decode cX0_placeOf 15 = .ok (.iaload, 1) := by decide +kernel
theorem dX0_placeOf_16 : decode cX0_placeOf 16 = .ok (.iload_n 1, 1) := by decide +kernel
theorem dX0_placeOf_17 : decode cX0_placeOf 17 = .ok (.if_icmp .ne 5, 3) := by decide +kernel
theorem dX0_placeOf_20 : decode cX0_placeOf 20 = .ok (.iload_n 2, 1) := by decide +kernel
theorem dX0_placeOf_21 : decode cX0_placeOf 21 = .ok (.ireturn, 1) := by decide +kernel
theorem dX0_placeOf_22 : decode cX0_placeOf 22 = .ok (.iinc 2 1, 3) := by decide +kernel
theorem dX0_placeOf_25 : decode cX0_placeOf 25 = .ok (.goto (-23), 3) := by decide +kernel
theorem dX0_placeOf_28 : decode cX0_placeOf 28 = .ok (.iconst (-1), 1) := by decide +kernel
theorem dX0_placeOf_29 : decode cX0_placeOf 29 = .ok (.ireturn, 1) := by decide +kernel
theorem dX0_add_0 : decode cX0_add 0 = .ok (.aload_n 0, 1) := by decide +kernel
theorem dX0_add_1 : decode cX0_add 1 = .ok (.getfield 22, 3) := by decide +kernel
theorem dX0_add_4 : decode cX0_add 4 = .ok (.iconst 4, 1) := by decide +kernel
theorem dX0_add_5 : decode cX0_add 5 = .ok (.if_icmp .ge 13, 3) := by decide +kernel
theorem dX0_add_8 : decode cX0_add 8 = .ok (.aload_n 0, 1) := by decide +kernel
theorem dX0_add_9 : decode cX0_add 9 = .ok (.dup, 1) := by decide +kernel
theorem dX0_add_10 : decode cX0_add 10 = .ok (.getfield 22, 3) := by decide +kernel
theorem dX0_add_13 : decode cX0_add 13 = .ok (.iconst 1, 1) := by decide +kernel
theorem dX0_add_14 : decode cX0_add 14 = .ok (.iadd, 1) := by decide +kernel
theorem dX0_add_15 : decode cX0_add 15 = .ok (.putfield 22, 3) := by decide +kernel
theorem dX0_add_18 : decode cX0_add 18 = .ok (.aload_n 0, 1) := by decide +kernel
theorem dX0_add_19 : decode cX0_add 19 = .ok (.getfield 22, 3) := by decide +kernel
theorem dX0_add_22 : decode cX0_add 22 = .ok (.iconst 1, 1) := by decide +kernel
theorem dX0_add_23 : decode cX0_add 23 = .ok (.isub, 1) := by decide +kernel
theorem dX0_add_24 : decode cX0_add 24 = .ok (.istore 6, 2) := by decide +kernel
theorem dX0_add_26 : decode cX0_add 26 = .ok (.aload_n 0, 1) := by decide +kernel
theorem dX0_add_27 : decode cX0_add 27 = .ok (.getfield 11, 3) := by decide +kernel
theorem dX0_add_30 : decode cX0_add 30 = .ok (.iload 6, 2) := by decide +kernel
theorem dX0_add_32 : decode cX0_add 32 = .ok (.iload_n 1, 1) := by decide +kernel
theorem dX0_add_33 : decode cX0_add 33 = .ok (.iastore, 1) := by decide +kernel
theorem dX0_add_34 : decode cX0_add 34 = .ok (.aload_n 0, 1) := by decide +kernel
theorem dX0_add_35 : decode cX0_add 35 = .ok (.getfield 15, 3) := by decide +kernel
theorem dX0_add_38 : decode cX0_add 38 = .ok (.iload 6, 2) := by decide +kernel
theorem dX0_add_40 : decode cX0_add 40 = .ok (.lload_n 2, 1) := by decide +kernel
theorem dX0_add_41 : decode cX0_add 41 = .ok (.lastore, 1) := by decide +kernel
theorem dX0_add_42 : decode cX0_add 42 = .ok (.aload_n 0, 1) := by decide +kernel
theorem dX0_add_43 : decode cX0_add 43 = .ok (.getfield 19, 3) := by decide +kernel
theorem dX0_add_46 : decode cX0_add 46 = .ok (.iload 6, 2) := by decide +kernel
theorem dX0_add_48 : decode cX0_add 48 = .ok (.lload 4, 2) := by decide +kernel
theorem dX0_add_50 : decode cX0_add 50 = .ok (.lastore, 1) := by decide +kernel
theorem dX0_add_51 : decode cX0_add 51 = .ok (.iload 6, 2) := by decide +kernel
theorem dX0_add_53 : decode cX0_add 53 = .ok (.ireturn, 1) := by decide +kernel
theorem dX0_moveToFront_0 : decode cX0_moveToFront 0 = .ok (.aload_n 0, 1) := by decide +kernel
theorem dX0_moveToFront_1 : decode cX0_moveToFront 1 = .ok (.getfield 11, 3) := by decide +kernel
theorem dX0_moveToFront_4 : decode cX0_moveToFront 4 = .ok (.iload_n 1, 1) := by decide +kernel
theorem dX0_moveToFront_5 : decode cX0_moveToFront 5 = .ok (.iaload, 1) := by decide +kernel
theorem dX0_moveToFront_6 : decode cX0_moveToFront 6 = .ok (.istore_n 2, 1) := by decide +kernel
theorem dX0_moveToFront_7 : decode cX0_moveToFront 7 = .ok (.aload_n 0, 1) := by decide +kernel
theorem dX0_moveToFront_8 : decode cX0_moveToFront 8 = .ok (.getfield 15, 3) := by decide +kernel
theorem dX0_moveToFront_11 : decode cX0_moveToFront 11 = .ok (.iload_n 1, 1) := by decide +kernel
theorem dX0_moveToFront_12 : decode cX0_moveToFront 12 = .ok (.laload, 1) := by decide +kernel
theorem dX0_moveToFront_13 : decode cX0_moveToFront 13 = .ok (.lstore_n 3, 1) := by decide +kernel
theorem dX0_moveToFront_14 : decode cX0_moveToFront 14 = .ok (.aload_n 0, 1) := by decide +kernel
theorem dX0_moveToFront_15 : decode cX0_moveToFront 15 = .ok (.getfield 19, 3) := by decide +kernel
theorem dX0_moveToFront_18 : decode cX0_moveToFront 18 = .ok (.iload_n 1, 1) := by decide +kernel
theorem dX0_moveToFront_19 : decode cX0_moveToFront 19 = .ok (.laload, 1) := by decide +kernel
theorem dX0_moveToFront_20 : decode cX0_moveToFront 20 = .ok (.lstore 5, 2) := by decide +kernel
theorem dX0_moveToFront_22 : decode cX0_moveToFront 22 = .ok (.iload_n 1, 1) := by decide +kernel
theorem dX0_moveToFront_23 : decode cX0_moveToFront 23 = .ok (.istore 7, 2) := by decide +kernel
theorem dX0_moveToFront_25 : decode cX0_moveToFront 25 = .ok (.iload 7, 2) := by decide +kernel
theorem dX0_moveToFront_27 : decode cX0_moveToFront 27 = .ok (.ifCond .le 57, 3) := by decide +kernel
theorem dX0_moveToFront_30 : decode cX0_moveToFront 30 = .ok (.aload_n 0, 1) := by decide +kernel
theorem dX0_moveToFront_31 : decode cX0_moveToFront 31 = .ok (.getfield 11, 3) := by decide +kernel
theorem dX0_moveToFront_34 : decode cX0_moveToFront 34 = .ok (.iload 7, 2) := by decide +kernel
theorem dX0_moveToFront_36 : decode cX0_moveToFront 36 = .ok (.aload_n 0, 1) := by decide +kernel
theorem dX0_moveToFront_37 : decode cX0_moveToFront 37 = .ok (.getfield 11, 3) := by decide +kernel
theorem dX0_moveToFront_40 : decode cX0_moveToFront 40 = .ok (.iload 7, 2) := by decide +kernel
theorem dX0_moveToFront_42 : decode cX0_moveToFront 42 = .ok (.iconst 1, 1) := by decide +kernel
theorem dX0_moveToFront_43 : decode cX0_moveToFront 43 = .ok (.isub, 1) := by decide +kernel
theorem dX0_moveToFront_44 : decode cX0_moveToFront 44 = .ok (.iaload, 1) := by decide +kernel
theorem dX0_moveToFront_45 : decode cX0_moveToFront 45 = .ok (.iastore, 1) := by decide +kernel
theorem dX0_moveToFront_46 : decode cX0_moveToFront 46 = .ok (.aload_n 0, 1) := by decide +kernel
theorem dX0_moveToFront_47 : decode cX0_moveToFront 47 = .ok (.getfield 15, 3) := by decide +kernel
theorem dX0_moveToFront_50 : decode cX0_moveToFront 50 = .ok (.iload 7, 2) := by decide +kernel
theorem dX0_moveToFront_52 : decode cX0_moveToFront 52 = .ok (.aload_n 0, 1) := by decide +kernel
theorem dX0_moveToFront_53 : decode cX0_moveToFront 53 = .ok (.getfield 15, 3) := by decide +kernel
theorem dX0_moveToFront_56 : decode cX0_moveToFront 56 = .ok (.iload 7, 2) := by decide +kernel
theorem dX0_moveToFront_58 : decode cX0_moveToFront 58 = .ok (.iconst 1, 1) := by decide +kernel
theorem dX0_moveToFront_59 : decode cX0_moveToFront 59 = .ok (.isub, 1) := by decide +kernel
theorem dX0_moveToFront_60 : decode cX0_moveToFront 60 = .ok (.laload, 1) := by decide +kernel
theorem dX0_moveToFront_61 : decode cX0_moveToFront 61 = .ok (.lastore, 1) := by decide +kernel
theorem dX0_moveToFront_62 : decode cX0_moveToFront 62 = .ok (.aload_n 0, 1) := by decide +kernel
theorem dX0_moveToFront_63 : decode cX0_moveToFront 63 = .ok (.getfield 19, 3) := by decide +kernel
theorem dX0_moveToFront_66 : decode cX0_moveToFront 66 = .ok (.iload 7, 2) := by decide +kernel
theorem dX0_moveToFront_68 : decode cX0_moveToFront 68 = .ok (.aload_n 0, 1) := by decide +kernel
theorem dX0_moveToFront_69 : decode cX0_moveToFront 69 = .ok (.getfield 19, 3) := by decide +kernel
theorem dX0_moveToFront_72 : decode cX0_moveToFront 72 = .ok (.iload 7, 2) := by decide +kernel
theorem dX0_moveToFront_74 : decode cX0_moveToFront 74 = .ok (.iconst 1, 1) := by decide +kernel
theorem dX0_moveToFront_75 : decode cX0_moveToFront 75 = .ok (.isub, 1) := by decide +kernel
theorem dX0_moveToFront_76 : decode cX0_moveToFront 76 = .ok (.laload, 1) := by decide +kernel
theorem dX0_moveToFront_77 : decode cX0_moveToFront 77 = .ok (.lastore, 1) := by decide +kernel
theorem dX0_moveToFront_78 : decode cX0_moveToFront 78 = .ok (.iinc 7 (-1), 3) := by decide +kernel
theorem dX0_moveToFront_81 : decode cX0_moveToFront 81 = .ok (.goto (-56), 3) := by decide +kernel
theorem dX0_moveToFront_84 : decode cX0_moveToFront 84 = .ok (.aload_n 0, 1) := by decide +kernel
theorem dX0_moveToFront_85 : decode cX0_moveToFront 85 = .ok (.getfield 11, 3) := by decide +kernel
theorem dX0_moveToFront_88 : decode cX0_moveToFront 88 = .ok (.iconst 0, 1) := by decide +kernel
theorem dX0_moveToFront_89 : decode cX0_moveToFront 89 = .ok (.iload_n 2, 1) := by decide +kernel
theorem dX0_moveToFront_90 : decode cX0_moveToFront 90 = .ok (.iastore, 1) := by decide +kernel
theorem dX0_moveToFront_91 : decode cX0_moveToFront 91 = .ok (.aload_n 0, 1) := by decide +kernel
theorem dX0_moveToFront_92 : decode cX0_moveToFront 92 = .ok (.getfield 15, 3) := by decide +kernel
theorem dX0_moveToFront_95 : decode cX0_moveToFront 95 = .ok (.iconst 0, 1) := by decide +kernel
theorem dX0_moveToFront_96 : decode cX0_moveToFront 96 = .ok (.lload_n 3, 1) := by decide +kernel
theorem dX0_moveToFront_97 : decode cX0_moveToFront 97 = .ok (.lastore, 1) := by decide +kernel
theorem dX0_moveToFront_98 : decode cX0_moveToFront 98 = .ok (.aload_n 0, 1) := by decide +kernel
theorem dX0_moveToFront_99 : decode cX0_moveToFront 99 = .ok (.getfield 19, 3) := by decide +kernel
theorem dX0_moveToFront_102 : decode cX0_moveToFront 102 = .ok (.iconst 0, 1) := by decide +kernel
theorem dX0_moveToFront_103 : decode cX0_moveToFront 103 = .ok (.lload 5, 2) := by decide +kernel
theorem dX0_moveToFront_105 : decode cX0_moveToFront 105 = .ok (.lastore, 1) := by decide +kernel
theorem dX0_moveToFront_106 : decode cX0_moveToFront 106 = .ok (.return_, 1) := by decide +kernel
theorem kw24 : Cond.fieldLink RX0 22 RX0 "count" "I" ∈ gG := inG 80 (by decide +kernel) (by decide +kernel)
theorem kw25 : Cond.fieldLink RX0 11 RX0 "names" "[I" ∈ gG := inG 75 (by decide +kernel) (by decide +kernel)
theorem kw26 : Cond.fieldLink RX0 15 RX0 "firsts" "[J" ∈ gG := inG 76 (by decide +kernel) (by decide +kernel)
theorem kw27 : Cond.fieldLink RX0 19 RX0 "seconds" "[J" ∈ gG := inG 78 (by decide +kernel) (by decide +kernel)
