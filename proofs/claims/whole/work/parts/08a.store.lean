theorem dX3_markChanged_0 : decode cX3_markChanged 0 = .ok (.aload_n 0, 1) := by decide +kernel
theorem dX3_markChanged_1 : decode cX3_markChanged 1 = .ok (.getfield 22, 3) := by decide +kernel
theorem dX3_markChanged_4 : decode cX3_markChanged 4 = .ok (.getfield 60, 3) := by decide +kernel
theorem dX3_markChanged_7 : decode cX3_markChanged 7 = .ok (.iconst 0, 1) := by decide +kernel
theorem dX3_markChanged_8 : decode cX3_markChanged 8 = .ok (.laload, 1) := by decide +kernel
theorem dX3_markChanged_9 : decode cX3_markChanged 9 = .ok (.ldc2_w 63, 3) := by decide +kernel
theorem dX3_markChanged_12 : decode cX3_markChanged 12 = .ok (.land, 1) := by decide +kernel
theorem dX3_markChanged_13 : decode cX3_markChanged 13 = .ok (.lconst 0, 1) := by decide +kernel
theorem dX3_markChanged_14 : decode cX3_markChanged 14 = .ok (.lcmp, 1) := by decide +kernel
theorem dX3_markChanged_15 : decode cX3_markChanged 15 = .ok (.ifCond .ne 40, 3) := by decide +kernel
theorem dX3_markChanged_18 : decode cX3_markChanged 18 = .ok (.aload_n 0, 1) := by decide +kernel
theorem dX3_markChanged_19 : decode cX3_markChanged 19 = .ok (.getfield 9, 3) := by decide +kernel
theorem dX3_markChanged_22 : decode cX3_markChanged 22 = .ok (.aload_n 0, 1) := by decide +kernel
theorem dX3_markChanged_23 : decode cX3_markChanged 23 = .ok (.getfield 28, 3) := by decide +kernel
theorem dX3_markChanged_26 : decode cX3_markChanged 26 = .ok (.getfield 65, 3) := by decide +kernel
theorem dX3_markChanged_29 : decode cX3_markChanged 29 = .ok (.iload_n 1, 1) := by decide +kernel
theorem dX3_markChanged_30 : decode cX3_markChanged 30 = .ok (.invokestatic 68, 3) := by decide +kernel
theorem dX3_markChanged_33 : decode cX3_markChanged 33 = .ok (.dup2, 1) := by decide +kernel
theorem dX3_markChanged_34 : decode cX3_markChanged 34 = .ok (.laload, 1) := by decide +kernel
theorem dX3_markChanged_35 : decode cX3_markChanged 35 = .ok (.ldc2_w 63, 3) := by decide +kernel
theorem dX3_markChanged_38 : decode cX3_markChanged 38 = .ok (.lor, 1) := by decide +kernel
theorem dX3_markChanged_39 : decode cX3_markChanged 39 = .ok (.lastore, 1) := by decide +kernel
theorem dX3_markChanged_40 : decode cX3_markChanged 40 = .ok (.aload_n 0, 1) := by decide +kernel
theorem dX3_markChanged_41 : decode cX3_markChanged 41 = .ok (.getfield 22, 3) := by decide +kernel
theorem dX3_markChanged_44 : decode cX3_markChanged 44 = .ok (.getfield 60, 3) := by decide +kernel
theorem dX3_markChanged_47 : decode cX3_markChanged 47 = .ok (.iconst 0, 1) := by decide +kernel
theorem dX3_markChanged_48 : decode cX3_markChanged 48 = .ok (.dup2, 1) := by decide +kernel
theorem dX3_markChanged_49 : decode cX3_markChanged 49 = .ok (.laload, 1) := by decide +kernel
theorem dX3_markChanged_50 : decode cX3_markChanged 50 = .ok (.ldc2_w 63, 3) := by decide +kernel
theorem dX3_markChanged_53 : decode cX3_markChanged 53 = .ok (.lor, 1) := by decide +kernel
theorem dX3_markChanged_54 : decode cX3_markChanged 54 = .ok (.lastore, 1) := by decide +kernel
theorem dX3_markChanged_55 : decode cX3_markChanged 55 = .ok (.return_, 1) := by decide +kernel
theorem dX3_lookForDescriptor_0 : decode cX3_lookForDescriptor 0 = .ok (.aload_n 0, 1) := by decide +kernel
theorem dX3_lookForDescriptor_1 : decode cX3_lookForDescriptor 1 = .ok (.getfield 18, 3) := by decide +kernel
theorem dX3_lookForDescriptor_4 : decode cX3_lookForDescriptor 4 = .ok (.iload_n 1, 1) := by decide +kernel
theorem dX3_lookForDescriptor_5 : decode cX3_lookForDescriptor 5 = .ok (.invokevirtual 88, 3) := by decide +kernel
theorem dX3_lookForDescriptor_8 : decode cX3_lookForDescriptor 8 = .ok (.istore_n 3, 1) := by decide +kernel
theorem dX3_lookForDescriptor_9 : decode cX3_lookForDescriptor 9 = .ok (.iload_n 3, 1) := by decide +kernel
theorem dX3_lookForDescriptor_10 : decode cX3_lookForDescriptor 10 = .ok (.iconst (-1), 1) := by decide +kernel
theorem dX3_lookForDescriptor_11 : decode cX3_lookForDescriptor 11 = .ok (.if_icmp .eq 31, 3) := by decide +kernel
theorem dX3_lookForDescriptor_14 : decode cX3_lookForDescriptor 14 = .ok (.aload_n 0, 1) := by decide +kernel
theorem dX3_lookForDescriptor_15 : decode cX3_lookForDescriptor 15 = .ok (.getfield 28, 3) := by decide +kernel
theorem dX3_lookForDescriptor_18 : decode cX3_lookForDescriptor 18 = .ok (.aload_n 0, 1) := by decide +kernel
theorem dX3_lookForDescriptor_19 : decode cX3_lookForDescriptor 19 = .ok (.getfield 18, 3) := by decide +kernel
theorem dX3_lookForDescriptor_22 : decode cX3_lookForDescriptor 22 = .ok (.getfield 60, 3) := by decide +kernel
theorem dX3_lookForDescriptor_25 : decode cX3_lookForDescriptor 25 = .ok (.iload_n 3, 1) := by decide +kernel
theorem dX3_lookForDescriptor_26 : decode cX3_lookForDescriptor 26 = .ok (.laload, 1) := by decide +kernel
theorem dX3_lookForDescriptor_27 : decode cX3_lookForDescriptor 27 = .ok (.aload_n 0, 1) := by decide +kernel
theorem dX3_lookForDescriptor_28 : decode cX3_lookForDescriptor 28 = .ok (.getfield 18, 3) := by decide +kernel
theorem dX3_lookForDescriptor_31 : decode cX3_lookForDescriptor 31 = .ok (.getfield 92, 3) := by decide +kernel
theorem dX3_lookForDescriptor_34 : decode cX3_lookForDescriptor 34 = .ok (.iload_n 3, 1) := by decide +kernel
theorem dX3_lookForDescriptor_35 : decode cX3_lookForDescriptor 35 = .ok (.laload, 1) := by decide +kernel
theorem dX3_lookForDescriptor_36 : decode cX3_lookForDescriptor 36 = .ok (.invokevirtual 95, 3) := by decide +kernel
theorem dX3_lookForDescriptor_39 : decode cX3_lookForDescriptor 39 = .ok (.goto 63, 3) := by decide +kernel
theorem dX3_lookForDescriptor_42 : decode cX3_lookForDescriptor 42 = .ok (.aload_n 0, 1) := by decide +kernel
theorem dX3_lookForDescriptor_43 : decode cX3_lookForDescriptor 43 = .ok (.getfield 9, 3) := by decide +kernel
theorem dX3_lookForDescriptor_46 : decode cX3_lookForDescriptor 46 = .ok (.iconst 2, 1) := by decide +kernel
theorem dX3_lookForDescriptor_47 : decode cX3_lookForDescriptor 47 = .ok (.iload_n 1, 1) := by decide +kernel
theorem dX3_lookForDescriptor_48 : decode cX3_lookForDescriptor 48 = .ok (.imul, 1) := by decide +kernel
theorem dX3_lookForDescriptor_49 : decode cX3_lookForDescriptor 49 = .ok (.laload, 1) := by decide +kernel
theorem dX3_lookForDescriptor_50 : decode cX3_lookForDescriptor 50 = .ok (.lstore 4, 2) := by decide +kernel
theorem dX3_lookForDescriptor_52 : decode cX3_lookForDescriptor 52 = .ok (.aload_n 0, 1) := by decide +kernel
theorem dX3_lookForDescriptor_53 : decode cX3_lookForDescriptor 53 = .ok (.getfield 9, 3) := by decide +kernel
theorem dX3_lookForDescriptor_56 : decode cX3_lookForDescriptor 56 = .ok (.iconst 2, 1) := by decide +kernel
theorem dX3_lookForDescriptor_57 : decode cX3_lookForDescriptor 57 = .ok (.iload_n 1, 1) := by decide +kernel
theorem dX3_lookForDescriptor_58 : decode cX3_lookForDescriptor 58 = .ok (.imul, 1) := by decide +kernel
theorem dX3_lookForDescriptor_59 : decode cX3_lookForDescriptor 59 = .ok (.iconst 1, 1) := by decide +kernel
theorem dX3_lookForDescriptor_60 : decode cX3_lookForDescriptor 60 = .ok (.iadd, 1) := by decide +kernel
theorem dX3_lookForDescriptor_61 : decode cX3_lookForDescriptor 61 = .ok (.laload, 1) := by decide +kernel
theorem dX3_lookForDescriptor_62 : decode cX3_lookForDescriptor 62 = .ok (.lstore 6, 2) := by decide +kernel
theorem dX3_lookForDescriptor_64 : decode cX3_lookForDescriptor 64 = .ok (.aload_n 0, 1) := by decide +kernel
theorem dX3_lookForDescriptor_65 : decode cX3_lookForDescriptor 65 = .ok (.getfield 28, 3) := by decide +kernel
theorem dX3_lookForDescriptor_68 : decode cX3_lookForDescriptor 68 = .ok (.lload 4, 2) := by decide +kernel
theorem dX3_lookForDescriptor_70 : decode cX3_lookForDescriptor 70 = .ok (.lload 6, 2) := by decide +kernel
theorem dX3_lookForDescriptor_72 : decode cX3_lookForDescriptor 72 = .ok (.invokevirtual 95, 3) := by decide +kernel
theorem dX3_lookForDescriptor_75 : decode cX3_lookForDescriptor 75 = .ok (.iload_n 2, 1) := by decide +kernel
theorem dX3_lookForDescriptor_76 : decode cX3_lookForDescriptor 76 = .ok (.ifCond .eq 26, 3) := by decide +kernel
theorem dX3_lookForDescriptor_79 : decode cX3_lookForDescriptor 79 = .ok (.aload_n 0, 1) := by decide +kernel
theorem dX3_lookForDescriptor_80 : decode cX3_lookForDescriptor 80 = .ok (.getfield 28, 3) := by decide +kernel
theorem dX3_lookForDescriptor_83 : decode cX3_lookForDescriptor 83 = .ok (.getfield 99, 3) := by decide +kernel
theorem dX3_lookForDescriptor_86 : decode cX3_lookForDescriptor 86 = .ok (.ifCond .eq 16, 3) := by decide +kernel
theorem dX3_lookForDescriptor_89 : decode cX3_lookForDescriptor 89 = .ok (.aload_n 0, 1) := by decide +kernel
theorem dX3_lookForDescriptor_90 : decode cX3_lookForDescriptor 90 = .ok (.getfield 18, 3) := by decide +kernel
theorem dX3_lookForDescriptor_93 : decode cX3_lookForDescriptor 93 = .ok (.iload_n 1, 1) := by decide +kernel
theorem dX3_lookForDescriptor_94 : decode cX3_lookForDescriptor 94 = .ok (.lload 4, 2) := by decide +kernel
theorem dX3_lookForDescriptor_96 : decode cX3_lookForDescriptor 96 = .ok (.lload 6, 2) := by decide +kernel
theorem dX3_lookForDescriptor_98 : decode cX3_lookForDescriptor 98 = .ok (.invokevirtual 102, 3) := by decide +kernel
theorem dX3_lookForDescriptor_101 : decode cX3_lookForDescriptor 101 = .ok (.istore_n 3, 1) := by decide +kernel
theorem dX3_lookForDescriptor_102 : decode cX3_lookForDescriptor 102 = .ok (.iload_n 2, 1) := by decide +kernel
theorem dX3_lookForDescriptor_103 : decode cX3_lookForDescriptor 103 = .ok (.ifCond .eq 16, 3) := by decide +kernel
theorem dX3_lookForDescriptor_106 : decode cX3_lookForDescriptor 106 = .ok (.iload_n 3, 1) := by decide +kernel
theorem dX3_lookForDescriptor_107 : decode cX3_lookForDescriptor 107 = .ok (.iconst (-1), 1) := by decide +kernel
theorem dX3_lookForDescriptor_108 : decode cX3_lookForDescriptor 108 = .ok (.if_icmp .eq 11, 3) := by decide +kernel
theorem dX3_lookForDescriptor_111 : decode cX3_lookForDescriptor 111 = .ok (.aload_n 0, 1) := by decide +kernel
theorem dX3_lookForDescriptor_112 : decode cX3_lookForDescriptor 112 = .ok (.getfield 18, 3) := by decide +kernel
theorem dX3_lookForDescriptor_115 : decode cX3_lookForDescriptor 115 = .ok (.iload_n 3, 1) := by decide +kernel
theorem dX3_lookForDescriptor_116 : decode cX3_lookForDescriptor 116 = .ok (.invokevirtual 106, 3) := by decide +kernel
theorem dX3_lookForDescriptor_119 : decode cX3_lookForDescriptor 119 = .ok (.aload_n 0, 1) := by decide +kernel
theorem dX3_lookForDescriptor_120 : decode cX3_lookForDescriptor 120 = .ok (.getfield 28, 3) := by decide +kernel
theorem dX3_lookForDescriptor_123 : decode cX3_lookForDescriptor 123 = .ok (.areturn, 1) := by decide +kernel
theorem dX3_lookForPage_0 : decode cX3_lookForPage 0 = .ok (.bipush 64, 2) := by decide +kernel
theorem dX3_lookForPage_2 : decode cX3_lookForPage 2 = .ok (.iload_n 1, 1) := by decide +kernel
theorem dX3_lookForPage_3 : decode cX3_lookForPage 3 = .ok (.imul, 1) := by decide +kernel
theorem dX3_lookForPage_4 : decode cX3_lookForPage 4 = .ok (.iload_n 2, 1) := by decide +kernel
theorem dX3_lookForPage_5 : decode cX3_lookForPage 5 = .ok (.iadd, 1) := by decide +kernel
theorem dX3_lookForPage_6 : decode cX3_lookForPage 6 = .ok (.istore 4, 2) := by decide +kernel
theorem dX3_lookForPage_8 : decode cX3_lookForPage 8 = .ok (.aload_n 0, 1) := by decide +kernel
theorem dX3_lookForPage_9 : decode cX3_lookForPage 9 = .ok (.getfield 22, 3) := by decide +kernel
theorem dX3_lookForPage_12 : decode cX3_lookForPage 12 = .ok (.iload 4, 2) := by decide +kernel
theorem dX3_lookForPage_14 : decode cX3_lookForPage 14 = .ok (.invokevirtual 88, 3) := by decide +kernel
theorem dX3_lookForPage_17 : decode cX3_lookForPage 17 = .ok (.istore 5, 2) := by decide +kernel
theorem dX3_lookForPage_19 : decode cX3_lookForPage 19 = .ok (.iload 5, 2) := by decide +kernel
theorem dX3_lookForPage_21 : decode cX3_lookForPage 21 = .ok (.iconst (-1), 1) := by decide +kernel
theorem dX3_lookForPage_22 : decode cX3_lookForPage 22 = .ok (.if_icmp .ne 22, 3) := by decide +kernel
theorem dX3_lookForPage_25 : decode cX3_lookForPage 25 = .ok (.aload_n 0, 1) := by decide +kernel
theorem dX3_lookForPage_26 : decode cX3_lookForPage 26 = .ok (.getfield 9, 3) := by decide +kernel
theorem dX3_lookForPage_29 : decode cX3_lookForPage 29 = .ok (.aload_n 0, 1) := by decide +kernel
theorem dX3_lookForPage_30 : decode cX3_lookForPage 30 = .ok (.getfield 28, 3) := by decide +kernel
theorem dX3_lookForPage_33 : decode cX3_lookForPage 33 = .ok (.getfield 65, 3) := by decide +kernel
theorem dX3_lookForPage_36 : decode cX3_lookForPage 36 = .ok (.iload_n 2, 1) := by decide +kernel
theorem dX3_lookForPage_37 : decode cX3_lookForPage 37 = .ok (.invokestatic 68, 3) := by decide +kernel
theorem dX3_lookForPage_40 : decode cX3_lookForPage 40 = .ok (.laload, 1) := by decide +kernel
theorem dX3_lookForPage_41 : decode cX3_lookForPage 41 = .ok (.goto 13, 3) := by decide +kernel
theorem dX3_lookForPage_44 : decode cX3_lookForPage 44 = .ok (.aload_n 0, 1) := by decide +kernel
theorem dX3_lookForPage_45 : decode cX3_lookForPage 45 = .ok (.getfield 22, 3) := by decide +kernel
theorem dX3_lookForPage_48 : decode cX3_lookForPage 48 = .ok (.getfield 60, 3) := by decide +kernel
theorem dX3_lookForPage_51 : decode cX3_lookForPage 51 = .ok (.iload 5, 2) := by decide +kernel
theorem dX3_lookForPage_53 : decode cX3_lookForPage 53 = .ok (.laload, 1) := by decide +kernel
theorem dX3_lookForPage_54 : decode cX3_lookForPage 54 = .ok (.lstore 6, 2) := by decide +kernel
theorem dX3_lookForPage_56 : decode cX3_lookForPage 56 = .ok (.iload_n 3, 1) := by decide +kernel
theorem dX3_lookForPage_57 : decode cX3_lookForPage 57 = .ok (.ifCond .eq 14, 3) := by decide +kernel
theorem dX3_lookForPage_60 : decode cX3_lookForPage 60 = .ok (.lload 6, 2) := by decide +kernel
theorem dX3_lookForPage_62 : decode cX3_lookForPage 62 = .ok (.ldc2_w 84, 3) := by decide +kernel
theorem dX3_lookForPage_65 : decode cX3_lookForPage 65 = .ok (.land, 1) := by decide +kernel
theorem dX3_lookForPage_66 : decode cX3_lookForPage 66 = .ok (.lconst 0, 1) := by decide +kernel
theorem dX3_lookForPage_67 : decode cX3_lookForPage 67 = .ok (.lcmp, 1) := by decide +kernel
theorem dX3_lookForPage_68 : decode cX3_lookForPage 68 = .ok (.ifCond .ne 6, 3) := by decide +kernel
theorem dX3_lookForPage_71 : decode cX3_lookForPage 71 = .ok (.lload 6, 2) := by decide +kernel
theorem dX3_lookForPage_73 : decode cX3_lookForPage 73 = .ok (.lreturn, 1) := by decide +kernel
theorem dX3_lookForPage_74 : decode cX3_lookForPage 74 = .ok (.iload 5, 2) := by decide +kernel
theorem dX3_lookForPage_76 : decode cX3_lookForPage 76 = .ok (.iconst (-1), 1) := by decide +kernel
theorem dX3_lookForPage_77 : decode cX3_lookForPage 77 = .ok (.if_icmp .ne 43, 3) := by decide +kernel
theorem dX3_lookForPage_80 : decode cX3_lookForPage 80 = .ok (.aload_n 0, 1) := by decide +kernel
theorem dX3_lookForPage_81 : decode cX3_lookForPage 81 = .ok (.getfield 9, 3) := by decide +kernel
theorem dX3_lookForPage_84 : decode cX3_lookForPage 84 = .ok (.aload_n 0, 1) := by decide +kernel
theorem dX3_lookForPage_85 : decode cX3_lookForPage 85 = .ok (.getfield 28, 3) := by decide +kernel
theorem dX3_lookForPage_88 : decode cX3_lookForPage 88 = .ok (.getfield 65, 3) := by decide +kernel
theorem dX3_lookForPage_91 : decode cX3_lookForPage 91 = .ok (.iload_n 2, 1) := by decide +kernel
theorem dX3_lookForPage_92 : decode cX3_lookForPage 92 = .ok (.invokestatic 68, 3) := by decide +kernel
theorem dX3_lookForPage_95 : decode cX3_lookForPage 95 = .ok (.dup2, 1) := by decide +kernel
theorem dX3_lookForPage_96 : decode cX3_lookForPage 96 = .ok (.laload, 1) := by decide +kernel
theorem dX3_lookForPage_97 : decode cX3_lookForPage 97 = .ok (.ldc2_w 109, 3) := by decide +kernel
theorem dX3_lookForPage_100 : decode cX3_lookForPage 100 = .ok (.lor, 1) := by decide +kernel
theorem dX3_lookForPage_101 : decode cX3_lookForPage 101 = .ok (.lastore, 1) := by decide +kernel
theorem dX3_lookForPage_102 : decode cX3_lookForPage 102 = .ok (.aload_n 0, 1) := by decide +kernel
theorem dX3_lookForPage_103 : decode cX3_lookForPage 103 = .ok (.getfield 22, 3) := by decide +kernel
theorem dX3_lookForPage_106 : decode cX3_lookForPage 106 = .ok (.iload 4, 2) := by decide +kernel
theorem dX3_lookForPage_108 : decode cX3_lookForPage 108 = .ok (.lload 6, 2) := by decide +kernel
theorem dX3_lookForPage_110 : decode cX3_lookForPage 110 = .ok (.ldc2_w 109, 3) := by decide +kernel
theorem dX3_lookForPage_113 : decode cX3_lookForPage 113 = .ok (.lor, 1) := by decide +kernel
theorem dX3_lookForPage_114 : decode cX3_lookForPage 114 = .ok (.lconst 0, 1) := by decide +kernel
theorem dX3_lookForPage_115 : decode cX3_lookForPage 115 = .ok (.invokevirtual 102, 3) := by decide +kernel
theorem dX3_lookForPage_118 : decode cX3_lookForPage 118 = .ok (.istore 5, 2) := by decide +kernel
theorem dX3_lookForPage_120 : decode cX3_lookForPage 120 = .ok (.aload_n 0, 1) := by decide +kernel
theorem dX3_lookForPage_121 : decode cX3_lookForPage 121 = .ok (.getfield 22, 3) := by decide +kernel
theorem dX3_lookForPage_124 : decode cX3_lookForPage 124 = .ok (.iload 5, 2) := by decide +kernel
theorem dX3_lookForPage_126 : decode cX3_lookForPage 126 = .ok (.invokevirtual 106, 3) := by decide +kernel
theorem dX3_lookForPage_129 : decode cX3_lookForPage 129 = .ok (.lload 6, 2) := by decide +kernel
theorem dX3_lookForPage_131 : decode cX3_lookForPage 131 = .ok (.lreturn, 1) := by decide +kernel
theorem kw28 : Cond.fieldLink RX3 22 RX3 "pages" "LRingProcessor$Copies;" ∈ gG := inG 142 (by decide +kernel) (by decide +kernel)
theorem kw29 : Cond.fieldLink RX3 60 RX0 "firsts" "[J" ∈ gG := inG 77 (by decide +kernel) (by decide +kernel)
theorem kw30 : Cond.constantLong RX3 63 8589934592 ∈ gG := inG 495 (by decide +kernel) (by decide +kernel)
theorem kw31 : Cond.fieldLink RX3 9 RX3 "words" "[J" ∈ gG := inG 138 (by decide +kernel) (by decide +kernel)
theorem kw32 : Cond.fieldLink RX3 28 RX3 "descriptor" "LRingProcessor$Descriptor;" ∈ gG := inG 144 (by decide +kernel) (by decide +kernel)
theorem kw33 : Cond.fieldLink RX3 65 RX1 "base" "I" ∈ gG := inG 104 (by decide +kernel) (by decide +kernel)
theorem kw34 : Cond.code yX4_sum cX4_sum 2 (some .int) ∈ gG := inG 423 (by decide +kernel) (by decide +kernel)
theorem kw35 : Cond.static yX4_sum ∈ gG := inG 422 (by decide +kernel) (by decide +kernel)
theorem kw36 : Cond.fieldLink RX3 18 RX3 "descriptors" "LRingProcessor$Copies;" ∈ gG := inG 140 (by decide +kernel) (by decide +kernel)
theorem kw37 : Cond.code yX0_placeOf cX0_placeOf 3 (some .int) ∈ gG := inG 399 (by decide +kernel) (by decide +kernel)
theorem kw38 : Cond.initialized RX0 ∈ gG := inG 45 (by decide +kernel) (by decide +kernel)
theorem kw39 : Cond.methodLink RX3 88 yX0_placeOf ∈ gG := inG 396 (by decide +kernel) (by decide +kernel)
theorem kw40 : Cond.instanceMethod yX0_placeOf ∈ gG := inG 397 (by decide +kernel) (by decide +kernel)
theorem kw41 : Cond.selects RX0 yX0_placeOf yX0_placeOf ∈ gG := inG 398 (by decide +kernel) (by decide +kernel)
theorem kw42 : Cond.code yX1_become cX1_become 5 none ∈ gG := inG 403 (by decide +kernel) (by decide +kernel)
theorem kw43 : Cond.initialized RX1 ∈ gG := inG 46 (by decide +kernel) (by decide +kernel)
theorem kw44 : Cond.methodLink RX3 95 yX1_become ∈ gG := inG 400 (by decide +kernel) (by decide +kernel)
theorem kw45 : Cond.instanceMethod yX1_become ∈ gG := inG 401 (by decide +kernel) (by decide +kernel)
theorem kw46 : Cond.selects RX1 yX1_become yX1_become ∈ gG := inG 402 (by decide +kernel) (by decide +kernel)
theorem kw47 : Cond.fieldLink RX3 99 RX1 "isThere" "Z" ∈ gG := inG 99 (by decide +kernel) (by decide +kernel)
theorem kw48 : Cond.code yX0_add cX0_add 7 (some .int) ∈ gG := inG 412 (by decide +kernel) (by decide +kernel)
theorem kw49 : Cond.methodLink RX3 102 yX0_add ∈ gG := inG 409 (by decide +kernel) (by decide +kernel)
theorem kw50 : Cond.instanceMethod yX0_add ∈ gG := inG 410 (by decide +kernel) (by decide +kernel)
theorem kw51 : Cond.selects RX0 yX0_add yX0_add ∈ gG := inG 411 (by decide +kernel) (by decide +kernel)
theorem kw52 : Cond.code yX0_moveToFront cX0_moveToFront 8 none ∈ gG := inG 416 (by decide +kernel) (by decide +kernel)
theorem kw53 : Cond.methodLink RX3 106 yX0_moveToFront ∈ gG := inG 413 (by decide +kernel) (by decide +kernel)
theorem kw54 : Cond.instanceMethod yX0_moveToFront ∈ gG := inG 414 (by decide +kernel) (by decide +kernel)
theorem kw55 : Cond.selects RX0 yX0_moveToFront yX0_moveToFront ∈ gG := inG 415 (by decide +kernel) (by decide +kernel)
theorem kw56 : Cond.fieldLink RX3 92 RX0 "seconds" "[J" ∈ gG := inG 79 (by decide +kernel) (by decide +kernel)
theorem kw57 : Cond.constantLong RX3 84 34359738368 ∈ gG := inG 428 (by decide +kernel) (by decide +kernel)
theorem kw58 : Cond.constantLong RX3 109 17179869184 ∈ gG := inG 429 (by decide +kernel) (by decide +kernel)
theorem hdX4_sum : yX4_sum.cls ≠ "java/lang/invoke/MethodHandle" ∧ yX4_sum.cls ≠ "java/lang/invoke/VarHandle" ∧ (parseMethodDescriptor yX4_sum.desc).map (fun d => d.parameters.length) = some 2 := by decide +kernel
theorem hdX0_placeOf : yX0_placeOf.cls ≠ "java/lang/invoke/MethodHandle" ∧ yX0_placeOf.cls ≠ "java/lang/invoke/VarHandle" ∧ (parseMethodDescriptor yX0_placeOf.desc).map (fun d => d.parameters.length) = some 1 := by decide +kernel
theorem hdX1_become : yX1_become.cls ≠ "java/lang/invoke/MethodHandle" ∧ yX1_become.cls ≠ "java/lang/invoke/VarHandle" ∧ (parseMethodDescriptor yX1_become.desc).map (fun d => d.parameters.length) = some 2 := by decide +kernel
theorem hdX0_add : yX0_add.cls ≠ "java/lang/invoke/MethodHandle" ∧ yX0_add.cls ≠ "java/lang/invoke/VarHandle" ∧ (parseMethodDescriptor yX0_add.desc).map (fun d => d.parameters.length) = some 3 := by decide +kernel
theorem hdX0_moveToFront : yX0_moveToFront.cls ≠ "java/lang/invoke/MethodHandle" ∧ yX0_moveToFront.cls ≠ "java/lang/invoke/VarHandle" ∧ (parseMethodDescriptor yX0_moveToFront.desc).map (fun d => d.parameters.length) = some 1 := by decide +kernel
