theorem dX5_bits_0 : decode cX5_bits 0 = .ok (.lload_n 0, 1) := by decide +kernel
theorem dX5_bits_1 : decode cX5_bits 1 = .ok (.iload_n 2, 1) := by decide +kernel
theorem dX5_bits_2 : decode cX5_bits 2 = .ok (.lshr, 1) := by decide +kernel
theorem dX5_bits_3 : decode cX5_bits 3 = .ok (.l2i, 1) := by decide +kernel
theorem dX5_bits_4 : decode cX5_bits 4 = .ok (.iconst 1, 1) := by decide +kernel
theorem dX5_bits_5 : decode cX5_bits 5 = .ok (.iload_n 3, 1) := by decide +kernel
theorem dX5_bits_6 : decode cX5_bits 6 = .ok (.ishl, 1) := by decide +kernel
theorem dX5_bits_7 : decode cX5_bits 7 = .ok (.iconst 1, 1) := by decide +kernel
theorem dX5_bits_8 : decode cX5_bits 8 = .ok (.isub, 1) := by decide +kernel
theorem dX5_bits_9 : decode cX5_bits 9 = .ok (.iand, 1) := by decide +kernel
theorem dX5_bits_10 : decode cX5_bits 10 = .ok (.ireturn, 1) := by decide +kernel
theorem dX5_greater_0 : decode cX5_greater 0 = .ok (.iload_n 0, 1) := by decide +kernel
theorem dX5_greater_1 : decode cX5_greater 1 = .ok (.iload_n 1, 1) := by decide +kernel
theorem dX5_greater_2 : decode cX5_greater 2 = .ok (.if_icmp .le 7, 3) := by decide +kernel
theorem dX5_greater_5 : decode cX5_greater 5 = .ok (.iload_n 0, 1) := by decide +kernel
theorem dX5_greater_6 : decode cX5_greater 6 = .ok (.goto 4, 3) := by decide +kernel
theorem dX5_greater_9 : decode cX5_greater 9 = .ok (.iload_n 1, 1) := by decide +kernel
theorem dX5_greater_10 : decode cX5_greater 10 = .ok (.ireturn, 1) := by decide +kernel
theorem dX5_pointer_0 : decode cX5_pointer 0 = .ok (.ldc2_w 118, 3) := by decide +kernel
theorem dX5_pointer_3 : decode cX5_pointer 3 = .ok (.iload_n 0, 1) := by decide +kernel
theorem dX5_pointer_4 : decode cX5_pointer 4 = .ok (.i2l, 1) := by decide +kernel
theorem dX5_pointer_5 : decode cX5_pointer 5 = .ok (.bipush 24, 2) := by decide +kernel
theorem dX5_pointer_7 : decode cX5_pointer 7 = .ok (.lshl, 1) := by decide +kernel
theorem dX5_pointer_8 : decode cX5_pointer 8 = .ok (.lor, 1) := by decide +kernel
theorem dX5_pointer_9 : decode cX5_pointer 9 = .ok (.iload_n 2, 1) := by decide +kernel
theorem dX5_pointer_10 : decode cX5_pointer 10 = .ok (.i2l, 1) := by decide +kernel
theorem dX5_pointer_11 : decode cX5_pointer 11 = .ok (.bipush 21, 2) := by decide +kernel
theorem dX5_pointer_13 : decode cX5_pointer 13 = .ok (.lshl, 1) := by decide +kernel
theorem dX5_pointer_14 : decode cX5_pointer 14 = .ok (.lor, 1) := by decide +kernel
theorem dX5_pointer_15 : decode cX5_pointer 15 = .ok (.iload_n 1, 1) := by decide +kernel
theorem dX5_pointer_16 : decode cX5_pointer 16 = .ok (.i2l, 1) := by decide +kernel
theorem dX5_pointer_17 : decode cX5_pointer 17 = .ok (.lor, 1) := by decide +kernel
theorem dX5_pointer_18 : decode cX5_pointer 18 = .ok (.lreturn, 1) := by decide +kernel
theorem dX5_barred_0 : decode cX5_barred 0 = .ok (.lload_n 0, 1) := by decide +kernel
theorem dX5_barred_1 : decode cX5_barred 1 = .ok (.ldc2_w 78, 3) := by decide +kernel
theorem dX5_barred_4 : decode cX5_barred 4 = .ok (.land, 1) := by decide +kernel
theorem dX5_barred_5 : decode cX5_barred 5 = .ok (.lconst 0, 1) := by decide +kernel
theorem dX5_barred_6 : decode cX5_barred 6 = .ok (.lcmp, 1) := by decide +kernel
theorem dX5_barred_7 : decode cX5_barred 7 = .ok (.ifCond .ne 5, 3) := by decide +kernel
theorem dX5_barred_10 : decode cX5_barred 10 = .ok (.iconst 1, 1) := by decide +kernel
theorem dX5_barred_11 : decode cX5_barred 11 = .ok (.ireturn, 1) := by decide +kernel
theorem dX5_barred_12 : decode cX5_barred 12 = .ok (.iload 4, 2) := by decide +kernel
theorem dX5_barred_14 : decode cX5_barred 14 = .ok (.lload_n 0, 1) := by decide +kernel
theorem dX5_barred_15 : decode cX5_barred 15 = .ok (.bipush 12, 2) := by decide +kernel
theorem dX5_barred_17 : decode cX5_barred 17 = .ok (.bipush 12, 2) := by decide +kernel
theorem dX5_barred_19 : decode cX5_barred 19 = .ok (.invokestatic 89, 3) := by decide +kernel
theorem dX5_barred_22 : decode cX5_barred 22 = .ok (.if_icmp .le 5, 3) := by decide +kernel
theorem dX5_barred_25 : decode cX5_barred 25 = .ok (.iconst 3, 1) := by decide +kernel
theorem dX5_barred_26 : decode cX5_barred 26 = .ok (.ireturn, 1) := by decide +kernel
theorem dX5_barred_27 : decode cX5_barred 27 = .ok (.lload_n 2, 1) := by decide +kernel
theorem dX5_barred_28 : decode cX5_barred 28 = .ok (.iconst 0, 1) := by decide +kernel
theorem dX5_barred_29 : decode cX5_barred 29 = .ok (.iconst 3, 1) := by decide +kernel
theorem dX5_barred_30 : decode cX5_barred 30 = .ok (.invokestatic 89, 3) := by decide +kernel
theorem dX5_barred_33 : decode cX5_barred 33 = .ok (.istore 7, 2) := by decide +kernel
theorem dX5_barred_35 : decode cX5_barred 35 = .ok (.lload_n 2, 1) := by decide +kernel
theorem dX5_barred_36 : decode cX5_barred 36 = .ok (.iconst 3, 1) := by decide +kernel
theorem dX5_barred_37 : decode cX5_barred 37 = .ok (.iconst 3, 1) := by decide +kernel
theorem dX5_barred_38 : decode cX5_barred 38 = .ok (.invokestatic 89, 3) := by decide +kernel
theorem dX5_barred_41 : decode cX5_barred 41 = .ok (.istore 8, 2) := by decide +kernel
theorem dX5_barred_43 : decode cX5_barred 43 = .ok (.lload_n 2, 1) := by decide +kernel
theorem dX5_barred_44 : decode cX5_barred 44 = .ok (.bipush 9, 2) := by decide +kernel
theorem dX5_barred_46 : decode cX5_barred 46 = .ok (.iload 6, 2) := by decide +kernel
theorem dX5_barred_48 : decode cX5_barred 48 = .ok (.iadd, 1) := by decide +kernel
theorem dX5_barred_49 : decode cX5_barred 49 = .ok (.iconst 1, 1) := by decide +kernel
theorem dX5_barred_50 : decode cX5_barred 50 = .ok (.invokestatic 89, 3) := by decide +kernel
theorem dX5_barred_53 : decode cX5_barred 53 = .ok (.iconst 1, 1) := by decide +kernel
theorem dX5_barred_54 : decode cX5_barred 54 = .ok (.if_icmp .ne 52, 3) := by decide +kernel
theorem dX5_barred_57 : decode cX5_barred 57 = .ok (.iload 6, 2) := by decide +kernel
theorem dX5_barred_59 : decode cX5_barred 59 = .ok (.ifCond .ne 13, 3) := by decide +kernel
theorem dX5_barred_62 : decode cX5_barred 62 = .ok (.iload 5, 2) := by decide +kernel
theorem dX5_barred_64 : decode cX5_barred 64 = .ok (.iload 8, 2) := by decide +kernel
theorem dX5_barred_66 : decode cX5_barred 66 = .ok (.if_icmp .gt 40, 3) := by decide +kernel
theorem dX5_barred_69 : decode cX5_barred 69 = .ok (.goto 33, 3) := by decide +kernel
theorem dX5_barred_72 : decode cX5_barred 72 = .ok (.iload 6, 2) := by decide +kernel
theorem dX5_barred_74 : decode cX5_barred 74 = .ok (.iconst 1, 1) := by decide +kernel
theorem dX5_barred_75 : decode cX5_barred 75 = .ok (.if_icmp .ne 13, 3) := by decide +kernel
theorem dX5_barred_78 : decode cX5_barred 78 = .ok (.iload 5, 2) := by decide +kernel
theorem dX5_barred_80 : decode cX5_barred 80 = .ok (.iload 7, 2) := by decide +kernel
theorem dX5_barred_82 : decode cX5_barred 82 = .ok (.if_icmp .gt 24, 3) := by decide +kernel
theorem dX5_barred_85 : decode cX5_barred 85 = .ok (.goto 17, 3) := by decide +kernel
theorem dX5_barred_88 : decode cX5_barred 88 = .ok (.iload 5, 2) := by decide +kernel
theorem dX5_barred_90 : decode cX5_barred 90 = .ok (.iload 7, 2) := by decide +kernel
theorem dX5_barred_92 : decode cX5_barred 92 = .ok (.if_icmp .lt 14, 3) := by decide +kernel
theorem dX5_barred_95 : decode cX5_barred 95 = .ok (.iload 5, 2) := by decide +kernel
theorem dX5_barred_97 : decode cX5_barred 97 = .ok (.iload 8, 2) := by decide +kernel
theorem dX5_barred_99 : decode cX5_barred 99 = .ok (.if_icmp .gt 7, 3) := by decide +kernel
theorem dX5_barred_102 : decode cX5_barred 102 = .ok (.iconst 1, 1) := by decide +kernel
theorem dX5_barred_103 : decode cX5_barred 103 = .ok (.goto 4, 3) := by decide +kernel
theorem dX5_barred_106 : decode cX5_barred 106 = .ok (.iconst 0, 1) := by decide +kernel
theorem dX5_barred_107 : decode cX5_barred 107 = .ok (.istore 9, 2) := by decide +kernel
theorem dX5_barred_109 : decode cX5_barred 109 = .ok (.iload 9, 2) := by decide +kernel
theorem dX5_barred_111 : decode cX5_barred 111 = .ok (.ifCond .eq 7, 3) := by decide +kernel
theorem dX5_barred_114 : decode cX5_barred 114 = .ok (.iconst 0, 1) := by decide +kernel
theorem dX5_barred_115 : decode cX5_barred 115 = .ok (.goto 4, 3) := by decide +kernel
theorem dX5_barred_118 : decode cX5_barred 118 = .ok (.iconst 4, 1) := by decide +kernel
theorem dX5_barred_119 : decode cX5_barred 119 = .ok (.ireturn, 1) := by decide +kernel
theorem dX5_thrown_0 : decode cX5_thrown 0 = .ok (.aload_n 0, 1) := by decide +kernel
theorem dX5_thrown_1 : decode cX5_thrown 1 = .ok (.getfield 41, 3) := by decide +kernel
theorem dX5_thrown_4 : decode cX5_thrown 4 = .ok (.ireturn, 1) := by decide +kernel
theorem dX5_wrong_0 : decode cX5_wrong 0 = .ok (.aload_n 0, 1) := by decide +kernel
theorem dX5_wrong_1 : decode cX5_wrong 1 = .ok (.getfield 45, 3) := by decide +kernel
theorem dX5_wrong_4 : decode cX5_wrong 4 = .ok (.ifCond .le 4, 3) := by decide +kernel
theorem dX5_wrong_7 : decode cX5_wrong 7 = .ok (.return_, 1) := by decide +kernel
theorem dX5_wrong_8 : decode cX5_wrong 8 = .ok (.aload_n 0, 1) := by decide +kernel
theorem dX5_wrong_9 : decode cX5_wrong 9 = .ok (.iload_n 1, 1) := by decide +kernel
theorem dX5_wrong_10 : decode cX5_wrong 10 = .ok (.putfield 45, 3) := by decide +kernel
theorem dX5_wrong_13 : decode cX5_wrong 13 = .ok (.aload_n 0, 1) := by decide +kernel
theorem dX5_wrong_14 : decode cX5_wrong 14 = .ok (.iload_n 2, 1) := by decide +kernel
theorem dX5_wrong_15 : decode cX5_wrong 15 = .ok (.putfield 48, 3) := by decide +kernel
theorem dX5_wrong_18 : decode cX5_wrong 18 = .ok (.aload_n 0, 1) := by decide +kernel
theorem dX5_wrong_19 : decode cX5_wrong 19 = .ok (.iload_n 3, 1) := by decide +kernel
theorem dX5_wrong_20 : decode cX5_wrong 20 = .ok (.putfield 51, 3) := by decide +kernel
theorem dX5_wrong_23 : decode cX5_wrong 23 = .ok (.return_, 1) := by decide +kernel
theorem dX5_wrongHere_0 : decode cX5_wrongHere 0 = .ok (.aload_n 0, 1) := by decide +kernel
theorem dX5_wrongHere_1 : decode cX5_wrongHere 1 = .ok (.iload_n 1, 1) := by decide +kernel
theorem dX5_wrongHere_2 : decode cX5_wrongHere 2 = .ok (.aload_n 0, 1) := by decide +kernel
theorem dX5_wrongHere_3 : decode cX5_wrongHere 3 = .ok (.getfield 54, 3) := by decide +kernel
theorem dX5_wrongHere_6 : decode cX5_wrongHere 6 = .ok (.aload_n 0, 1) := by decide +kernel
theorem dX5_wrongHere_7 : decode cX5_wrongHere 7 = .ok (.getfield 57, 3) := by decide +kernel
theorem dX5_wrongHere_10 : decode cX5_wrongHere 10 = .ok (.invokevirtual 60, 3) := by decide +kernel
theorem dX5_wrongHere_13 : decode cX5_wrongHere 13 = .ok (.return_, 1) := by decide +kernel
theorem dX5_findDescriptor_0 : decode cX5_findDescriptor 0 = .ok (.iconst 0, 1) := by decide +kernel
theorem dX5_findDescriptor_1 : decode cX5_findDescriptor 1 = .ok (.istore_n 2, 1) := by decide +kernel
theorem dX5_findDescriptor_2 : decode cX5_findDescriptor 2 = .ok (.iload_n 2, 1) := by decide +kernel
theorem dX5_findDescriptor_3 : decode cX5_findDescriptor 3 = .ok (.aload_n 0, 1) := by decide +kernel
theorem dX5_findDescriptor_4 : decode cX5_findDescriptor 4 = .ok (.getfield 64, 3) := by decide +kernel
theorem dX5_findDescriptor_7 : decode cX5_findDescriptor 7 = .ok (.if_icmp .ge 19, 3) := by decide +kernel
theorem dX5_findDescriptor_10 : decode cX5_findDescriptor 10 = .ok (.aload_n 0, 1) := by decide +kernel
theorem dX5_findDescriptor_11 : decode cX5_findDescriptor 11 = .ok (.getfield 13, 3) := by decide +kernel
theorem dX5_findDescriptor_14 : decode cX5_findDescriptor 14 = .ok (.iload_n 2, 1) := by decide +kernel
theorem dX5_findDescriptor_15 : decode cX5_findDescriptor 15 = .ok (.iaload, 1) := by decide +kernel
theorem dX5_findDescriptor_16 : decode cX5_findDescriptor 16 = .ok (.iload_n 1, 1) := by decide +kernel
theorem dX5_findDescriptor_17 : decode cX5_findDescriptor 17 = .ok (.if_icmp .eq 9, 3) := by decide +kernel
theorem dX5_findDescriptor_20 : decode cX5_findDescriptor 20 = .ok (.iinc 2 1, 3) := by decide +kernel
theorem dX5_findDescriptor_23 : decode cX5_findDescriptor 23 = .ok (.goto (-21), 3) := by decide +kernel
theorem dX5_findDescriptor_26 : decode cX5_findDescriptor 26 = .ok (.iload_n 2, 1) := by decide +kernel
theorem dX5_findDescriptor_27 : decode cX5_findDescriptor 27 = .ok (.aload_n 0, 1) := by decide +kernel
theorem dX5_findDescriptor_28 : decode cX5_findDescriptor 28 = .ok (.getfield 64, 3) := by decide +kernel
theorem dX5_findDescriptor_31 : decode cX5_findDescriptor 31 = .ok (.if_icmp .ge 7, 3) := by decide +kernel
theorem dX5_findDescriptor_34 : decode cX5_findDescriptor 34 = .ok (.iload_n 2, 1) := by decide +kernel
theorem dX5_findDescriptor_35 : decode cX5_findDescriptor 35 = .ok (.goto 4, 3) := by decide +kernel
theorem dX5_findDescriptor_38 : decode cX5_findDescriptor 38 = .ok (.iconst (-1), 1) := by decide +kernel
theorem dX5_findDescriptor_39 : decode cX5_findDescriptor 39 = .ok (.ireturn, 1) := by decide +kernel
theorem dX5_findPage_0 : decode cX5_findPage 0 = .ok (.iconst 0, 1) := by decide +kernel
theorem dX5_findPage_1 : decode cX5_findPage 1 = .ok (.istore_n 3, 1) := by decide +kernel
theorem dX5_findPage_2 : decode cX5_findPage 2 = .ok (.iload_n 3, 1) := by decide +kernel
theorem dX5_findPage_3 : decode cX5_findPage 3 = .ok (.aload_n 0, 1) := by decide +kernel
theorem dX5_findPage_4 : decode cX5_findPage 4 = .ok (.getfield 80, 3) := by decide +kernel
theorem dX5_findPage_7 : decode cX5_findPage 7 = .ok (.if_icmp .ge 24, 3) := by decide +kernel
theorem dX5_findPage_10 : decode cX5_findPage 10 = .ok (.aload_n 0, 1) := by decide +kernel
theorem dX5_findPage_11 : decode cX5_findPage 11 = .ok (.getfield 17, 3) := by decide +kernel
theorem dX5_findPage_14 : decode cX5_findPage 14 = .ok (.iload_n 3, 1) := by decide +kernel
theorem dX5_findPage_15 : decode cX5_findPage 15 = .ok (.iaload, 1) := by decide +kernel
theorem dX5_findPage_16 : decode cX5_findPage 16 = .ok (.bipush 64, 2) := by decide +kernel
theorem dX5_findPage_18 : decode cX5_findPage 18 = .ok (.iload_n 1, 1) := by decide +kernel
theorem dX5_findPage_19 : decode cX5_findPage 19 = .ok (.imul, 1) := by decide +kernel
theorem dX5_findPage_20 : decode cX5_findPage 20 = .ok (.iload_n 2, 1) := by decide +kernel
theorem dX5_findPage_21 : decode cX5_findPage 21 = .ok (.iadd, 1) := by decide +kernel
theorem dX5_findPage_22 : decode cX5_findPage 22 = .ok (.if_icmp .eq 9, 3) := by decide +kernel
theorem dX5_findPage_25 : decode cX5_findPage 25 = .ok (.iinc 3 1, 3) := by decide +kernel
theorem dX5_findPage_28 : decode cX5_findPage 28 = .ok (.goto (-26), 3) := by decide +kernel
theorem dX5_findPage_31 : decode cX5_findPage 31 = .ok (.iload_n 3, 1) := by decide +kernel
theorem dX5_findPage_32 : decode cX5_findPage 32 = .ok (.aload_n 0, 1) := by decide +kernel
theorem dX5_findPage_33 : decode cX5_findPage 33 = .ok (.getfield 80, 3) := by decide +kernel
theorem dX5_findPage_36 : decode cX5_findPage 36 = .ok (.if_icmp .ge 7, 3) := by decide +kernel
theorem dX5_findPage_39 : decode cX5_findPage 39 = .ok (.iload_n 3, 1) := by decide +kernel
theorem dX5_findPage_40 : decode cX5_findPage 40 = .ok (.goto 4, 3) := by decide +kernel
theorem dX5_findPage_43 : decode cX5_findPage 43 = .ok (.iconst (-1), 1) := by decide +kernel
theorem dX5_findPage_44 : decode cX5_findPage 44 = .ok (.ireturn, 1) := by decide +kernel
theorem kw235 : Cond.constantLong RX5 118 8589934592 ∈ gG := inG 755 (by decide +kernel) (by decide +kernel)
theorem kw236 : Cond.constantLong RX5 78 34359738368 ∈ gG := inG 678 (by decide +kernel) (by decide +kernel)
theorem kw237 : Cond.code yX5_bits cX5_bits 4 (some .int) ∈ gG := inG 681 (by decide +kernel) (by decide +kernel)
theorem kw238 : Cond.initialized RX5 ∈ gG := inG 48 (by decide +kernel) (by decide +kernel)
theorem kw239 : Cond.methodLink RX5 89 yX5_bits ∈ gG := inG 679 (by decide +kernel) (by decide +kernel)
theorem kw240 : Cond.static yX5_bits ∈ gG := inG 680 (by decide +kernel) (by decide +kernel)
theorem kw241 : Cond.fieldLink RX5 41 RX5 "thrown" "I" ∈ gG := inG 551 (by decide +kernel) (by decide +kernel)
theorem kw242 : Cond.fieldLink RX5 45 RX5 "fault" "I" ∈ gG := inG 579 (by decide +kernel) (by decide +kernel)
theorem kw243 : Cond.fieldLink RX5 48 RX5 "badSegment" "I" ∈ gG := inG 580 (by decide +kernel) (by decide +kernel)
theorem kw244 : Cond.fieldLink RX5 51 RX5 "badWord" "I" ∈ gG := inG 581 (by decide +kernel) (by decide +kernel)
theorem kw245 : Cond.fieldLink RX5 54 RX5 "counterSegment" "I" ∈ gG := inG 566 (by decide +kernel) (by decide +kernel)
theorem kw246 : Cond.fieldLink RX5 57 RX5 "counterWord" "I" ∈ gG := inG 567 (by decide +kernel) (by decide +kernel)
theorem kw247 : Cond.code yX5_wrong cX5_wrong 4 none ∈ gG := inG 714 (by decide +kernel) (by decide +kernel)
theorem kw248 : Cond.methodLink RX5 60 yX5_wrong ∈ gG := inG 711 (by decide +kernel) (by decide +kernel)
theorem kw249 : Cond.instanceMethod yX5_wrong ∈ gG := inG 713 (by decide +kernel) (by decide +kernel)
theorem kw250 : Cond.selects RX5 yX5_wrong yX5_wrong ∈ gG := inG 29 (by decide +kernel) (by decide +kernel)
theorem kw251 : Cond.fieldLink RX5 64 RX5 "descriptors" "I" ∈ gG := inG 553 (by decide +kernel) (by decide +kernel)
theorem kw252 : Cond.fieldLink RX5 13 RX5 "segmentOf" "[I" ∈ gG := inG 555 (by decide +kernel) (by decide +kernel)
theorem kw253 : Cond.fieldLink RX5 80 RX5 "pages" "I" ∈ gG := inG 554 (by decide +kernel) (by decide +kernel)
theorem kw254 : Cond.fieldLink RX5 17 RX5 "pageOf" "[I" ∈ gG := inG 556 (by decide +kernel) (by decide +kernel)
theorem hdX5_bits : yX5_bits.cls ≠ "java/lang/invoke/MethodHandle" ∧ yX5_bits.cls ≠ "java/lang/invoke/VarHandle" ∧ (parseMethodDescriptor yX5_bits.desc).map (fun d => d.parameters.length) = some 3 := by decide +kernel
theorem hdX5_wrong : yX5_wrong.cls ≠ "java/lang/invoke/MethodHandle" ∧ yX5_wrong.cls ≠ "java/lang/invoke/VarHandle" ∧ (parseMethodDescriptor yX5_wrong.desc).map (fun d => d.parameters.length) = some 3 := by decide +kernel
