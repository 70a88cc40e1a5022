theorem dX5_place_0 : decode cX5_place 0 = .ok (.aload_n 0, 1) := by decide +kernel
theorem dX5_place_1 : decode cX5_place 1 = .ok (.getfield 45, 3) := by decide +kernel
theorem dX5_place_4 : decode cX5_place 4 = .ok (.ifCond .le 5, 3) := by decide +kernel
theorem dX5_place_7 : decode cX5_place 7 = .ok (.iconst (-1), 1) := by decide +kernel
theorem dX5_place_8 : decode cX5_place 8 = .ok (.ireturn, 1) := by decide +kernel
theorem dX5_place_9 : decode cX5_place 9 = .ok (.aload_n 0, 1) := by decide +kernel
theorem dX5_place_10 : decode cX5_place 10 = .ok (.iload_n 1, 1) := by decide +kernel
theorem dX5_place_11 : decode cX5_place 11 = .ok (.invokevirtual 93, 3) := by decide +kernel
theorem dX5_place_14 : decode cX5_place 14 = .ok (.aload_n 0, 1) := by decide +kernel
theorem dX5_place_15 : decode cX5_place 15 = .ok (.getfield 71, 3) := by decide +kernel
theorem dX5_place_18 : decode cX5_place 18 = .ok (.aload_n 0, 1) := by decide +kernel
theorem dX5_place_19 : decode cX5_place 19 = .ok (.getfield 75, 3) := by decide +kernel
theorem dX5_place_22 : decode cX5_place 22 = .ok (.iload_n 2, 1) := by decide +kernel
theorem dX5_place_23 : decode cX5_place 23 = .ok (.iload_n 3, 1) := by decide +kernel
theorem dX5_place_24 : decode cX5_place 24 = .ok (.iload 4, 2) := by decide +kernel
theorem dX5_place_26 : decode cX5_place 26 = .ok (.invokestatic 97, 3) := by decide +kernel
theorem dX5_place_29 : decode cX5_place 29 = .ok (.istore 5, 2) := by decide +kernel
theorem dX5_place_31 : decode cX5_place 31 = .ok (.aload_n 0, 1) := by decide +kernel
theorem dX5_place_32 : decode cX5_place 32 = .ok (.getfield 71, 3) := by decide +kernel
theorem dX5_place_35 : decode cX5_place 35 = .ok (.iconst 0, 1) := by decide +kernel
theorem dX5_place_36 : decode cX5_place 36 = .ok (.bipush 12, 2) := by decide +kernel
theorem dX5_place_38 : decode cX5_place 38 = .ok (.invokestatic 89, 3) := by decide +kernel
theorem dX5_place_41 : decode cX5_place 41 = .ok (.istore 6, 2) := by decide +kernel
theorem dX5_place_43 : decode cX5_place 43 = .ok (.iload 5, 2) := by decide +kernel
theorem dX5_place_45 : decode cX5_place 45 = .ok (.ifCond .ne 25, 3) := by decide +kernel
theorem dX5_place_48 : decode cX5_place 48 = .ok (.aload_n 0, 1) := by decide +kernel
theorem dX5_place_49 : decode cX5_place 49 = .ok (.getfield 71, 3) := by decide +kernel
theorem dX5_place_52 : decode cX5_place 52 = .ok (.ldc2_w 87, 3) := by decide +kernel
theorem dX5_place_55 : decode cX5_place 55 = .ok (.land, 1) := by decide +kernel
theorem dX5_place_56 : decode cX5_place 56 = .ok (.lconst 0, 1) := by decide +kernel
theorem dX5_place_57 : decode cX5_place 57 = .ok (.lcmp, 1) := by decide +kernel
theorem dX5_place_58 : decode cX5_place 58 = .ok (.ifCond .ne 12, 3) := by decide +kernel
theorem dX5_place_61 : decode cX5_place 61 = .ok (.iload 6, 2) := by decide +kernel
theorem dX5_place_63 : decode cX5_place 63 = .ok (.iload_n 2, 1) := by decide +kernel
theorem dX5_place_64 : decode cX5_place 64 = .ok (.iadd, 1) := by decide +kernel
theorem dX5_place_65 : decode cX5_place 65 = .ok (.sipush 4095, 3) := by decide +kernel
theorem dX5_place_68 : decode cX5_place 68 = .ok (.iand, 1) := by decide +kernel
theorem dX5_place_69 : decode cX5_place 69 = .ok (.ireturn, 1) := by decide +kernel
theorem dX5_place_70 : decode cX5_place 70 = .ok (.iload 6, 2) := by decide +kernel
theorem dX5_place_72 : decode cX5_place 72 = .ok (.iload_n 2, 1) := by decide +kernel
theorem dX5_place_73 : decode cX5_place 73 = .ok (.bipush 64, 2) := by decide +kernel
theorem dX5_place_75 : decode cX5_place 75 = .ok (.idiv, 1) := by decide +kernel
theorem dX5_place_76 : decode cX5_place 76 = .ok (.iadd, 1) := by decide +kernel
theorem dX5_place_77 : decode cX5_place 77 = .ok (.sipush 4095, 3) := by decide +kernel
theorem dX5_place_80 : decode cX5_place 80 = .ok (.iand, 1) := by decide +kernel
theorem dX5_place_81 : decode cX5_place 81 = .ok (.istore 7, 2) := by decide +kernel
theorem dX5_place_83 : decode cX5_place 83 = .ok (.iload 5, 2) := by decide +kernel
theorem dX5_place_85 : decode cX5_place 85 = .ok (.ifCond .ne 17, 3) := by decide +kernel
theorem dX5_place_88 : decode cX5_place 88 = .ok (.aload_n 0, 1) := by decide +kernel
theorem dX5_place_89 : decode cX5_place 89 = .ok (.iload_n 1, 1) := by decide +kernel
theorem dX5_place_90 : decode cX5_place 90 = .ok (.iload_n 2, 1) := by decide +kernel
theorem dX5_place_91 : decode cX5_place 91 = .ok (.bipush 64, 2) := by decide +kernel
theorem dX5_place_93 : decode cX5_place 93 = .ok (.idiv, 1) := by decide +kernel
theorem dX5_place_94 : decode cX5_place 94 = .ok (.iload 7, 2) := by decide +kernel
theorem dX5_place_96 : decode cX5_place 96 = .ok (.invokevirtual 101, 3) := by decide +kernel
theorem dX5_place_99 : decode cX5_place 99 = .ok (.goto 4, 3) := by decide +kernel
theorem dX5_place_102 : decode cX5_place 102 = .ok (.lconst 0, 1) := by decide +kernel
theorem dX5_place_103 : decode cX5_place 103 = .ok (.lstore 8, 2) := by decide +kernel
theorem dX5_place_105 : decode cX5_place 105 = .ok (.iload 5, 2) := by decide +kernel
theorem dX5_place_107 : decode cX5_place 107 = .ok (.ifCond .ne 17, 3) := by decide +kernel
theorem dX5_place_110 : decode cX5_place 110 = .ok (.lload 8, 2) := by decide +kernel
theorem dX5_place_112 : decode cX5_place 112 = .ok (.ldc2_w 78, 3) := by decide +kernel
theorem dX5_place_115 : decode cX5_place 115 = .ok (.land, 1) := by decide +kernel
theorem dX5_place_116 : decode cX5_place 116 = .ok (.lconst 0, 1) := by decide +kernel
theorem dX5_place_117 : decode cX5_place 117 = .ok (.lcmp, 1) := by decide +kernel
theorem dX5_place_118 : decode cX5_place 118 = .ok (.ifCond .ne 6, 3) := by decide +kernel
theorem dX5_place_121 : decode cX5_place 121 = .ok (.iconst 2, 1) := by decide +kernel
theorem dX5_place_122 : decode cX5_place 122 = .ok (.istore 5, 2) := by decide +kernel
theorem dX5_place_124 : decode cX5_place 124 = .ok (.iload 5, 2) := by decide +kernel
theorem dX5_place_126 : decode cX5_place 126 = .ok (.ifCond .ne 20, 3) := by decide +kernel
theorem dX5_place_129 : decode cX5_place 129 = .ok (.bipush 64, 2) := by decide +kernel
theorem dX5_place_131 : decode cX5_place 131 = .ok (.lload 8, 2) := by decide +kernel
theorem dX5_place_133 : decode cX5_place 133 = .ok (.iconst 0, 1) := by decide +kernel
theorem dX5_place_134 : decode cX5_place 134 = .ok (.bipush 6, 2) := by decide +kernel
theorem dX5_place_136 : decode cX5_place 136 = .ok (.invokestatic 89, 3) := by decide +kernel
theorem dX5_place_139 : decode cX5_place 139 = .ok (.imul, 1) := by decide +kernel
theorem dX5_place_140 : decode cX5_place 140 = .ok (.iload_n 2, 1) := by decide +kernel
theorem dX5_place_141 : decode cX5_place 141 = .ok (.bipush 64, 2) := by decide +kernel
theorem dX5_place_143 : decode cX5_place 143 = .ok (.irem, 1) := by decide +kernel
theorem dX5_place_144 : decode cX5_place 144 = .ok (.iadd, 1) := by decide +kernel
theorem dX5_place_145 : decode cX5_place 145 = .ok (.ireturn, 1) := by decide +kernel
theorem dX5_place_146 : decode cX5_place 146 = .ok (.aload_n 0, 1) := by decide +kernel
theorem dX5_place_147 : decode cX5_place 147 = .ok (.iload 5, 2) := by decide +kernel
theorem dX5_place_149 : decode cX5_place 149 = .ok (.iload_n 1, 1) := by decide +kernel
theorem dX5_place_150 : decode cX5_place 150 = .ok (.iload_n 2, 1) := by decide +kernel
theorem dX5_place_151 : decode cX5_place 151 = .ok (.invokevirtual 60, 3) := by decide +kernel
theorem dX5_place_154 : decode cX5_place 154 = .ok (.iconst (-1), 1) := by decide +kernel
theorem dX5_place_155 : decode cX5_place 155 = .ok (.ireturn, 1) := by decide +kernel
theorem dX5_read_0 : decode cX5_read 0 = .ok (.aload_n 0, 1) := by decide +kernel
theorem dX5_read_1 : decode cX5_read 1 = .ok (.iload_n 1, 1) := by decide +kernel
theorem dX5_read_2 : decode cX5_read 2 = .ok (.iload_n 2, 1) := by decide +kernel
theorem dX5_read_3 : decode cX5_read 3 = .ok (.iload_n 3, 1) := by decide +kernel
theorem dX5_read_4 : decode cX5_read 4 = .ok (.iconst 0, 1) := by decide +kernel
theorem dX5_read_5 : decode cX5_read 5 = .ok (.invokevirtual 105, 3) := by decide +kernel
theorem dX5_read_8 : decode cX5_read 8 = .ok (.istore 4, 2) := by decide +kernel
theorem dX5_read_10 : decode cX5_read 10 = .ok (.iload 4, 2) := by decide +kernel
theorem dX5_read_12 : decode cX5_read 12 = .ok (.ifCond .ge 7, 3) := by decide +kernel
theorem dX5_read_15 : decode cX5_read 15 = .ok (.lconst 0, 1) := by decide +kernel
theorem dX5_read_16 : decode cX5_read 16 = .ok (.goto 10, 3) := by decide +kernel
theorem dX5_read_19 : decode cX5_read 19 = .ok (.aload_n 0, 1) := by decide +kernel
theorem dX5_read_20 : decode cX5_read 20 = .ok (.getfield 7, 3) := by decide +kernel
theorem dX5_read_23 : decode cX5_read 23 = .ok (.iload 4, 2) := by decide +kernel
theorem dX5_read_25 : decode cX5_read 25 = .ok (.laload, 1) := by decide +kernel
theorem dX5_read_26 : decode cX5_read 26 = .ok (.lreturn, 1) := by decide +kernel
theorem dX5_write_0 : decode cX5_write 0 = .ok (.aload_n 0, 1) := by decide +kernel
theorem dX5_write_1 : decode cX5_write 1 = .ok (.aload_n 0, 1) := by decide +kernel
theorem dX5_write_2 : decode cX5_write 2 = .ok (.getfield 109, 3) := by decide +kernel
theorem dX5_write_5 : decode cX5_write 5 = .ok (.aload_n 0, 1) := by decide +kernel
theorem dX5_write_6 : decode cX5_write 6 = .ok (.getfield 112, 3) := by decide +kernel
theorem dX5_write_9 : decode cX5_write 9 = .ok (.aload_n 0, 1) := by decide +kernel
theorem dX5_write_10 : decode cX5_write 10 = .ok (.getfield 115, 3) := by decide +kernel
theorem dX5_write_13 : decode cX5_write 13 = .ok (.iconst 1, 1) := by decide +kernel
theorem dX5_write_14 : decode cX5_write 14 = .ok (.invokevirtual 105, 3) := by decide +kernel
theorem dX5_write_17 : decode cX5_write 17 = .ok (.istore_n 3, 1) := by decide +kernel
theorem dX5_write_18 : decode cX5_write 18 = .ok (.iload_n 3, 1) := by decide +kernel
theorem dX5_write_19 : decode cX5_write 19 = .ok (.ifCond .ge 4, 3) := by decide +kernel
theorem dX5_write_22 : decode cX5_write 22 = .ok (.return_, 1) := by decide +kernel
theorem dX5_write_23 : decode cX5_write 23 = .ok (.aload_n 0, 1) := by decide +kernel
theorem dX5_write_24 : decode cX5_write 24 = .ok (.getfield 71, 3) := by decide +kernel
theorem dX5_write_27 : decode cX5_write 27 = .ok (.ldc2_w 87, 3) := by decide +kernel
theorem dX5_write_30 : decode cX5_write 30 = .ok (.land, 1) := by decide +kernel
theorem dX5_write_31 : decode cX5_write 31 = .ok (.lconst 0, 1) := by decide +kernel
theorem dX5_write_32 : decode cX5_write 32 = .ok (.lcmp, 1) := by decide +kernel
theorem dX5_write_33 : decode cX5_write 33 = .ok (.ifCond .eq 76, 3) := by decide +kernel
theorem dX5_write_36 : decode cX5_write 36 = .ok (.aload_n 0, 1) := by decide +kernel
theorem dX5_write_37 : decode cX5_write 37 = .ok (.getfield 26, 3) := by decide +kernel
theorem dX5_write_40 : decode cX5_write 40 = .ok (.iconst 0, 1) := by decide +kernel
theorem dX5_write_41 : decode cX5_write 41 = .ok (.laload, 1) := by decide +kernel
theorem dX5_write_42 : decode cX5_write 42 = .ok (.ldc2_w 118, 3) := by decide +kernel
theorem dX5_write_45 : decode cX5_write 45 = .ok (.land, 1) := by decide +kernel
theorem dX5_write_46 : decode cX5_write 46 = .ok (.lconst 0, 1) := by decide +kernel
theorem dX5_write_47 : decode cX5_write 47 = .ok (.lcmp, 1) := by decide +kernel
theorem dX5_write_48 : decode cX5_write 48 = .ok (.ifCond .ne 61, 3) := by decide +kernel
theorem dX5_write_51 : decode cX5_write 51 = .ok (.aload_n 0, 1) := by decide +kernel
theorem dX5_write_52 : decode cX5_write 52 = .ok (.getfield 71, 3) := by decide +kernel
theorem dX5_write_55 : decode cX5_write 55 = .ok (.iconst 0, 1) := by decide +kernel
theorem dX5_write_56 : decode cX5_write 56 = .ok (.bipush 12, 2) := by decide +kernel
theorem dX5_write_58 : decode cX5_write 58 = .ok (.invokestatic 89, 3) := by decide +kernel
theorem dX5_write_61 : decode cX5_write 61 = .ok (.aload_n 0, 1) := by decide +kernel
theorem dX5_write_62 : decode cX5_write 62 = .ok (.getfield 112, 3) := by decide +kernel
theorem dX5_write_65 : decode cX5_write 65 = .ok (.bipush 64, 2) := by decide +kernel
theorem dX5_write_67 : decode cX5_write 67 = .ok (.idiv, 1) := by decide +kernel
theorem dX5_write_68 : decode cX5_write 68 = .ok (.iadd, 1) := by decide +kernel
theorem dX5_write_69 : decode cX5_write 69 = .ok (.sipush 4095, 3) := by decide +kernel
theorem dX5_write_72 : decode cX5_write 72 = .ok (.iand, 1) := by decide +kernel
theorem dX5_write_73 : decode cX5_write 73 = .ok (.istore 4, 2) := by decide +kernel
theorem dX5_write_75 : decode cX5_write 75 = .ok (.aload_n 0, 1) := by decide +kernel
theorem dX5_write_76 : decode cX5_write 76 = .ok (.getfield 7, 3) := by decide +kernel
theorem dX5_write_79 : decode cX5_write 79 = .ok (.iload 4, 2) := by decide +kernel
theorem dX5_write_81 : decode cX5_write 81 = .ok (.aload_n 0, 1) := by decide +kernel
theorem dX5_write_82 : decode cX5_write 82 = .ok (.getfield 7, 3) := by decide +kernel
theorem dX5_write_85 : decode cX5_write 85 = .ok (.iload 4, 2) := by decide +kernel
theorem dX5_write_87 : decode cX5_write 87 = .ok (.laload, 1) := by decide +kernel
theorem dX5_write_88 : decode cX5_write 88 = .ok (.ldc2_w 118, 3) := by decide +kernel
theorem dX5_write_91 : decode cX5_write 91 = .ok (.lor, 1) := by decide +kernel
theorem dX5_write_92 : decode cX5_write 92 = .ok (.lastore, 1) := by decide +kernel
theorem dX5_write_93 : decode cX5_write 93 = .ok (.aload_n 0, 1) := by decide +kernel
theorem dX5_write_94 : decode cX5_write 94 = .ok (.getfield 26, 3) := by decide +kernel
theorem dX5_write_97 : decode cX5_write 97 = .ok (.iconst 0, 1) := by decide +kernel
theorem dX5_write_98 : decode cX5_write 98 = .ok (.aload_n 0, 1) := by decide +kernel
theorem dX5_write_99 : decode cX5_write 99 = .ok (.getfield 26, 3) := by decide +kernel
theorem dX5_write_102 : decode cX5_write 102 = .ok (.iconst 0, 1) := by decide +kernel
theorem dX5_write_103 : decode cX5_write 103 = .ok (.laload, 1) := by decide +kernel
theorem dX5_write_104 : decode cX5_write 104 = .ok (.ldc2_w 118, 3) := by decide +kernel
theorem dX5_write_107 : decode cX5_write 107 = .ok (.lor, 1) := by decide +kernel
theorem dX5_write_108 : decode cX5_write 108 = .ok (.lastore, 1) := by decide +kernel
theorem dX5_write_109 : decode cX5_write 109 = .ok (.aload_n 0, 1) := by decide +kernel
theorem dX5_write_110 : decode cX5_write 110 = .ok (.getfield 7, 3) := by decide +kernel
theorem dX5_write_113 : decode cX5_write 113 = .ok (.iload_n 3, 1) := by decide +kernel
theorem dX5_write_114 : decode cX5_write 114 = .ok (.lload_n 1, 1) := by decide +kernel
theorem dX5_write_115 : decode cX5_write 115 = .ok (.ldc2_w 120, 3) := by decide +kernel
theorem dX5_write_118 : decode cX5_write 118 = .ok (.land, 1) := by decide +kernel
theorem dX5_write_119 : decode cX5_write 119 = .ok (.lastore, 1) := by decide +kernel
theorem dX5_write_120 : decode cX5_write 120 = .ok (.return_, 1) := by decide +kernel
theorem kw270 : Cond.code yX5_look cX5_look 3 none ∈ gG := inG 706 (by decide +kernel) (by decide +kernel)
theorem kw271 : Cond.methodLink RX5 93 yX5_look ∈ gG := inG 703 (by decide +kernel) (by decide +kernel)
theorem kw272 : Cond.instanceMethod yX5_look ∈ gG := inG 705 (by decide +kernel) (by decide +kernel)
theorem kw273 : Cond.selects RX5 yX5_look yX5_look ∈ gG := inG 27 (by decide +kernel) (by decide +kernel)
theorem kw274 : Cond.code yX5_barred cX5_barred 10 (some .int) ∈ gG := inG 677 (by decide +kernel) (by decide +kernel)
theorem kw275 : Cond.methodLink RX5 97 yX5_barred ∈ gG := inG 675 (by decide +kernel) (by decide +kernel)
theorem kw276 : Cond.static yX5_barred ∈ gG := inG 676 (by decide +kernel) (by decide +kernel)
theorem kw277 : Cond.code yX5_lookPage cX5_lookPage 7 (some .long) ∈ gG := inG 710 (by decide +kernel) (by decide +kernel)
theorem kw278 : Cond.methodLink RX5 101 yX5_lookPage ∈ gG := inG 707 (by decide +kernel) (by decide +kernel)
theorem kw279 : Cond.instanceMethod yX5_lookPage ∈ gG := inG 709 (by decide +kernel) (by decide +kernel)
theorem kw280 : Cond.selects RX5 yX5_lookPage yX5_lookPage ∈ gG := inG 28 (by decide +kernel) (by decide +kernel)
theorem kw281 : Cond.code yX5_place cX5_place 10 (some .int) ∈ gG := inG 702 (by decide +kernel) (by decide +kernel)
theorem kw282 : Cond.methodLink RX5 105 yX5_place ∈ gG := inG 699 (by decide +kernel) (by decide +kernel)
theorem kw283 : Cond.instanceMethod yX5_place ∈ gG := inG 701 (by decide +kernel) (by decide +kernel)
theorem kw284 : Cond.selects RX5 yX5_place yX5_place ∈ gG := inG 26 (by decide +kernel) (by decide +kernel)
theorem kw285 : Cond.fieldLink RX5 109 RX5 "atSegment" "I" ∈ gG := inG 582 (by decide +kernel) (by decide +kernel)
theorem kw286 : Cond.fieldLink RX5 112 RX5 "atWord" "I" ∈ gG := inG 583 (by decide +kernel) (by decide +kernel)
theorem kw287 : Cond.fieldLink RX5 115 RX5 "effective" "I" ∈ gG := inG 584 (by decide +kernel) (by decide +kernel)
theorem kw288 : Cond.constantLong RX5 120 68719476735 ∈ gG := inG 750 (by decide +kernel) (by decide +kernel)
theorem hdX5_look : yX5_look.cls ≠ "java/lang/invoke/MethodHandle" ∧ yX5_look.cls ≠ "java/lang/invoke/VarHandle" ∧ (parseMethodDescriptor yX5_look.desc).map (fun d => d.parameters.length) = some 1 := by decide +kernel
theorem hdX5_barred : yX5_barred.cls ≠ "java/lang/invoke/MethodHandle" ∧ yX5_barred.cls ≠ "java/lang/invoke/VarHandle" ∧ (parseMethodDescriptor yX5_barred.desc).map (fun d => d.parameters.length) = some 5 := by decide +kernel
theorem hdX5_lookPage : yX5_lookPage.cls ≠ "java/lang/invoke/MethodHandle" ∧ yX5_lookPage.cls ≠ "java/lang/invoke/VarHandle" ∧ (parseMethodDescriptor yX5_lookPage.desc).map (fun d => d.parameters.length) = some 3 := by decide +kernel
theorem hdX5_place : yX5_place.cls ≠ "java/lang/invoke/MethodHandle" ∧ yX5_place.cls ≠ "java/lang/invoke/VarHandle" ∧ (parseMethodDescriptor yX5_place.desc).map (fun d => d.parameters.length) = some 4 := by decide +kernel
