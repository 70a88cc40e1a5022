theorem dX1_become_0 : decode cX1_become 0 = .ok (.aload_n 0, 1) := by decide +kernel
theorem dX1_become_1 : decode cX1_become 1 = .ok (.lload_n 1, 1) := by decide +kernel
theorem dX1_become_2 : decode cX1_become 2 = .ok (.ldc2_w 9, 3) := by decide +kernel
theorem dX1_become_5 : decode cX1_become 5 = .ok (.land, 1) := by decide +kernel
theorem dX1_become_6 : decode cX1_become 6 = .ok (.lconst 0, 1) := by decide +kernel
theorem dX1_become_7 : decode cX1_become 7 = .ok (.lcmp, 1) := by decide +kernel
theorem dX1_become_8 : decode cX1_become 8 = .ok (.ifCond .eq 7, 3) := by decide +kernel
theorem dX1_become_11 : decode cX1_become 11 = .ok (.iconst 1, 1) := by decide +kernel
theorem dX1_become_12 : decode cX1_become 12 = .ok (.goto 4, 3) := by decide +kernel
theorem dX1_become_15 : decode cX1_become 15 = .ok (.iconst 0, 1) := by decide +kernel
theorem dX1_become_16 : decode cX1_become 16 = .ok (.putfield 11, 3) := by decide +kernel
theorem dX1_become_19 : decode cX1_become 19 = .ok (.aload_n 0, 1) := by decide +kernel
theorem dX1_become_20 : decode cX1_become 20 = .ok (.lload_n 1, 1) := by decide +kernel
theorem dX1_become_21 : decode cX1_become 21 = .ok (.ldc2_w 17, 3) := by decide +kernel
theorem dX1_become_24 : decode cX1_become 24 = .ok (.land, 1) := by decide +kernel
theorem dX1_become_25 : decode cX1_become 25 = .ok (.lconst 0, 1) := by decide +kernel
theorem dX1_become_26 : decode cX1_become 26 = .ok (.lcmp, 1) := by decide +kernel
theorem dX1_become_27 : decode cX1_become 27 = .ok (.ifCond .eq 7, 3) := by decide +kernel
theorem dX1_become_30 : decode cX1_become 30 = .ok (.iconst 1, 1) := by decide +kernel
theorem dX1_become_31 : decode cX1_become 31 = .ok (.goto 4, 3) := by decide +kernel
theorem dX1_become_34 : decode cX1_become 34 = .ok (.iconst 0, 1) := by decide +kernel
theorem dX1_become_35 : decode cX1_become 35 = .ok (.putfield 19, 3) := by decide +kernel
theorem dX1_become_38 : decode cX1_become 38 = .ok (.aload_n 0, 1) := by decide +kernel
theorem dX1_become_39 : decode cX1_become 39 = .ok (.lload_n 1, 1) := by decide +kernel
theorem dX1_become_40 : decode cX1_become 40 = .ok (.l2i, 1) := by decide +kernel
theorem dX1_become_41 : decode cX1_become 41 = .ok (.sipush 4095, 3) := by decide +kernel
theorem dX1_become_44 : decode cX1_become 44 = .ok (.iand, 1) := by decide +kernel
theorem dX1_become_45 : decode cX1_become 45 = .ok (.putfield 22, 3) := by decide +kernel
theorem dX1_become_48 : decode cX1_become 48 = .ok (.aload_n 0, 1) := by decide +kernel
theorem dX1_become_49 : decode cX1_become 49 = .ok (.lload_n 1, 1) := by decide +kernel
theorem dX1_become_50 : decode cX1_become 50 = .ok (.bipush 12, 2) := by decide +kernel
theorem dX1_become_52 : decode cX1_become 52 = .ok (.lshr, 1) := by decide +kernel
theorem dX1_become_53 : decode cX1_become 53 = .ok (.l2i, 1) := by decide +kernel
theorem dX1_become_54 : decode cX1_become 54 = .ok (.sipush 4095, 3) := by decide +kernel
theorem dX1_become_57 : decode cX1_become 57 = .ok (.iand, 1) := by decide +kernel
theorem dX1_become_58 : decode cX1_become 58 = .ok (.putfield 26, 3) := by decide +kernel
theorem dX1_become_61 : decode cX1_become 61 = .ok (.aload_n 0, 1) := by decide +kernel
theorem dX1_become_62 : decode cX1_become 62 = .ok (.lload_n 3, 1) := by decide +kernel
theorem dX1_become_63 : decode cX1_become 63 = .ok (.l2i, 1) := by decide +kernel
theorem dX1_become_64 : decode cX1_become 64 = .ok (.bipush 7, 2) := by decide +kernel
theorem dX1_become_66 : decode cX1_become 66 = .ok (.iand, 1) := by decide +kernel
theorem dX1_become_67 : decode cX1_become 67 = .ok (.putfield 29, 3) := by decide +kernel
theorem dX1_become_70 : decode cX1_become 70 = .ok (.aload_n 0, 1) := by decide +kernel
theorem dX1_become_71 : decode cX1_become 71 = .ok (.lload_n 3, 1) := by decide +kernel
theorem dX1_become_72 : decode cX1_become 72 = .ok (.iconst 3, 1) := by decide +kernel
theorem dX1_become_73 : decode cX1_become 73 = .ok (.lshr, 1) := by decide +kernel
theorem dX1_become_74 : decode cX1_become 74 = .ok (.l2i, 1) := by decide +kernel
theorem dX1_become_75 : decode cX1_become 75 = .ok (.bipush 7, 2) := by decide +kernel
theorem dX1_become_77 : decode cX1_become 77 = .ok (.iand, 1) := by decide +kernel
theorem dX1_become_78 : decode cX1_become 78 = .ok (.putfield 32, 3) := by decide +kernel
theorem dX1_become_81 : decode cX1_become 81 = .ok (.aload_n 0, 1) := by decide +kernel
theorem dX1_become_82 : decode cX1_become 82 = .ok (.lload_n 3, 1) := by decide +kernel
theorem dX1_become_83 : decode cX1_become 83 = .ok (.bipush 6, 2) := by decide +kernel
theorem dX1_become_85 : decode cX1_become 85 = .ok (.lshr, 1) := by decide +kernel
theorem dX1_become_86 : decode cX1_become 86 = .ok (.l2i, 1) := by decide +kernel
theorem dX1_become_87 : decode cX1_become 87 = .ok (.bipush 7, 2) := by decide +kernel
theorem dX1_become_89 : decode cX1_become 89 = .ok (.iand, 1) := by decide +kernel
theorem dX1_become_90 : decode cX1_become 90 = .ok (.putfield 35, 3) := by decide +kernel
theorem dX1_become_93 : decode cX1_become 93 = .ok (.aload_n 0, 1) := by decide +kernel
theorem dX1_become_94 : decode cX1_become 94 = .ok (.lload_n 3, 1) := by decide +kernel
theorem dX1_become_95 : decode cX1_become 95 = .ok (.ldc2_w 38, 3) := by decide +kernel
theorem dX1_become_98 : decode cX1_become 98 = .ok (.land, 1) := by decide +kernel
theorem dX1_become_99 : decode cX1_become 99 = .ok (.lconst 0, 1) := by decide +kernel
theorem dX1_become_100 : decode cX1_become 100 = .ok (.lcmp, 1) := by decide +kernel
theorem dX1_become_101 : decode cX1_become 101 = .ok (.ifCond .eq 7, 3) := by decide +kernel
theorem dX1_become_104 : decode cX1_become 104 = .ok (.iconst 1, 1) := by decide +kernel
theorem dX1_become_105 : decode cX1_become 105 = .ok (.goto 4, 3) := by decide +kernel
theorem dX1_become_108 : decode cX1_become 108 = .ok (.iconst 0, 1) := by decide +kernel
theorem dX1_become_109 : decode cX1_become 109 = .ok (.putfield 40, 3) := by decide +kernel
theorem dX1_become_112 : decode cX1_become 112 = .ok (.aload_n 0, 1) := by decide +kernel
theorem dX1_become_113 : decode cX1_become 113 = .ok (.lload_n 3, 1) := by decide +kernel
theorem dX1_become_114 : decode cX1_become 114 = .ok (.ldc2_w 43, 3) := by decide +kernel
theorem dX1_become_117 : decode cX1_become 117 = .ok (.land, 1) := by decide +kernel
theorem dX1_become_118 : decode cX1_become 118 = .ok (.lconst 0, 1) := by decide +kernel
theorem dX1_become_119 : decode cX1_become 119 = .ok (.lcmp, 1) := by decide +kernel
theorem dX1_become_120 : decode cX1_become 120 = .ok (.ifCond .eq 7, 3) := by decide +kernel
theorem dX1_become_123 : decode cX1_become 123 = .ok (.iconst 1, 1) := by decide +kernel
theorem dX1_become_124 : decode cX1_become 124 = .ok (.goto 4, 3) := by decide +kernel
theorem dX1_become_127 : decode cX1_become 127 = .ok (.iconst 0, 1) := by decide +kernel
theorem dX1_become_128 : decode cX1_become 128 = .ok (.putfield 45, 3) := by decide +kernel
theorem dX1_become_131 : decode cX1_become 131 = .ok (.aload_n 0, 1) := by decide +kernel
theorem dX1_become_132 : decode cX1_become 132 = .ok (.lload_n 3, 1) := by decide +kernel
theorem dX1_become_133 : decode cX1_become 133 = .ok (.ldc2_w 48, 3) := by decide +kernel
theorem dX1_become_136 : decode cX1_become 136 = .ok (.land, 1) := by decide +kernel
theorem dX1_become_137 : decode cX1_become 137 = .ok (.lconst 0, 1) := by decide +kernel
theorem dX1_become_138 : decode cX1_become 138 = .ok (.lcmp, 1) := by decide +kernel
theorem dX1_become_139 : decode cX1_become 139 = .ok (.ifCond .eq 7, 3) := by decide +kernel
theorem dX1_become_142 : decode cX1_become 142 = .ok (.iconst 1, 1) := by decide +kernel
theorem dX1_become_143 : decode cX1_become 143 = .ok (.goto 4, 3) := by decide +kernel
theorem dX1_become_146 : decode cX1_become 146 = .ok (.iconst 0, 1) := by decide +kernel
theorem dX1_become_147 : decode cX1_become 147 = .ok (.putfield 50, 3) := by decide +kernel
theorem dX1_become_150 : decode cX1_become 150 = .ok (.aload_n 0, 1) := by decide +kernel
theorem dX1_become_151 : decode cX1_become 151 = .ok (.lload_n 3, 1) := by decide +kernel
theorem dX1_become_152 : decode cX1_become 152 = .ok (.bipush 12, 2) := by decide +kernel
theorem dX1_become_154 : decode cX1_become 154 = .ok (.lshr, 1) := by decide +kernel
theorem dX1_become_155 : decode cX1_become 155 = .ok (.l2i, 1) := by decide +kernel
theorem dX1_become_156 : decode cX1_become 156 = .ok (.sipush 4095, 3) := by decide +kernel
theorem dX1_become_159 : decode cX1_become 159 = .ok (.iand, 1) := by decide +kernel
theorem dX1_become_160 : decode cX1_become 160 = .ok (.putfield 53, 3) := by decide +kernel
theorem dX1_become_163 : decode cX1_become 163 = .ok (.return_, 1) := by decide +kernel
theorem dX1_refusal_0 : decode cX1_refusal 0 = .ok (.aload_n 0, 1) := by decide +kernel
theorem dX1_refusal_1 : decode cX1_refusal 1 = .ok (.getfield 11, 3) := by decide +kernel
theorem dX1_refusal_4 : decode cX1_refusal 4 = .ok (.ifCond .ne 5, 3) := by decide +kernel
theorem dX1_refusal_7 : decode cX1_refusal 7 = .ok (.iconst 1, 1) := by decide +kernel
theorem dX1_refusal_8 : decode cX1_refusal 8 = .ok (.ireturn, 1) := by decide +kernel
theorem dX1_refusal_9 : decode cX1_refusal 9 = .ok (.iload_n 1, 1) := by decide +kernel
theorem dX1_refusal_10 : decode cX1_refusal 10 = .ok (.aload_n 0, 1) := by decide +kernel
theorem dX1_refusal_11 : decode cX1_refusal 11 = .ok (.getfield 26, 3) := by decide +kernel
theorem dX1_refusal_14 : decode cX1_refusal 14 = .ok (.if_icmp .le 5, 3) := by decide +kernel
theorem dX1_refusal_17 : decode cX1_refusal 17 = .ok (.iconst 3, 1) := by decide +kernel
theorem dX1_refusal_18 : decode cX1_refusal 18 = .ok (.ireturn, 1) := by decide +kernel
theorem dX1_refusal_19 : decode cX1_refusal 19 = .ok (.iload_n 3, 1) := by decide +kernel
theorem dX1_refusal_20 : decode cX1_refusal 20 = .ok (.ifCond .ne 28, 3) := by decide +kernel
theorem dX1_refusal_23 : decode cX1_refusal 23 = .ok (.aload_n 0, 1) := by decide +kernel
theorem dX1_refusal_24 : decode cX1_refusal 24 = .ok (.getfield 40, 3) := by decide +kernel
theorem dX1_refusal_27 : decode cX1_refusal 27 = .ok (.ifCond .eq 15, 3) := by decide +kernel
theorem dX1_refusal_30 : decode cX1_refusal 30 = .ok (.iload_n 2, 1) := by decide +kernel
theorem dX1_refusal_31 : decode cX1_refusal 31 = .ok (.aload_n 0, 1) := by decide +kernel
theorem dX1_refusal_32 : decode cX1_refusal 32 = .ok (.getfield 32, 3) := by decide +kernel
theorem dX1_refusal_35 : decode cX1_refusal 35 = .ok (.if_icmp .gt 7, 3) := by decide +kernel
theorem dX1_refusal_38 : decode cX1_refusal 38 = .ok (.iconst 1, 1) := by decide +kernel
theorem dX1_refusal_39 : decode cX1_refusal 39 = .ok (.goto 4, 3) := by decide +kernel
theorem dX1_refusal_42 : decode cX1_refusal 42 = .ok (.iconst 0, 1) := by decide +kernel
theorem dX1_refusal_43 : decode cX1_refusal 43 = .ok (.istore 4, 2) := by decide +kernel
theorem dX1_refusal_45 : decode cX1_refusal 45 = .ok (.goto 63, 3) := by decide +kernel
theorem dX1_refusal_48 : decode cX1_refusal 48 = .ok (.iload_n 3, 1) := by decide +kernel
theorem dX1_refusal_49 : decode cX1_refusal 49 = .ok (.iconst 1, 1) := by decide +kernel
theorem dX1_refusal_50 : decode cX1_refusal 50 = .ok (.if_icmp .ne 28, 3) := by decide +kernel
theorem dX1_refusal_53 : decode cX1_refusal 53 = .ok (.aload_n 0, 1) := by decide +kernel
theorem dX1_refusal_54 : decode cX1_refusal 54 = .ok (.getfield 45, 3) := by decide +kernel
theorem dX1_refusal_57 : decode cX1_refusal 57 = .ok (.ifCond .eq 15, 3) := by decide +kernel
theorem dX1_refusal_60 : decode cX1_refusal 60 = .ok (.iload_n 2, 1) := by decide +kernel
theorem dX1_refusal_61 : decode cX1_refusal 61 = .ok (.aload_n 0, 1) := by decide +kernel
theorem dX1_refusal_62 : decode cX1_refusal 62 = .ok (.getfield 29, 3) := by decide +kernel
theorem dX1_refusal_65 : decode cX1_refusal 65 = .ok (.if_icmp .gt 7, 3) := by decide +kernel
theorem dX1_refusal_68 : decode cX1_refusal 68 = .ok (.iconst 1, 1) := by decide +kernel
theorem dX1_refusal_69 : decode cX1_refusal 69 = .ok (.goto 4, 3) := by decide +kernel
theorem dX1_refusal_72 : decode cX1_refusal 72 = .ok (.iconst 0, 1) := by decide +kernel
theorem dX1_refusal_73 : decode cX1_refusal 73 = .ok (.istore 4, 2) := by decide +kernel
theorem dX1_refusal_75 : decode cX1_refusal 75 = .ok (.goto 33, 3) := by decide +kernel
theorem dX1_refusal_78 : decode cX1_refusal 78 = .ok (.aload_n 0, 1) := by decide +kernel
theorem dX1_refusal_79 : decode cX1_refusal 79 = .ok (.getfield 50, 3) := by decide +kernel
theorem dX1_refusal_82 : decode cX1_refusal 82 = .ok (.ifCond .eq 23, 3) := by decide +kernel
theorem dX1_refusal_85 : decode cX1_refusal 85 = .ok (.iload_n 2, 1) := by decide +kernel
theorem dX1_refusal_86 : decode cX1_refusal 86 = .ok (.aload_n 0, 1) := by decide +kernel
theorem dX1_refusal_87 : decode cX1_refusal 87 = .ok (.getfield 29, 3) := by decide +kernel
theorem dX1_refusal_90 : decode cX1_refusal 90 = .ok (.if_icmp .lt 15, 3) := by decide +kernel
theorem dX1_refusal_93 : decode cX1_refusal 93 = .ok (.iload_n 2, 1) := by decide +kernel
theorem dX1_refusal_94 : decode cX1_refusal 94 = .ok (.aload_n 0, 1) := by decide +kernel
theorem dX1_refusal_95 : decode cX1_refusal 95 = .ok (.getfield 32, 3) := by decide +kernel
theorem dX1_refusal_98 : decode cX1_refusal 98 = .ok (.if_icmp .gt 7, 3) := by decide +kernel
theorem dX1_refusal_101 : decode cX1_refusal 101 = .ok (.iconst 1, 1) := by decide +kernel
theorem dX1_refusal_102 : decode cX1_refusal 102 = .ok (.goto 4, 3) := by decide +kernel
theorem dX1_refusal_105 : decode cX1_refusal 105 = .ok (.iconst 0, 1) := by decide +kernel
theorem dX1_refusal_106 : decode cX1_refusal 106 = .ok (.istore 4, 2) := by decide +kernel
theorem dX1_refusal_108 : decode cX1_refusal 108 = .ok (.iload 4, 2) := by decide +kernel
theorem dX1_refusal_110 : decode cX1_refusal 110 = .ok (.ifCond .eq 7, 3) := by decide +kernel
theorem dX1_refusal_113 : decode cX1_refusal 113 = .ok (.iconst 0, 1) := by decide +kernel
theorem dX1_refusal_114 : decode cX1_refusal 114 = .ok (.goto 4, 3) := by decide +kernel
theorem dX1_refusal_117 : decode cX1_refusal 117 = .ok (.iconst 4, 1) := by decide +kernel
theorem dX1_refusal_118 : decode cX1_refusal 118 = .ok (.ireturn, 1) := by decide +kernel
theorem dX1_ringOfCall_0 : decode cX1_ringOfCall 0 = .ok (.iload_n 2, 1) := by decide +kernel
theorem dX1_ringOfCall_1 : decode cX1_ringOfCall 1 = .ok (.aload_n 0, 1) := by decide +kernel
theorem dX1_ringOfCall_2 : decode cX1_ringOfCall 2 = .ok (.getfield 29, 3) := by decide +kernel
theorem dX1_ringOfCall_5 : decode cX1_ringOfCall 5 = .ok (.if_icmp .lt 13, 3) := by decide +kernel
theorem dX1_ringOfCall_8 : decode cX1_ringOfCall 8 = .ok (.iload_n 2, 1) := by decide +kernel
theorem dX1_ringOfCall_9 : decode cX1_ringOfCall 9 = .ok (.aload_n 0, 1) := by decide +kernel
theorem dX1_ringOfCall_10 : decode cX1_ringOfCall 10 = .ok (.getfield 32, 3) := by decide +kernel
theorem dX1_ringOfCall_13 : decode cX1_ringOfCall 13 = .ok (.if_icmp .gt 5, 3) := by decide +kernel
theorem dX1_ringOfCall_16 : decode cX1_ringOfCall 16 = .ok (.iload_n 2, 1) := by decide +kernel
theorem dX1_ringOfCall_17 : decode cX1_ringOfCall 17 = .ok (.ireturn, 1) := by decide +kernel
theorem dX1_ringOfCall_18 : decode cX1_ringOfCall 18 = .ok (.iload_n 2, 1) := by decide +kernel
theorem dX1_ringOfCall_19 : decode cX1_ringOfCall 19 = .ok (.aload_n 0, 1) := by decide +kernel
theorem dX1_ringOfCall_20 : decode cX1_ringOfCall 20 = .ok (.getfield 32, 3) := by decide +kernel
theorem dX1_ringOfCall_23 : decode cX1_ringOfCall 23 = .ok (.if_icmp .le 26, 3) := by decide +kernel
theorem dX1_ringOfCall_26 : decode cX1_ringOfCall 26 = .ok (.iload_n 2, 1) := by decide +kernel
theorem dX1_ringOfCall_27 : decode cX1_ringOfCall 27 = .ok (.aload_n 0, 1) := by decide +kernel
theorem dX1_ringOfCall_28 : decode cX1_ringOfCall 28 = .ok (.getfield 35, 3) := by decide +kernel
theorem dX1_ringOfCall_31 : decode cX1_ringOfCall 31 = .ok (.if_icmp .gt 18, 3) := by decide +kernel
theorem dX1_ringOfCall_34 : decode cX1_ringOfCall 34 = .ok (.iload_n 1, 1) := by decide +kernel
theorem dX1_ringOfCall_35 : decode cX1_ringOfCall 35 = .ok (.aload_n 0, 1) := by decide +kernel
theorem dX1_ringOfCall_36 : decode cX1_ringOfCall 36 = .ok (.getfield 53, 3) := by decide +kernel
theorem dX1_ringOfCall_39 : decode cX1_ringOfCall 39 = .ok (.if_icmp .ge 10, 3) := by decide +kernel
theorem dX1_ringOfCall_42 : decode cX1_ringOfCall 42 = .ok (.aload_n 0, 1) := by decide +kernel
theorem dX1_ringOfCall_43 : decode cX1_ringOfCall 43 = .ok (.getfield 32, 3) := by decide +kernel
theorem dX1_ringOfCall_46 : decode cX1_ringOfCall 46 = .ok (.goto 4, 3) := by decide +kernel
theorem dX1_ringOfCall_49 : decode cX1_ringOfCall 49 = .ok (.iconst (-1), 1) := by decide +kernel
theorem dX1_ringOfCall_50 : decode cX1_ringOfCall 50 = .ok (.ireturn, 1) := by decide +kernel
theorem kw8 : Cond.constantLong RX1 9 34359738368 ∈ gG := inG 404 (by decide +kernel) (by decide +kernel)
theorem kw9 : Cond.fieldLink RX1 11 RX1 "isThere" "Z" ∈ gG := inG 98 (by decide +kernel) (by decide +kernel)
theorem kw10 : Cond.constantLong RX1 17 17179869184 ∈ gG := inG 405 (by decide +kernel) (by decide +kernel)
theorem kw11 : Cond.fieldLink RX1 19 RX1 "isPaged" "Z" ∈ gG := inG 101 (by decide +kernel) (by decide +kernel)
theorem kw12 : Cond.fieldLink RX1 22 RX1 "base" "I" ∈ gG := inG 103 (by decide +kernel) (by decide +kernel)
theorem kw13 : Cond.fieldLink RX1 26 RX1 "bound" "I" ∈ gG := inG 105 (by decide +kernel) (by decide +kernel)
theorem kw14 : Cond.fieldLink RX1 29 RX1 "r1" "I" ∈ gG := inG 106 (by decide +kernel) (by decide +kernel)
theorem kw15 : Cond.fieldLink RX1 32 RX1 "r2" "I" ∈ gG := inG 108 (by decide +kernel) (by decide +kernel)
theorem kw16 : Cond.fieldLink RX1 35 RX1 "r3" "I" ∈ gG := inG 109 (by decide +kernel) (by decide +kernel)
theorem kw17 : Cond.constantLong RX1 38 512 ∈ gG := inG 406 (by decide +kernel) (by decide +kernel)
theorem kw18 : Cond.fieldLink RX1 40 RX1 "mayBeRead" "Z" ∈ gG := inG 110 (by decide +kernel) (by decide +kernel)
theorem kw19 : Cond.constantLong RX1 43 1024 ∈ gG := inG 407 (by decide +kernel) (by decide +kernel)
theorem kw20 : Cond.fieldLink RX1 45 RX1 "mayBeWritten" "Z" ∈ gG := inG 111 (by decide +kernel) (by decide +kernel)
theorem kw21 : Cond.constantLong RX1 48 2048 ∈ gG := inG 408 (by decide +kernel) (by decide +kernel)
theorem kw22 : Cond.fieldLink RX1 50 RX1 "mayBeExecuted" "Z" ∈ gG := inG 112 (by decide +kernel) (by decide +kernel)
theorem kw23 : Cond.fieldLink RX1 53 RX1 "gates" "I" ∈ gG := inG 114 (by decide +kernel) (by decide +kernel)
