theorem dX5_look_0 : decode cX5_look 0 = .ok (.aload_n 0, 1) := by decide +kernel
theorem dX5_look_1 : decode cX5_look 1 = .ok (.iload_n 1, 1) := by decide +kernel
theorem dX5_look_2 : decode cX5_look 2 = .ok (.invokevirtual 67, 3) := by decide +kernel
theorem dX5_look_5 : decode cX5_look 5 = .ok (.istore_n 2, 1) := by decide +kernel
theorem dX5_look_6 : decode cX5_look 6 = .ok (.aload_n 0, 1) := by decide +kernel
theorem dX5_look_7 : decode cX5_look 7 = .ok (.iload_n 2, 1) := by decide +kernel
theorem dX5_look_8 : decode cX5_look 8 = .ok (.ifCond .ge 14, 3) := by decide +kernel
theorem dX5_look_11 : decode cX5_look 11 = .ok (.aload_n 0, 1) := by decide +kernel
theorem dX5_look_12 : decode cX5_look 12 = .ok (.getfield 7, 3) := by decide +kernel
theorem dX5_look_15 : decode cX5_look 15 = .ok (.iconst 2, 1) := by decide +kernel
theorem dX5_look_16 : decode cX5_look 16 = .ok (.iload_n 1, 1) := by decide +kernel
theorem dX5_look_17 : decode cX5_look 17 = .ok (.imul, 1) := by decide +kernel
theorem dX5_look_18 : decode cX5_look 18 = .ok (.laload, 1) := by decide +kernel
theorem dX5_look_19 : decode cX5_look 19 = .ok (.goto 9, 3) := by decide +kernel
theorem dX5_look_22 : decode cX5_look 22 = .ok (.aload_n 0, 1) := by decide +kernel
theorem dX5_look_23 : decode cX5_look 23 = .ok (.getfield 20, 3) := by decide +kernel
theorem dX5_look_26 : decode cX5_look 26 = .ok (.iload_n 2, 1) := by decide +kernel
theorem dX5_look_27 : decode cX5_look 27 = .ok (.laload, 1) := by decide +kernel
theorem dX5_look_28 : decode cX5_look 28 = .ok (.putfield 71, 3) := by decide +kernel
theorem dX5_look_31 : decode cX5_look 31 = .ok (.aload_n 0, 1) := by decide +kernel
theorem dX5_look_32 : decode cX5_look 32 = .ok (.iload_n 2, 1) := by decide +kernel
theorem dX5_look_33 : decode cX5_look 33 = .ok (.ifCond .ge 16, 3) := by decide +kernel
theorem dX5_look_36 : decode cX5_look 36 = .ok (.aload_n 0, 1) := by decide +kernel
theorem dX5_look_37 : decode cX5_look 37 = .ok (.getfield 7, 3) := by decide +kernel
theorem dX5_look_40 : decode cX5_look 40 = .ok (.iconst 2, 1) := by decide +kernel
theorem dX5_look_41 : decode cX5_look 41 = .ok (.iload_n 1, 1) := by decide +kernel
theorem dX5_look_42 : decode cX5_look 42 = .ok (.imul, 1) := by decide +kernel
theorem dX5_look_43 : decode cX5_look 43 = .ok (.iconst 1, 1) := by decide +kernel
theorem dX5_look_44 : decode cX5_look 44 = .ok (.iadd, 1) := by decide +kernel
theorem dX5_look_45 : decode cX5_look 45 = .ok (.laload, 1) := by decide +kernel
theorem dX5_look_46 : decode cX5_look 46 = .ok (.goto 9, 3) := by decide +kernel
theorem dX5_look_49 : decode cX5_look 49 = .ok (.aload_n 0, 1) := by decide +kernel
theorem dX5_look_50 : decode cX5_look 50 = .ok (.getfield 23, 3) := by decide +kernel
theorem dX5_look_53 : decode cX5_look 53 = .ok (.iload_n 2, 1) := by decide +kernel
theorem dX5_look_54 : decode cX5_look 54 = .ok (.laload, 1) := by decide +kernel
theorem dX5_look_55 : decode cX5_look 55 = .ok (.putfield 75, 3) := by decide +kernel
theorem dX5_look_58 : decode cX5_look 58 = .ok (.iload_n 2, 1) := by decide +kernel
theorem dX5_look_59 : decode cX5_look 59 = .ok (.ifCond .ge 17, 3) := by decide +kernel
theorem dX5_look_62 : decode cX5_look 62 = .ok (.aload_n 0, 1) := by decide +kernel
theorem dX5_look_63 : decode cX5_look 63 = .ok (.getfield 71, 3) := by decide +kernel
theorem dX5_look_66 : decode cX5_look 66 = .ok (.ldc2_w 78, 3) := by decide +kernel
theorem dX5_look_69 : decode cX5_look 69 = .ok (.land, 1) := by decide +kernel
theorem dX5_look_70 : decode cX5_look 70 = .ok (.lconst 0, 1) := by decide +kernel
theorem dX5_look_71 : decode cX5_look 71 = .ok (.lcmp, 1) := by decide +kernel
theorem dX5_look_72 : decode cX5_look 72 = .ok (.ifCond .ne 4, 3) := by decide +kernel
theorem dX5_look_75 : decode cX5_look 75 = .ok (.return_, 1) := by decide +kernel
theorem dX5_look_76 : decode cX5_look 76 = .ok (.iload_n 2, 1) := by decide +kernel
theorem dX5_look_77 : decode cX5_look 77 = .ok (.ifCond .ge 32, 3) := by decide +kernel
theorem dX5_look_80 : decode cX5_look 80 = .ok (.aload_n 0, 1) := by decide +kernel
theorem dX5_look_81 : decode cX5_look 81 = .ok (.aload_n 0, 1) := by decide +kernel
theorem dX5_look_82 : decode cX5_look 82 = .ok (.getfield 64, 3) := by decide +kernel
theorem dX5_look_85 : decode cX5_look 85 = .ok (.iconst 4, 1) := by decide +kernel
theorem dX5_look_86 : decode cX5_look 86 = .ok (.if_icmp .ge 12, 3) := by decide +kernel
theorem dX5_look_89 : decode cX5_look 89 = .ok (.aload_n 0, 1) := by decide +kernel
theorem dX5_look_90 : decode cX5_look 90 = .ok (.getfield 64, 3) := by decide +kernel
theorem dX5_look_93 : decode cX5_look 93 = .ok (.iconst 1, 1) := by decide +kernel
theorem dX5_look_94 : decode cX5_look 94 = .ok (.iadd, 1) := by decide +kernel
theorem dX5_look_95 : decode cX5_look 95 = .ok (.goto 4, 3) := by decide +kernel
theorem dX5_look_98 : decode cX5_look 98 = .ok (.iconst 4, 1) := by decide +kernel
theorem dX5_look_99 : decode cX5_look 99 = .ok (.putfield 64, 3) := by decide +kernel
theorem dX5_look_102 : decode cX5_look 102 = .ok (.aload_n 0, 1) := by decide +kernel
theorem dX5_look_103 : decode cX5_look 103 = .ok (.getfield 64, 3) := by decide +kernel
theorem dX5_look_106 : decode cX5_look 106 = .ok (.iconst 1, 1) := by decide +kernel
theorem dX5_look_107 : decode cX5_look 107 = .ok (.isub, 1) := by decide +kernel
theorem dX5_look_108 : decode cX5_look 108 = .ok (.istore_n 2, 1) := by decide +kernel
theorem dX5_look_109 : decode cX5_look 109 = .ok (.iload_n 2, 1) := by decide +kernel
theorem dX5_look_110 : decode cX5_look 110 = .ok (.ifCond .le 51, 3) := by decide +kernel
theorem dX5_look_113 : decode cX5_look 113 = .ok (.aload_n 0, 1) := by decide +kernel
theorem dX5_look_114 : decode cX5_look 114 = .ok (.getfield 13, 3) := by decide +kernel
theorem dX5_look_117 : decode cX5_look 117 = .ok (.iload_n 2, 1) := by decide +kernel
theorem dX5_look_118 : decode cX5_look 118 = .ok (.aload_n 0, 1) := by decide +kernel
theorem dX5_look_119 : decode cX5_look 119 = .ok (.getfield 13, 3) := by decide +kernel
theorem dX5_look_122 : decode cX5_look 122 = .ok (.iload_n 2, 1) := by decide +kernel
theorem dX5_look_123 : decode cX5_look 123 = .ok (.iconst 1, 1) := by decide +kernel
theorem dX5_look_124 : decode cX5_look 124 = .ok (.isub, 1) := by decide +kernel
theorem dX5_look_125 : decode cX5_look 125 = .ok (.iaload, 1) := by decide +kernel
theorem dX5_look_126 : decode cX5_look 126 = .ok (.iastore, 1) := by decide +kernel
theorem dX5_look_127 : decode cX5_look 127 = .ok (.aload_n 0, 1) := by decide +kernel
theorem dX5_look_128 : decode cX5_look 128 = .ok (.getfield 20, 3) := by decide +kernel
theorem dX5_look_131 : decode cX5_look 131 = .ok (.iload_n 2, 1) := by decide +kernel
theorem dX5_look_132 : decode cX5_look 132 = .ok (.aload_n 0, 1) := by decide +kernel
theorem dX5_look_133 : decode cX5_look 133 = .ok (.getfield 20, 3) := by decide +kernel
theorem dX5_look_136 : decode cX5_look 136 = .ok (.iload_n 2, 1) := by decide +kernel
theorem dX5_look_137 : decode cX5_look 137 = .ok (.iconst 1, 1) := by decide +kernel
theorem dX5_look_138 : decode cX5_look 138 = .ok (.isub, 1) := by decide +kernel
theorem dX5_look_139 : decode cX5_look 139 = .ok (.laload, 1) := by decide +kernel
theorem dX5_look_140 : decode cX5_look 140 = .ok (.lastore, 1) := by decide +kernel
theorem dX5_look_141 : decode cX5_look 141 = .ok (.aload_n 0, 1) := by decide +kernel
theorem dX5_look_142 : decode cX5_look 142 = .ok (.getfield 23, 3) := by decide +kernel
theorem dX5_look_145 : decode cX5_look 145 = .ok (.iload_n 2, 1) := by decide +kernel
theorem dX5_look_146 : decode cX5_look 146 = .ok (.aload_n 0, 1) := by decide +kernel
theorem dX5_look_147 : decode cX5_look 147 = .ok (.getfield 23, 3) := by decide +kernel
theorem dX5_look_150 : decode cX5_look 150 = .ok (.iload_n 2, 1) := by decide +kernel
theorem dX5_look_151 : decode cX5_look 151 = .ok (.iconst 1, 1) := by decide +kernel
theorem dX5_look_152 : decode cX5_look 152 = .ok (.isub, 1) := by decide +kernel
theorem dX5_look_153 : decode cX5_look 153 = .ok (.laload, 1) := by decide +kernel
theorem dX5_look_154 : decode cX5_look 154 = .ok (.lastore, 1) := by decide +kernel
theorem dX5_look_155 : decode cX5_look 155 = .ok (.iinc 2 (-1), 3) := by decide +kernel
theorem dX5_look_158 : decode cX5_look 158 = .ok (.goto (-49), 3) := by decide +kernel
theorem dX5_look_161 : decode cX5_look 161 = .ok (.aload_n 0, 1) := by decide +kernel
theorem dX5_look_162 : decode cX5_look 162 = .ok (.getfield 13, 3) := by decide +kernel
theorem dX5_look_165 : decode cX5_look 165 = .ok (.iconst 0, 1) := by decide +kernel
theorem dX5_look_166 : decode cX5_look 166 = .ok (.iload_n 1, 1) := by decide +kernel
theorem dX5_look_167 : decode cX5_look 167 = .ok (.iastore, 1) := by decide +kernel
theorem dX5_look_168 : decode cX5_look 168 = .ok (.aload_n 0, 1) := by decide +kernel
theorem dX5_look_169 : decode cX5_look 169 = .ok (.getfield 20, 3) := by decide +kernel
theorem dX5_look_172 : decode cX5_look 172 = .ok (.iconst 0, 1) := by decide +kernel
theorem dX5_look_173 : decode cX5_look 173 = .ok (.aload_n 0, 1) := by decide +kernel
theorem dX5_look_174 : decode cX5_look 174 = .ok (.getfield 71, 3) := by decide +kernel
theorem dX5_look_177 : decode cX5_look 177 = .ok (.lastore, 1) := by decide +kernel
theorem dX5_look_178 : decode cX5_look 178 = .ok (.aload_n 0, 1) := by decide +kernel
theorem dX5_look_179 : decode cX5_look 179 = .ok (.getfield 23, 3) := by decide +kernel
theorem dX5_look_182 : decode cX5_look 182 = .ok (.iconst 0, 1) := by decide +kernel
theorem dX5_look_183 : decode cX5_look 183 = .ok (.aload_n 0, 1) := by decide +kernel
theorem dX5_look_184 : decode cX5_look 184 = .ok (.getfield 75, 3) := by decide +kernel
theorem dX5_look_187 : decode cX5_look 187 = .ok (.lastore, 1) := by decide +kernel
theorem dX5_look_188 : decode cX5_look 188 = .ok (.return_, 1) := by decide +kernel
theorem dX5_lookPage_0 : decode cX5_lookPage 0 = .ok (.aload_n 0, 1) := by decide +kernel
theorem dX5_lookPage_1 : decode cX5_lookPage 1 = .ok (.iload_n 1, 1) := by decide +kernel
theorem dX5_lookPage_2 : decode cX5_lookPage 2 = .ok (.iload_n 2, 1) := by decide +kernel
theorem dX5_lookPage_3 : decode cX5_lookPage 3 = .ok (.invokevirtual 83, 3) := by decide +kernel
theorem dX5_lookPage_6 : decode cX5_lookPage 6 = .ok (.istore 4, 2) := by decide +kernel
theorem dX5_lookPage_8 : decode cX5_lookPage 8 = .ok (.iload 4, 2) := by decide +kernel
theorem dX5_lookPage_10 : decode cX5_lookPage 10 = .ok (.ifCond .ge 12, 3) := by decide +kernel
theorem dX5_lookPage_13 : decode cX5_lookPage 13 = .ok (.aload_n 0, 1) := by decide +kernel
theorem dX5_lookPage_14 : decode cX5_lookPage 14 = .ok (.getfield 7, 3) := by decide +kernel
theorem dX5_lookPage_17 : decode cX5_lookPage 17 = .ok (.iload_n 3, 1) := by decide +kernel
theorem dX5_lookPage_18 : decode cX5_lookPage 18 = .ok (.laload, 1) := by decide +kernel
theorem dX5_lookPage_19 : decode cX5_lookPage 19 = .ok (.goto 10, 3) := by decide +kernel
theorem dX5_lookPage_22 : decode cX5_lookPage 22 = .ok (.aload_n 0, 1) := by decide +kernel
theorem dX5_lookPage_23 : decode cX5_lookPage 23 = .ok (.getfield 26, 3) := by decide +kernel
theorem dX5_lookPage_26 : decode cX5_lookPage 26 = .ok (.iload 4, 2) := by decide +kernel
theorem dX5_lookPage_28 : decode cX5_lookPage 28 = .ok (.laload, 1) := by decide +kernel
theorem dX5_lookPage_29 : decode cX5_lookPage 29 = .ok (.lstore 5, 2) := by decide +kernel
theorem dX5_lookPage_31 : decode cX5_lookPage 31 = .ok (.iload 4, 2) := by decide +kernel
theorem dX5_lookPage_33 : decode cX5_lookPage 33 = .ok (.ifCond .ge 17, 3) := by decide +kernel
theorem dX5_lookPage_36 : decode cX5_lookPage 36 = .ok (.lload 5, 2) := by decide +kernel
theorem dX5_lookPage_38 : decode cX5_lookPage 38 = .ok (.ldc2_w 78, 3) := by decide +kernel
theorem dX5_lookPage_41 : decode cX5_lookPage 41 = .ok (.land, 1) := by decide +kernel
theorem dX5_lookPage_42 : decode cX5_lookPage 42 = .ok (.lconst 0, 1) := by decide +kernel
theorem dX5_lookPage_43 : decode cX5_lookPage 43 = .ok (.lcmp, 1) := by decide +kernel
theorem dX5_lookPage_44 : decode cX5_lookPage 44 = .ok (.ifCond .ne 6, 3) := by decide +kernel
theorem dX5_lookPage_47 : decode cX5_lookPage 47 = .ok (.lload 5, 2) := by decide +kernel
theorem dX5_lookPage_49 : decode cX5_lookPage 49 = .ok (.lreturn, 1) := by decide +kernel
theorem dX5_lookPage_50 : decode cX5_lookPage 50 = .ok (.iload 4, 2) := by decide +kernel
theorem dX5_lookPage_52 : decode cX5_lookPage 52 = .ok (.ifCond .ge 49, 3) := by decide +kernel
theorem dX5_lookPage_55 : decode cX5_lookPage 55 = .ok (.lload 5, 2) := by decide +kernel
theorem dX5_lookPage_57 : decode cX5_lookPage 57 = .ok (.ldc2_w 87, 3) := by decide +kernel
theorem dX5_lookPage_60 : decode cX5_lookPage 60 = .ok (.lor, 1) := by decide +kernel
theorem dX5_lookPage_61 : decode cX5_lookPage 61 = .ok (.lstore 5, 2) := by decide +kernel
theorem dX5_lookPage_63 : decode cX5_lookPage 63 = .ok (.aload_n 0, 1) := by decide +kernel
theorem dX5_lookPage_64 : decode cX5_lookPage 64 = .ok (.getfield 7, 3) := by decide +kernel
theorem dX5_lookPage_67 : decode cX5_lookPage 67 = .ok (.iload_n 3, 1) := by decide +kernel
theorem dX5_lookPage_68 : decode cX5_lookPage 68 = .ok (.lload 5, 2) := by decide +kernel
theorem dX5_lookPage_70 : decode cX5_lookPage 70 = .ok (.lastore, 1) := by decide +kernel
theorem dX5_lookPage_71 : decode cX5_lookPage 71 = .ok (.aload_n 0, 1) := by decide +kernel
theorem dX5_lookPage_72 : decode cX5_lookPage 72 = .ok (.aload_n 0, 1) := by decide +kernel
theorem dX5_lookPage_73 : decode cX5_lookPage 73 = .ok (.getfield 80, 3) := by decide +kernel
theorem dX5_lookPage_76 : decode cX5_lookPage 76 = .ok (.iconst 4, 1) := by decide +kernel
theorem dX5_lookPage_77 : decode cX5_lookPage 77 = .ok (.if_icmp .ge 12, 3) := by decide +kernel
theorem dX5_lookPage_80 : decode cX5_lookPage 80 = .ok (.aload_n 0, 1) := by decide +kernel
theorem dX5_lookPage_81 : decode cX5_lookPage 81 = .ok (.getfield 80, 3) := by decide +kernel
theorem dX5_lookPage_84 : decode cX5_lookPage 84 = .ok (.iconst 1, 1) := by decide +kernel
theorem dX5_lookPage_85 : decode cX5_lookPage 85 = .ok (.iadd, 1) := by decide +kernel
theorem dX5_lookPage_86 : decode cX5_lookPage 86 = .ok (.goto 4, 3) := by decide +kernel
theorem dX5_lookPage_89 : decode cX5_lookPage 89 = .ok (.iconst 4, 1) := by decide +kernel
theorem dX5_lookPage_90 : decode cX5_lookPage 90 = .ok (.putfield 80, 3) := by decide +kernel
theorem dX5_lookPage_93 : decode cX5_lookPage 93 = .ok (.aload_n 0, 1) := by decide +kernel
theorem dX5_lookPage_94 : decode cX5_lookPage 94 = .ok (.getfield 80, 3) := by decide +kernel
theorem dX5_lookPage_97 : decode cX5_lookPage 97 = .ok (.iconst 1, 1) := by decide +kernel
theorem dX5_lookPage_98 : decode cX5_lookPage 98 = .ok (.isub, 1) := by decide +kernel
theorem dX5_lookPage_99 : decode cX5_lookPage 99 = .ok (.istore 4, 2) := by decide +kernel
theorem dX5_lookPage_101 : decode cX5_lookPage 101 = .ok (.iload 4, 2) := by decide +kernel
theorem dX5_lookPage_103 : decode cX5_lookPage 103 = .ok (.ifCond .le 41, 3) := by decide +kernel
theorem dX5_lookPage_106 : decode cX5_lookPage 106 = .ok (.aload_n 0, 1) := by decide +kernel
theorem dX5_lookPage_107 : decode cX5_lookPage 107 = .ok (.getfield 17, 3) := by decide +kernel
theorem dX5_lookPage_110 : decode cX5_lookPage 110 = .ok (.iload 4, 2) := by decide +kernel
theorem dX5_lookPage_112 : decode cX5_lookPage 112 = .ok (.aload_n 0, 1) := by decide +kernel
theorem dX5_lookPage_113 : decode cX5_lookPage 113 = .ok (.getfield 17, 3) := by decide +kernel
theorem dX5_lookPage_116 : decode cX5_lookPage 116 = .ok (.iload 4, 2) := by decide +kernel
theorem dX5_lookPage_118 : decode cX5_lookPage 118 = .ok (.iconst 1, 1) := by decide +kernel
theorem dX5_lookPage_119 : decode cX5_lookPage 119 = .ok (.isub, 1) := by decide +kernel
theorem dX5_lookPage_120 : decode cX5_lookPage 120 = .ok (.iaload, 1) := by decide +kernel
theorem dX5_lookPage_121 : decode cX5_lookPage 121 = .ok (.iastore, 1) := by decide +kernel
theorem dX5_lookPage_122 : decode cX5_lookPage 122 = .ok (.aload_n 0, 1) := by decide +kernel
theorem dX5_lookPage_123 : decode cX5_lookPage 123 = .ok (.getfield 26, 3) := by decide +kernel
theorem dX5_lookPage_126 : decode cX5_lookPage 126 = .ok (.iload 4, 2) := by decide +kernel
theorem dX5_lookPage_128 : decode cX5_lookPage 128 = .ok (.aload_n 0, 1) := by decide +kernel
theorem dX5_lookPage_129 : decode cX5_lookPage 129 = .ok (.getfield 26, 3) := by decide +kernel
theorem dX5_lookPage_132 : decode cX5_lookPage 132 = .ok (.iload 4, 2) := by decide +kernel
theorem dX5_lookPage_134 : decode cX5_lookPage 134 = .ok (.iconst 1, 1) := by decide +kernel
theorem dX5_lookPage_135 : decode cX5_lookPage 135 = .ok (.isub, 1) := by decide +kernel
theorem dX5_lookPage_136 : decode cX5_lookPage 136 = .ok (.laload, 1) := by decide +kernel
theorem dX5_lookPage_137 : decode cX5_lookPage 137 = .ok (.lastore, 1) := by decide +kernel
theorem dX5_lookPage_138 : decode cX5_lookPage 138 = .ok (.iinc 4 (-1), 3) := by decide +kernel
theorem dX5_lookPage_141 : decode cX5_lookPage 141 = .ok (.goto (-40), 3) := by decide +kernel
theorem dX5_lookPage_144 : decode cX5_lookPage 144 = .ok (.aload_n 0, 1) := by decide +kernel
theorem dX5_lookPage_145 : decode cX5_lookPage 145 = .ok (.getfield 17, 3) := by decide +kernel
theorem dX5_lookPage_148 : decode cX5_lookPage 148 = .ok (.iconst 0, 1) := by decide +kernel
theorem dX5_lookPage_149 : decode cX5_lookPage 149 = .ok (.bipush 64, 2) := by decide +kernel
theorem dX5_lookPage_151 : decode cX5_lookPage 151 = .ok (.iload_n 1, 1) := by decide +kernel
theorem dX5_lookPage_152 : decode cX5_lookPage 152 = .ok (.imul, 1) := by decide +kernel
theorem dX5_lookPage_153 : decode cX5_lookPage 153 = .ok (.iload_n 2, 1) := by decide +kernel
theorem dX5_lookPage_154 : decode cX5_lookPage 154 = .ok (.iadd, 1) := by decide +kernel
theorem dX5_lookPage_155 : decode cX5_lookPage 155 = .ok (.iastore, 1) := by decide +kernel
theorem dX5_lookPage_156 : decode cX5_lookPage 156 = .ok (.aload_n 0, 1) := by decide +kernel
theorem dX5_lookPage_157 : decode cX5_lookPage 157 = .ok (.getfield 26, 3) := by decide +kernel
theorem dX5_lookPage_160 : decode cX5_lookPage 160 = .ok (.iconst 0, 1) := by decide +kernel
theorem dX5_lookPage_161 : decode cX5_lookPage 161 = .ok (.lload 5, 2) := by decide +kernel
theorem dX5_lookPage_163 : decode cX5_lookPage 163 = .ok (.lastore, 1) := by decide +kernel
theorem dX5_lookPage_164 : decode cX5_lookPage 164 = .ok (.lload 5, 2) := by decide +kernel
theorem dX5_lookPage_166 : decode cX5_lookPage 166 = .ok (.lreturn, 1) := by decide +kernel
theorem kw255 : Cond.code yX5_findDescriptor cX5_findDescriptor 3 (some .int) ∈ gG := inG 674 (by decide +kernel) (by decide +kernel)
theorem kw256 : Cond.methodLink RX5 67 yX5_findDescriptor ∈ gG := inG 671 (by decide +kernel) (by decide +kernel)
theorem kw257 : Cond.instanceMethod yX5_findDescriptor ∈ gG := inG 673 (by decide +kernel) (by decide +kernel)
theorem kw258 : Cond.selects RX5 yX5_findDescriptor yX5_findDescriptor ∈ gG := inG 22 (by decide +kernel) (by decide +kernel)
theorem kw259 : Cond.fieldLink RX5 20 RX5 "first" "[J" ∈ gG := inG 557 (by decide +kernel) (by decide +kernel)
theorem kw260 : Cond.fieldLink RX5 71 RX5 "one" "J" ∈ gG := inG 585 (by decide +kernel) (by decide +kernel)
theorem kw261 : Cond.fieldLink RX5 23 RX5 "second" "[J" ∈ gG := inG 558 (by decide +kernel) (by decide +kernel)
theorem kw262 : Cond.fieldLink RX5 75 RX5 "two" "J" ∈ gG := inG 586 (by decide +kernel) (by decide +kernel)
theorem kw263 : Cond.fieldLink RX5 7 RX5 "memory" "[J" ∈ gG := inG 552 (by decide +kernel) (by decide +kernel)
theorem kw264 : Cond.code yX5_findPage cX5_findPage 4 (some .int) ∈ gG := inG 686 (by decide +kernel) (by decide +kernel)
theorem kw265 : Cond.methodLink RX5 83 yX5_findPage ∈ gG := inG 683 (by decide +kernel) (by decide +kernel)
theorem kw266 : Cond.instanceMethod yX5_findPage ∈ gG := inG 685 (by decide +kernel) (by decide +kernel)
theorem kw267 : Cond.selects RX5 yX5_findPage yX5_findPage ∈ gG := inG 23 (by decide +kernel) (by decide +kernel)
theorem kw268 : Cond.fieldLink RX5 26 RX5 "pageWord" "[J" ∈ gG := inG 559 (by decide +kernel) (by decide +kernel)
theorem kw269 : Cond.constantLong RX5 87 17179869184 ∈ gG := inG 682 (by decide +kernel) (by decide +kernel)
theorem hdX5_findDescriptor : yX5_findDescriptor.cls ≠ "java/lang/invoke/MethodHandle" ∧ yX5_findDescriptor.cls ≠ "java/lang/invoke/VarHandle" ∧ (parseMethodDescriptor yX5_findDescriptor.desc).map (fun d => d.parameters.length) = some 1 := by decide +kernel
theorem hdX5_findPage : yX5_findPage.cls ≠ "java/lang/invoke/MethodHandle" ∧ yX5_findPage.cls ≠ "java/lang/invoke/VarHandle" ∧ (parseMethodDescriptor yX5_findPage.desc).map (fun d => d.parameters.length) = some 2 := by decide +kernel
