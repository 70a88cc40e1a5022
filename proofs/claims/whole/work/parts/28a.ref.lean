theorem dX5_reach_0 : decode cX5_reach 0 = .ok (.aload_n 0, 1) := by decide +kernel
theorem dX5_reach_1 : decode cX5_reach 1 = .ok (.iload_n 1, 1) := by decide +kernel
theorem dX5_reach_2 : decode cX5_reach 2 = .ok (.ifCond .lt 9, 3) := by decide +kernel
theorem dX5_reach_5 : decode cX5_reach 5 = .ok (.iload_n 1, 1) := by decide +kernel
theorem dX5_reach_6 : decode cX5_reach 6 = .ok (.bipush 15, 2) := by decide +kernel
theorem dX5_reach_8 : decode cX5_reach 8 = .ok (.if_icmp .le 7, 3) := by decide +kernel
theorem dX5_reach_11 : decode cX5_reach 11 = .ok (.iconst 1, 1) := by decide +kernel
theorem dX5_reach_12 : decode cX5_reach 12 = .ok (.goto 40, 3) := by decide +kernel
theorem dX5_reach_15 : decode cX5_reach 15 = .ok (.iload_n 3, 1) := by decide +kernel
theorem dX5_reach_16 : decode cX5_reach 16 = .ok (.ifCond .lt 31, 3) := by decide +kernel
theorem dX5_reach_19 : decode cX5_reach 19 = .ok (.iload_n 3, 1) := by decide +kernel
theorem dX5_reach_20 : decode cX5_reach 20 = .ok (.bipush 7, 2) := by decide +kernel
theorem dX5_reach_22 : decode cX5_reach 22 = .ok (.if_icmp .gt 25, 3) := by decide +kernel
theorem dX5_reach_25 : decode cX5_reach 25 = .ok (.iload_n 2, 1) := by decide +kernel
theorem dX5_reach_26 : decode cX5_reach 26 = .ok (.ifCond .lt 21, 3) := by decide +kernel
theorem dX5_reach_29 : decode cX5_reach 29 = .ok (.iload_n 2, 1) := by decide +kernel
theorem dX5_reach_30 : decode cX5_reach 30 = .ok (.sipush 4095, 3) := by decide +kernel
theorem dX5_reach_33 : decode cX5_reach 33 = .ok (.if_icmp .gt 14, 3) := by decide +kernel
theorem dX5_reach_36 : decode cX5_reach 36 = .ok (.iload 4, 2) := by decide +kernel
theorem dX5_reach_38 : decode cX5_reach 38 = .ok (.ifCond .lt 9, 3) := by decide +kernel
theorem dX5_reach_41 : decode cX5_reach 41 = .ok (.iload 4, 2) := by decide +kernel
theorem dX5_reach_43 : decode cX5_reach 43 = .ok (.iconst 2, 1) := by decide +kernel
theorem dX5_reach_44 : decode cX5_reach 44 = .ok (.if_icmp .le 7, 3) := by decide +kernel
theorem dX5_reach_47 : decode cX5_reach 47 = .ok (.iconst 2, 1) := by decide +kernel
theorem dX5_reach_48 : decode cX5_reach 48 = .ok (.goto 4, 3) := by decide +kernel
theorem dX5_reach_51 : decode cX5_reach 51 = .ok (.iconst 0, 1) := by decide +kernel
theorem dX5_reach_52 : decode cX5_reach 52 = .ok (.putfield 41, 3) := by decide +kernel
theorem dX5_reach_55 : decode cX5_reach 55 = .ok (.aload_n 0, 1) := by decide +kernel
theorem dX5_reach_56 : decode cX5_reach 56 = .ok (.getfield 41, 3) := by decide +kernel
theorem dX5_reach_59 : decode cX5_reach 59 = .ok (.ifCond .le 5, 3) := by decide +kernel
theorem dX5_reach_62 : decode cX5_reach 62 = .ok (.iconst 0, 1) := by decide +kernel
theorem dX5_reach_63 : decode cX5_reach 63 = .ok (.ireturn, 1) := by decide +kernel
theorem dX5_reach_64 : decode cX5_reach 64 = .ok (.aload_n 0, 1) := by decide +kernel
theorem dX5_reach_65 : decode cX5_reach 65 = .ok (.iload_n 1, 1) := by decide +kernel
theorem dX5_reach_66 : decode cX5_reach 66 = .ok (.invokevirtual 67, 3) := by decide +kernel
theorem dX5_reach_69 : decode cX5_reach 69 = .ok (.istore 5, 2) := by decide +kernel
theorem dX5_reach_71 : decode cX5_reach 71 = .ok (.iload 5, 2) := by decide +kernel
theorem dX5_reach_73 : decode cX5_reach 73 = .ok (.ifCond .ge 14, 3) := by decide +kernel
theorem dX5_reach_76 : decode cX5_reach 76 = .ok (.aload_n 0, 1) := by decide +kernel
theorem dX5_reach_77 : decode cX5_reach 77 = .ok (.getfield 7, 3) := by decide +kernel
theorem dX5_reach_80 : decode cX5_reach 80 = .ok (.iconst 2, 1) := by decide +kernel
theorem dX5_reach_81 : decode cX5_reach 81 = .ok (.iload_n 1, 1) := by decide +kernel
theorem dX5_reach_82 : decode cX5_reach 82 = .ok (.imul, 1) := by decide +kernel
theorem dX5_reach_83 : decode cX5_reach 83 = .ok (.laload, 1) := by decide +kernel
theorem dX5_reach_84 : decode cX5_reach 84 = .ok (.goto 10, 3) := by decide +kernel
theorem dX5_reach_87 : decode cX5_reach 87 = .ok (.aload_n 0, 1) := by decide +kernel
theorem dX5_reach_88 : decode cX5_reach 88 = .ok (.getfield 20, 3) := by decide +kernel
theorem dX5_reach_91 : decode cX5_reach 91 = .ok (.iload 5, 2) := by decide +kernel
theorem dX5_reach_93 : decode cX5_reach 93 = .ok (.laload, 1) := by decide +kernel
theorem dX5_reach_94 : decode cX5_reach 94 = .ok (.lstore 6, 2) := by decide +kernel
theorem dX5_reach_96 : decode cX5_reach 96 = .ok (.iload 5, 2) := by decide +kernel
theorem dX5_reach_98 : decode cX5_reach 98 = .ok (.ifCond .ge 16, 3) := by decide +kernel
theorem dX5_reach_101 : decode cX5_reach 101 = .ok (.aload_n 0, 1) := by decide +kernel
theorem dX5_reach_102 : decode cX5_reach 102 = .ok (.getfield 7, 3) := by decide +kernel
theorem dX5_reach_105 : decode cX5_reach 105 = .ok (.iconst 2, 1) := by decide +kernel
theorem dX5_reach_106 : decode cX5_reach 106 = .ok (.iload_n 1, 1) := by decide +kernel
theorem dX5_reach_107 : decode cX5_reach 107 = .ok (.imul, 1) := by decide +kernel
theorem dX5_reach_108 : decode cX5_reach 108 = .ok (.iconst 1, 1) := by decide +kernel
theorem dX5_reach_109 : decode cX5_reach 109 = .ok (.iadd, 1) := by decide +kernel
theorem dX5_reach_110 : decode cX5_reach 110 = .ok (.laload, 1) := by decide +kernel
theorem dX5_reach_111 : decode cX5_reach 111 = .ok (.goto 10, 3) := by decide +kernel
theorem dX5_reach_114 : decode cX5_reach 114 = .ok (.aload_n 0, 1) := by decide +kernel
theorem dX5_reach_115 : decode cX5_reach 115 = .ok (.getfield 23, 3) := by decide +kernel
theorem dX5_reach_118 : decode cX5_reach 118 = .ok (.iload 5, 2) := by decide +kernel
theorem dX5_reach_120 : decode cX5_reach 120 = .ok (.laload, 1) := by decide +kernel
theorem dX5_reach_121 : decode cX5_reach 121 = .ok (.lstore 8, 2) := by decide +kernel
theorem dX5_reach_123 : decode cX5_reach 123 = .ok (.lload 6, 2) := by decide +kernel
theorem dX5_reach_125 : decode cX5_reach 125 = .ok (.lload 8, 2) := by decide +kernel
theorem dX5_reach_127 : decode cX5_reach 127 = .ok (.iload_n 2, 1) := by decide +kernel
theorem dX5_reach_128 : decode cX5_reach 128 = .ok (.iload_n 3, 1) := by decide +kernel
theorem dX5_reach_129 : decode cX5_reach 129 = .ok (.iload 4, 2) := by decide +kernel
theorem dX5_reach_131 : decode cX5_reach 131 = .ok (.invokestatic 97, 3) := by decide +kernel
theorem dX5_reach_134 : decode cX5_reach 134 = .ok (.istore 10, 2) := by decide +kernel
theorem dX5_reach_136 : decode cX5_reach 136 = .ok (.iload 10, 2) := by decide +kernel
theorem dX5_reach_138 : decode cX5_reach 138 = .ok (.ifCond .le 8, 3) := by decide +kernel
theorem dX5_reach_141 : decode cX5_reach 141 = .ok (.iconst (-1), 1) := by decide +kernel
theorem dX5_reach_142 : decode cX5_reach 142 = .ok (.iload 10, 2) := by decide +kernel
theorem dX5_reach_144 : decode cX5_reach 144 = .ok (.isub, 1) := by decide +kernel
theorem dX5_reach_145 : decode cX5_reach 145 = .ok (.ireturn, 1) := by decide +kernel
theorem dX5_reach_146 : decode cX5_reach 146 = .ok (.lload 6, 2) := by decide +kernel
theorem dX5_reach_148 : decode cX5_reach 148 = .ok (.ldc2_w 87, 3) := by decide +kernel
theorem dX5_reach_151 : decode cX5_reach 151 = .ok (.land, 1) := by decide +kernel
theorem dX5_reach_152 : decode cX5_reach 152 = .ok (.lconst 0, 1) := by decide +kernel
theorem dX5_reach_153 : decode cX5_reach 153 = .ok (.lcmp, 1) := by decide +kernel
theorem dX5_reach_154 : decode cX5_reach 154 = .ok (.ifCond .ne 18, 3) := by decide +kernel
theorem dX5_reach_157 : decode cX5_reach 157 = .ok (.lload 6, 2) := by decide +kernel
theorem dX5_reach_159 : decode cX5_reach 159 = .ok (.iconst 0, 1) := by decide +kernel
theorem dX5_reach_160 : decode cX5_reach 160 = .ok (.bipush 12, 2) := by decide +kernel
theorem dX5_reach_162 : decode cX5_reach 162 = .ok (.invokestatic 89, 3) := by decide +kernel
theorem dX5_reach_165 : decode cX5_reach 165 = .ok (.iload_n 2, 1) := by decide +kernel
theorem dX5_reach_166 : decode cX5_reach 166 = .ok (.iadd, 1) := by decide +kernel
theorem dX5_reach_167 : decode cX5_reach 167 = .ok (.sipush 4095, 3) := by decide +kernel
theorem dX5_reach_170 : decode cX5_reach 170 = .ok (.iand, 1) := by decide +kernel
theorem dX5_reach_171 : decode cX5_reach 171 = .ok (.ireturn, 1) := by decide +kernel
theorem dX5_reach_172 : decode cX5_reach 172 = .ok (.aload_n 0, 1) := by decide +kernel
theorem dX5_reach_173 : decode cX5_reach 173 = .ok (.iload_n 1, 1) := by decide +kernel
theorem dX5_reach_174 : decode cX5_reach 174 = .ok (.iload_n 2, 1) := by decide +kernel
theorem dX5_reach_175 : decode cX5_reach 175 = .ok (.bipush 64, 2) := by decide +kernel
theorem dX5_reach_177 : decode cX5_reach 177 = .ok (.idiv, 1) := by decide +kernel
theorem dX5_reach_178 : decode cX5_reach 178 = .ok (.invokevirtual 83, 3) := by decide +kernel
theorem dX5_reach_181 : decode cX5_reach 181 = .ok (.istore 11, 2) := by decide +kernel
theorem dX5_reach_183 : decode cX5_reach 183 = .ok (.iload 11, 2) := by decide +kernel
theorem dX5_reach_185 : decode cX5_reach 185 = .ok (.ifCond .ge 28, 3) := by decide +kernel
theorem dX5_reach_188 : decode cX5_reach 188 = .ok (.aload_n 0, 1) := by decide +kernel
theorem dX5_reach_189 : decode cX5_reach 189 = .ok (.getfield 7, 3) := by decide +kernel
theorem dX5_reach_192 : decode cX5_reach 192 = .ok (.lload 6, 2) := by decide +kernel
theorem dX5_reach_194 : decode cX5_reach 194 = .ok (.iconst 0, 1) := by decide +kernel
theorem dX5_reach_195 : decode cX5_reach 195 = .ok (.bipush 12, 2) := by decide +kernel
theorem dX5_reach_197 : decode cX5_reach 197 = .ok (.invokestatic 89, 3) := by decide +kernel
theorem dX5_reach_200 : decode cX5_reach 200 = .ok (.iload_n 2, 1) := by decide +kernel
theorem dX5_reach_201 : decode cX5_reach 201 = .ok (.bipush 64, 2) := by decide +kernel
theorem dX5_reach_203 : decode cX5_reach 203 = .ok (.idiv, 1) := by decide +kernel
theorem dX5_reach_204 : decode cX5_reach 204 = .ok (.iadd, 1) := by decide +kernel
theorem dX5_reach_205 : decode cX5_reach 205 = .ok (.sipush 4095, 3) := by decide +kernel
theorem dX5_reach_208 : decode cX5_reach 208 = .ok (.iand, 1) := by decide +kernel
theorem dX5_reach_209 : decode cX5_reach 209 = .ok (.laload, 1) := by decide +kernel
theorem dX5_reach_210 : decode cX5_reach 210 = .ok (.goto 10, 3) := by decide +kernel
theorem dX5_reach_213 : decode cX5_reach 213 = .ok (.aload_n 0, 1) := by decide +kernel
theorem dX5_reach_214 : decode cX5_reach 214 = .ok (.getfield 26, 3) := by decide +kernel
theorem dX5_reach_217 : decode cX5_reach 217 = .ok (.iload 11, 2) := by decide +kernel
theorem dX5_reach_219 : decode cX5_reach 219 = .ok (.laload, 1) := by decide +kernel
theorem dX5_reach_220 : decode cX5_reach 220 = .ok (.lstore 12, 2) := by decide +kernel
theorem dX5_reach_222 : decode cX5_reach 222 = .ok (.lload 12, 2) := by decide +kernel
theorem dX5_reach_224 : decode cX5_reach 224 = .ok (.ldc2_w 78, 3) := by decide +kernel
theorem dX5_reach_227 : decode cX5_reach 227 = .ok (.land, 1) := by decide +kernel
theorem dX5_reach_228 : decode cX5_reach 228 = .ok (.lconst 0, 1) := by decide +kernel
theorem dX5_reach_229 : decode cX5_reach 229 = .ok (.lcmp, 1) := by decide +kernel
theorem dX5_reach_230 : decode cX5_reach 230 = .ok (.ifCond .ne 8, 3) := by decide +kernel
theorem dX5_reach_233 : decode cX5_reach 233 = .ok (.bipush (-3), 2) := by decide +kernel
theorem dX5_reach_235 : decode cX5_reach 235 = .ok (.goto 19, 3) := by decide +kernel
theorem dX5_reach_238 : decode cX5_reach 238 = .ok (.bipush 64, 2) := by decide +kernel
theorem dX5_reach_240 : decode cX5_reach 240 = .ok (.lload 12, 2) := by decide +kernel
theorem dX5_reach_242 : decode cX5_reach 242 = .ok (.iconst 0, 1) := by decide +kernel
theorem dX5_reach_243 : decode cX5_reach 243 = .ok (.bipush 6, 2) := by decide +kernel
theorem dX5_reach_245 : decode cX5_reach 245 = .ok (.invokestatic 89, 3) := by decide +kernel
theorem dX5_reach_248 : decode cX5_reach 248 = .ok (.imul, 1) := by decide +kernel
theorem dX5_reach_249 : decode cX5_reach 249 = .ok (.iload_n 2, 1) := by decide +kernel
theorem dX5_reach_250 : decode cX5_reach 250 = .ok (.bipush 64, 2) := by decide +kernel
theorem dX5_reach_252 : decode cX5_reach 252 = .ok (.irem, 1) := by decide +kernel
theorem dX5_reach_253 : decode cX5_reach 253 = .ok (.iadd, 1) := by decide +kernel
theorem dX5_reach_254 : decode cX5_reach 254 = .ok (.ireturn, 1) := by decide +kernel
