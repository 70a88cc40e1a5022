theorem dX5_address_0 : decode cX5_address 0 = .ok (.lload_n 1, 1) := by decide +kernel
theorem dX5_address_1 : decode cX5_address 1 = .ok (.iconst 0, 1) := by decide +kernel
theorem dX5_address_2 : decode cX5_address 2 = .ok (.bipush 12, 2) := by decide +kernel
theorem dX5_address_4 : decode cX5_address 4 = .ok (.invokestatic 89, 3) := by decide +kernel
theorem dX5_address_7 : decode cX5_address 7 = .ok (.istore_n 3, 1) := by decide +kernel
theorem dX5_address_8 : decode cX5_address 8 = .ok (.lload_n 1, 1) := by decide +kernel
theorem dX5_address_9 : decode cX5_address 9 = .ok (.bipush 27, 2) := by decide +kernel
theorem dX5_address_11 : decode cX5_address 11 = .ok (.iconst 2, 1) := by decide +kernel
theorem dX5_address_12 : decode cX5_address 12 = .ok (.invokestatic 89, 3) := by decide +kernel
theorem dX5_address_15 : decode cX5_address 15 = .ok (.istore 4, 2) := by decide +kernel
theorem dX5_address_17 : decode cX5_address 17 = .ok (.lload_n 1, 1) := by decide +kernel
theorem dX5_address_18 : decode cX5_address 18 = .ok (.bipush 29, 2) := by decide +kernel
theorem dX5_address_20 : decode cX5_address 20 = .ok (.iconst 1, 1) := by decide +kernel
theorem dX5_address_21 : decode cX5_address 21 = .ok (.invokestatic 89, 3) := by decide +kernel
theorem dX5_address_24 : decode cX5_address 24 = .ok (.iconst 1, 1) := by decide +kernel
theorem dX5_address_25 : decode cX5_address 25 = .ok (.if_icmp .ne 7, 3) := by decide +kernel
theorem dX5_address_28 : decode cX5_address 28 = .ok (.iconst 1, 1) := by decide +kernel
theorem dX5_address_29 : decode cX5_address 29 = .ok (.goto 4, 3) := by decide +kernel
theorem dX5_address_32 : decode cX5_address 32 = .ok (.iconst 0, 1) := by decide +kernel
theorem dX5_address_33 : decode cX5_address 33 = .ok (.istore 5, 2) := by decide +kernel
theorem dX5_address_35 : decode cX5_address 35 = .ok (.lload_n 1, 1) := by decide +kernel
theorem dX5_address_36 : decode cX5_address 36 = .ok (.bipush 24, 2) := by decide +kernel
theorem dX5_address_38 : decode cX5_address 38 = .ok (.iconst 2, 1) := by decide +kernel
theorem dX5_address_39 : decode cX5_address 39 = .ok (.invokestatic 89, 3) := by decide +kernel
theorem dX5_address_42 : decode cX5_address 42 = .ok (.istore 6, 2) := by decide +kernel
theorem dX5_address_44 : decode cX5_address 44 = .ok (.aload_n 0, 1) := by decide +kernel
theorem dX5_address_45 : decode cX5_address 45 = .ok (.iload 5, 2) := by decide +kernel
theorem dX5_address_47 : decode cX5_address 47 = .ok (.ifCond .eq 13, 3) := by decide +kernel
theorem dX5_address_50 : decode cX5_address 50 = .ok (.aload_n 0, 1) := by decide +kernel
theorem dX5_address_51 : decode cX5_address 51 = .ok (.getfield 32, 3) := by decide +kernel
theorem dX5_address_54 : decode cX5_address 54 = .ok (.iload 4, 2) := by decide +kernel
theorem dX5_address_56 : decode cX5_address 56 = .ok (.iaload, 1) := by decide +kernel
theorem dX5_address_57 : decode cX5_address 57 = .ok (.goto 7, 3) := by decide +kernel
theorem dX5_address_60 : decode cX5_address 60 = .ok (.aload_n 0, 1) := by decide +kernel
theorem dX5_address_61 : decode cX5_address 61 = .ok (.getfield 54, 3) := by decide +kernel
theorem dX5_address_64 : decode cX5_address 64 = .ok (.putfield 109, 3) := by decide +kernel
theorem dX5_address_67 : decode cX5_address 67 = .ok (.aload_n 0, 1) := by decide +kernel
theorem dX5_address_68 : decode cX5_address 68 = .ok (.iload 5, 2) := by decide +kernel
theorem dX5_address_70 : decode cX5_address 70 = .ok (.ifCond .eq 13, 3) := by decide +kernel
theorem dX5_address_73 : decode cX5_address 73 = .ok (.aload_n 0, 1) := by decide +kernel
theorem dX5_address_74 : decode cX5_address 74 = .ok (.getfield 35, 3) := by decide +kernel
theorem dX5_address_77 : decode cX5_address 77 = .ok (.iload 4, 2) := by decide +kernel
theorem dX5_address_79 : decode cX5_address 79 = .ok (.iaload, 1) := by decide +kernel
theorem dX5_address_80 : decode cX5_address 80 = .ok (.goto 4, 3) := by decide +kernel
theorem dX5_address_83 : decode cX5_address 83 = .ok (.iconst 0, 1) := by decide +kernel
theorem dX5_address_84 : decode cX5_address 84 = .ok (.iload_n 3, 1) := by decide +kernel
theorem dX5_address_85 : decode cX5_address 85 = .ok (.iadd, 1) := by decide +kernel
theorem dX5_address_86 : decode cX5_address 86 = .ok (.iload 6, 2) := by decide +kernel
theorem dX5_address_88 : decode cX5_address 88 = .ok (.ifCond .le 13, 3) := by decide +kernel
theorem dX5_address_91 : decode cX5_address 91 = .ok (.aload_n 0, 1) := by decide +kernel
theorem dX5_address_92 : decode cX5_address 92 = .ok (.getfield 29, 3) := by decide +kernel
theorem dX5_address_95 : decode cX5_address 95 = .ok (.iload 6, 2) := by decide +kernel
theorem dX5_address_97 : decode cX5_address 97 = .ok (.iaload, 1) := by decide +kernel
theorem dX5_address_98 : decode cX5_address 98 = .ok (.goto 4, 3) := by decide +kernel
theorem dX5_address_101 : decode cX5_address 101 = .ok (.iconst 0, 1) := by decide +kernel
theorem dX5_address_102 : decode cX5_address 102 = .ok (.iadd, 1) := by decide +kernel
theorem dX5_address_103 : decode cX5_address 103 = .ok (.sipush 4095, 3) := by decide +kernel
theorem dX5_address_106 : decode cX5_address 106 = .ok (.iand, 1) := by decide +kernel
theorem dX5_address_107 : decode cX5_address 107 = .ok (.putfield 112, 3) := by decide +kernel
theorem dX5_address_110 : decode cX5_address 110 = .ok (.aload_n 0, 1) := by decide +kernel
theorem dX5_address_111 : decode cX5_address 111 = .ok (.iload 5, 2) := by decide +kernel
theorem dX5_address_113 : decode cX5_address 113 = .ok (.ifCond .eq 20, 3) := by decide +kernel
theorem dX5_address_116 : decode cX5_address 116 = .ok (.aload_n 0, 1) := by decide +kernel
theorem dX5_address_117 : decode cX5_address 117 = .ok (.getfield 122, 3) := by decide +kernel
theorem dX5_address_120 : decode cX5_address 120 = .ok (.aload_n 0, 1) := by decide +kernel
theorem dX5_address_121 : decode cX5_address 121 = .ok (.getfield 38, 3) := by decide +kernel
theorem dX5_address_124 : decode cX5_address 124 = .ok (.iload 4, 2) := by decide +kernel
theorem dX5_address_126 : decode cX5_address 126 = .ok (.iaload, 1) := by decide +kernel
theorem dX5_address_127 : decode cX5_address 127 = .ok (.invokestatic 125, 3) := by decide +kernel
theorem dX5_address_130 : decode cX5_address 130 = .ok (.goto 7, 3) := by decide +kernel
theorem dX5_address_133 : decode cX5_address 133 = .ok (.aload_n 0, 1) := by decide +kernel
theorem dX5_address_134 : decode cX5_address 134 = .ok (.getfield 122, 3) := by decide +kernel
theorem dX5_address_137 : decode cX5_address 137 = .ok (.putfield 115, 3) := by decide +kernel
theorem dX5_address_140 : decode cX5_address 140 = .ok (.lload_n 1, 1) := by decide +kernel
theorem dX5_address_141 : decode cX5_address 141 = .ok (.bipush 26, 2) := by decide +kernel
theorem dX5_address_143 : decode cX5_address 143 = .ok (.iconst 1, 1) := by decide +kernel
theorem dX5_address_144 : decode cX5_address 144 = .ok (.invokestatic 89, 3) := by decide +kernel
theorem dX5_address_147 : decode cX5_address 147 = .ok (.iconst 1, 1) := by decide +kernel
theorem dX5_address_148 : decode cX5_address 148 = .ok (.if_icmp .ne 7, 3) := by decide +kernel
theorem dX5_address_151 : decode cX5_address 151 = .ok (.iconst 1, 1) := by decide +kernel
theorem dX5_address_152 : decode cX5_address 152 = .ok (.goto 4, 3) := by decide +kernel
theorem dX5_address_155 : decode cX5_address 155 = .ok (.iconst 0, 1) := by decide +kernel
theorem dX5_address_156 : decode cX5_address 156 = .ok (.istore 7, 2) := by decide +kernel
theorem dX5_address_158 : decode cX5_address 158 = .ok (.iconst 0, 1) := by decide +kernel
theorem dX5_address_159 : decode cX5_address 159 = .ok (.istore 8, 2) := by decide +kernel
theorem dX5_address_161 : decode cX5_address 161 = .ok (.iload 7, 2) := by decide +kernel
theorem dX5_address_163 : decode cX5_address 163 = .ok (.ifCond .eq 100, 3) := by decide +kernel
theorem dX5_address_166 : decode cX5_address 166 = .ok (.aload_n 0, 1) := by decide +kernel
theorem dX5_address_167 : decode cX5_address 167 = .ok (.getfield 45, 3) := by decide +kernel
theorem dX5_address_170 : decode cX5_address 170 = .ok (.ifCond .ne 93, 3) := by decide +kernel
theorem dX5_address_173 : decode cX5_address 173 = .ok (.iload 8, 2) := by decide +kernel
theorem dX5_address_175 : decode cX5_address 175 = .ok (.iconst 5, 1) := by decide +kernel
theorem dX5_address_176 : decode cX5_address 176 = .ok (.if_icmp .ne 10, 3) := by decide +kernel
theorem dX5_address_179 : decode cX5_address 179 = .ok (.aload_n 0, 1) := by decide +kernel
theorem dX5_address_180 : decode cX5_address 180 = .ok (.bipush 6, 2) := by decide +kernel
theorem dX5_address_182 : decode cX5_address 182 = .ok (.invokevirtual 128, 3) := by decide +kernel
theorem dX5_address_185 : decode cX5_address 185 = .ok (.return_, 1) := by decide +kernel
theorem dX5_address_186 : decode cX5_address 186 = .ok (.aload_n 0, 1) := by decide +kernel
theorem dX5_address_187 : decode cX5_address 187 = .ok (.aload_n 0, 1) := by decide +kernel
theorem dX5_address_188 : decode cX5_address 188 = .ok (.getfield 109, 3) := by decide +kernel
theorem dX5_address_191 : decode cX5_address 191 = .ok (.aload_n 0, 1) := by decide +kernel
theorem dX5_address_192 : decode cX5_address 192 = .ok (.getfield 112, 3) := by decide +kernel
theorem dX5_address_195 : decode cX5_address 195 = .ok (.aload_n 0, 1) := by decide +kernel
theorem dX5_address_196 : decode cX5_address 196 = .ok (.getfield 115, 3) := by decide +kernel
theorem dX5_address_199 : decode cX5_address 199 = .ok (.invokevirtual 131, 3) := by decide +kernel
theorem dX5_address_202 : decode cX5_address 202 = .ok (.lstore 9, 2) := by decide +kernel
theorem dX5_address_204 : decode cX5_address 204 = .ok (.aload_n 0, 1) := by decide +kernel
theorem dX5_address_205 : decode cX5_address 205 = .ok (.getfield 45, 3) := by decide +kernel
theorem dX5_address_208 : decode cX5_address 208 = .ok (.ifCond .le 4, 3) := by decide +kernel
theorem dX5_address_211 : decode cX5_address 211 = .ok (.return_, 1) := by decide +kernel
theorem dX5_address_212 : decode cX5_address 212 = .ok (.aload_n 0, 1) := by decide +kernel
theorem dX5_address_213 : decode cX5_address 213 = .ok (.aload_n 0, 1) := by decide +kernel
theorem dX5_address_214 : decode cX5_address 214 = .ok (.getfield 115, 3) := by decide +kernel
theorem dX5_address_217 : decode cX5_address 217 = .ok (.aload_n 0, 1) := by decide +kernel
theorem dX5_address_218 : decode cX5_address 218 = .ok (.getfield 75, 3) := by decide +kernel
theorem dX5_address_221 : decode cX5_address 221 = .ok (.iconst 0, 1) := by decide +kernel
theorem dX5_address_222 : decode cX5_address 222 = .ok (.iconst 3, 1) := by decide +kernel
theorem dX5_address_223 : decode cX5_address 223 = .ok (.invokestatic 89, 3) := by decide +kernel
theorem dX5_address_226 : decode cX5_address 226 = .ok (.invokestatic 125, 3) := by decide +kernel
theorem dX5_address_229 : decode cX5_address 229 = .ok (.putfield 115, 3) := by decide +kernel
theorem dX5_address_232 : decode cX5_address 232 = .ok (.aload_n 0, 1) := by decide +kernel
theorem dX5_address_233 : decode cX5_address 233 = .ok (.lload 9, 2) := by decide +kernel
theorem dX5_address_235 : decode cX5_address 235 = .ok (.invokevirtual 134, 3) := by decide +kernel
theorem dX5_address_238 : decode cX5_address 238 = .ok (.lload 9, 2) := by decide +kernel
theorem dX5_address_240 : decode cX5_address 240 = .ok (.bipush 20, 2) := by decide +kernel
theorem dX5_address_242 : decode cX5_address 242 = .ok (.iconst 1, 1) := by decide +kernel
theorem dX5_address_243 : decode cX5_address 243 = .ok (.invokestatic 89, 3) := by decide +kernel
theorem dX5_address_246 : decode cX5_address 246 = .ok (.iconst 1, 1) := by decide +kernel
theorem dX5_address_247 : decode cX5_address 247 = .ok (.if_icmp .ne 7, 3) := by decide +kernel
theorem dX5_address_250 : decode cX5_address 250 = .ok (.iconst 1, 1) := by decide +kernel
theorem dX5_address_251 : decode cX5_address 251 = .ok (.goto 4, 3) := by decide +kernel
theorem dX5_address_254 : decode cX5_address 254 = .ok (.iconst 0, 1) := by decide +kernel
theorem dX5_address_255 : decode cX5_address 255 = .ok (.istore 7, 2) := by decide +kernel
theorem dX5_address_257 : decode cX5_address 257 = .ok (.iinc 8 1, 3) := by decide +kernel
theorem dX5_address_260 : decode cX5_address 260 = .ok (.goto (-99), 3) := by decide +kernel
theorem dX5_address_263 : decode cX5_address 263 = .ok (.return_, 1) := by decide +kernel
theorem kw344 : Cond.code yX5_indirect cX5_indirect 5 none ∈ gG := inG 737 (by decide +kernel) (by decide +kernel)
theorem kw345 : Cond.methodLink RX5 134 yX5_indirect ∈ gG := inG 734 (by decide +kernel) (by decide +kernel)
theorem kw346 : Cond.instanceMethod yX5_indirect ∈ gG := inG 736 (by decide +kernel) (by decide +kernel)
theorem kw347 : Cond.selects RX5 yX5_indirect yX5_indirect ∈ gG := inG 34 (by decide +kernel) (by decide +kernel)
theorem hdX5_indirect : yX5_indirect.cls ≠ "java/lang/invoke/MethodHandle" ∧ yX5_indirect.cls ≠ "java/lang/invoke/VarHandle" ∧ (parseMethodDescriptor yX5_indirect.desc).map (fun d => d.parameters.length) = some 1 := by decide +kernel
