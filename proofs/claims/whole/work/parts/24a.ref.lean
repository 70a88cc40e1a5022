theorem dX5_act_0 : decode cX5_act 0 = .ok (.iload_n 1, 1) := by decide +kernel
theorem dX5_act_1 : decode cX5_act 1 = .ok (.iconst 3, 1) := by decide +kernel
theorem dX5_act_2 : decode cX5_act 2 = .ok (.iand, 1) := by decide +kernel
theorem dX5_act_3 : decode cX5_act 3 = .ok (.istore_n 2, 1) := by decide +kernel
theorem dX5_act_4 : decode cX5_act 4 = .ok (.iload_n 1, 1) := by decide +kernel
theorem dX5_act_5 : decode cX5_act 5 = .ok (.bipush 11, 2) := by decide +kernel
theorem dX5_act_7 : decode cX5_act 7 = .ok (.if_icmp .ge 22, 3) := by decide +kernel
theorem dX5_act_10 : decode cX5_act 10 = .ok (.iload_n 1, 1) := by decide +kernel
theorem dX5_act_11 : decode cX5_act 11 = .ok (.iconst 2, 1) := by decide +kernel
theorem dX5_act_12 : decode cX5_act 12 = .ok (.if_icmp .eq 17, 3) := by decide +kernel
theorem dX5_act_15 : decode cX5_act 15 = .ok (.iload_n 1, 1) := by decide +kernel
theorem dX5_act_16 : decode cX5_act 16 = .ok (.bipush 10, 2) := by decide +kernel
theorem dX5_act_18 : decode cX5_act 18 = .ok (.if_icmp .eq 11, 3) := by decide +kernel
theorem dX5_act_21 : decode cX5_act 21 = .ok (.aload_n 0, 1) := by decide +kernel
theorem dX5_act_22 : decode cX5_act 22 = .ok (.iload_n 1, 1) := by decide +kernel
theorem dX5_act_23 : decode cX5_act 23 = .ok (.invokevirtual 167, 3) := by decide +kernel
theorem dX5_act_26 : decode cX5_act 26 = .ok (.goto 305, 3) := by decide +kernel
theorem dX5_act_29 : decode cX5_act 29 = .ok (.iload_n 1, 1) := by decide +kernel
theorem dX5_act_30 : decode cX5_act 30 = .ok (.iconst 2, 1) := by decide +kernel
theorem dX5_act_31 : decode cX5_act 31 = .ok (.if_icmp .ne 14, 3) := by decide +kernel
theorem dX5_act_34 : decode cX5_act 34 = .ok (.aload_n 0, 1) := by decide +kernel
theorem dX5_act_35 : decode cX5_act 35 = .ok (.aload_n 0, 1) := by decide +kernel
theorem dX5_act_36 : decode cX5_act 36 = .ok (.getfield 142, 3) := by decide +kernel
theorem dX5_act_39 : decode cX5_act 39 = .ok (.invokevirtual 170, 3) := by decide +kernel
theorem dX5_act_42 : decode cX5_act 42 = .ok (.goto 289, 3) := by decide +kernel
theorem dX5_act_45 : decode cX5_act 45 = .ok (.iload_n 1, 1) := by decide +kernel
theorem dX5_act_46 : decode cX5_act 46 = .ok (.bipush 10, 2) := by decide +kernel
theorem dX5_act_48 : decode cX5_act 48 = .ok (.if_icmp .ne 14, 3) := by decide +kernel
theorem dX5_act_51 : decode cX5_act 51 = .ok (.aload_n 0, 1) := by decide +kernel
theorem dX5_act_52 : decode cX5_act 52 = .ok (.aload_n 0, 1) := by decide +kernel
theorem dX5_act_53 : decode cX5_act 53 = .ok (.getfield 145, 3) := by decide +kernel
theorem dX5_act_56 : decode cX5_act 56 = .ok (.invokevirtual 170, 3) := by decide +kernel
theorem dX5_act_59 : decode cX5_act 59 = .ok (.goto 272, 3) := by decide +kernel
theorem dX5_act_62 : decode cX5_act 62 = .ok (.iload_n 1, 1) := by decide +kernel
theorem dX5_act_63 : decode cX5_act 63 = .ok (.bipush 11, 2) := by decide +kernel
theorem dX5_act_65 : decode cX5_act 65 = .ok (.if_icmp .ne 18, 3) := by decide +kernel
theorem dX5_act_68 : decode cX5_act 68 = .ok (.aload_n 0, 1) := by decide +kernel
theorem dX5_act_69 : decode cX5_act 69 = .ok (.invokevirtual 138, 3) := by decide +kernel
theorem dX5_act_72 : decode cX5_act 72 = .ok (.lstore_n 3, 1) := by decide +kernel
theorem dX5_act_73 : decode cX5_act 73 = .ok (.aload_n 0, 1) := by decide +kernel
theorem dX5_act_74 : decode cX5_act 74 = .ok (.lload_n 3, 1) := by decide +kernel
theorem dX5_act_75 : decode cX5_act 75 = .ok (.lconst 1, 1) := by decide +kernel
theorem dX5_act_76 : decode cX5_act 76 = .ok (.ladd, 1) := by decide +kernel
theorem dX5_act_77 : decode cX5_act 77 = .ok (.invokevirtual 170, 3) := by decide +kernel
theorem dX5_act_80 : decode cX5_act 80 = .ok (.goto 251, 3) := by decide +kernel
theorem dX5_act_83 : decode cX5_act 83 = .ok (.iload_n 1, 1) := by decide +kernel
theorem dX5_act_84 : decode cX5_act 84 = .ok (.bipush 16, 2) := by decide +kernel
theorem dX5_act_86 : decode cX5_act 86 = .ok (.if_icmp .ge 39, 3) := by decide +kernel
theorem dX5_act_89 : decode cX5_act 89 = .ok (.aload_n 0, 1) := by decide +kernel
theorem dX5_act_90 : decode cX5_act 90 = .ok (.invokevirtual 138, 3) := by decide +kernel
theorem dX5_act_93 : decode cX5_act 93 = .ok (.lstore_n 3, 1) := by decide +kernel
theorem dX5_act_94 : decode cX5_act 94 = .ok (.aload_n 0, 1) := by decide +kernel
theorem dX5_act_95 : decode cX5_act 95 = .ok (.getfield 29, 3) := by decide +kernel
theorem dX5_act_98 : decode cX5_act 98 = .ok (.iload_n 2, 1) := by decide +kernel
theorem dX5_act_99 : decode cX5_act 99 = .ok (.aload_n 0, 1) := by decide +kernel
theorem dX5_act_100 : decode cX5_act 100 = .ok (.getfield 45, 3) := by decide +kernel
theorem dX5_act_103 : decode cX5_act 103 = .ok (.ifCond .le 12, 3) := by decide +kernel
theorem dX5_act_106 : decode cX5_act 106 = .ok (.aload_n 0, 1) := by decide +kernel
theorem dX5_act_107 : decode cX5_act 107 = .ok (.getfield 29, 3) := by decide +kernel
theorem dX5_act_110 : decode cX5_act 110 = .ok (.iload_n 2, 1) := by decide +kernel
theorem dX5_act_111 : decode cX5_act 111 = .ok (.iaload, 1) := by decide +kernel
theorem dX5_act_112 : decode cX5_act 112 = .ok (.goto 9, 3) := by decide +kernel
theorem dX5_act_115 : decode cX5_act 115 = .ok (.lload_n 3, 1) := by decide +kernel
theorem dX5_act_116 : decode cX5_act 116 = .ok (.l2i, 1) := by decide +kernel
theorem dX5_act_117 : decode cX5_act 117 = .ok (.sipush 4095, 3) := by decide +kernel
theorem dX5_act_120 : decode cX5_act 120 = .ok (.iand, 1) := by decide +kernel
theorem dX5_act_121 : decode cX5_act 121 = .ok (.iastore, 1) := by decide +kernel
theorem dX5_act_122 : decode cX5_act 122 = .ok (.goto 209, 3) := by decide +kernel
theorem dX5_act_125 : decode cX5_act 125 = .ok (.iload_n 1, 1) := by decide +kernel
theorem dX5_act_126 : decode cX5_act 126 = .ok (.bipush 20, 2) := by decide +kernel
theorem dX5_act_128 : decode cX5_act 128 = .ok (.if_icmp .ge 17, 3) := by decide +kernel
theorem dX5_act_131 : decode cX5_act 131 = .ok (.aload_n 0, 1) := by decide +kernel
theorem dX5_act_132 : decode cX5_act 132 = .ok (.aload_n 0, 1) := by decide +kernel
theorem dX5_act_133 : decode cX5_act 133 = .ok (.getfield 29, 3) := by decide +kernel
theorem dX5_act_136 : decode cX5_act 136 = .ok (.iload_n 2, 1) := by decide +kernel
theorem dX5_act_137 : decode cX5_act 137 = .ok (.iaload, 1) := by decide +kernel
theorem dX5_act_138 : decode cX5_act 138 = .ok (.i2l, 1) := by decide +kernel
theorem dX5_act_139 : decode cX5_act 139 = .ok (.invokevirtual 170, 3) := by decide +kernel
theorem dX5_act_142 : decode cX5_act 142 = .ok (.goto 189, 3) := by decide +kernel
theorem dX5_act_145 : decode cX5_act 145 = .ok (.iload_n 1, 1) := by decide +kernel
theorem dX5_act_146 : decode cX5_act 146 = .ok (.bipush 24, 2) := by decide +kernel
theorem dX5_act_148 : decode cX5_act 148 = .ok (.if_icmp .ge 75, 3) := by decide +kernel
theorem dX5_act_151 : decode cX5_act 151 = .ok (.iload_n 1, 1) := by decide +kernel
theorem dX5_act_152 : decode cX5_act 152 = .ok (.bipush 20, 2) := by decide +kernel
theorem dX5_act_154 : decode cX5_act 154 = .ok (.if_icmp .eq 52, 3) := by decide +kernel
theorem dX5_act_157 : decode cX5_act 157 = .ok (.iload_n 1, 1) := by decide +kernel
theorem dX5_act_158 : decode cX5_act 158 = .ok (.bipush 21, 2) := by decide +kernel
theorem dX5_act_160 : decode cX5_act 160 = .ok (.if_icmp .ne 12, 3) := by decide +kernel
theorem dX5_act_163 : decode cX5_act 163 = .ok (.aload_n 0, 1) := by decide +kernel
theorem dX5_act_164 : decode cX5_act 164 = .ok (.getfield 142, 3) := by decide +kernel
theorem dX5_act_167 : decode cX5_act 167 = .ok (.lconst 0, 1) := by decide +kernel
theorem dX5_act_168 : decode cX5_act 168 = .ok (.lcmp, 1) := by decide +kernel
theorem dX5_act_169 : decode cX5_act 169 = .ok (.ifCond .eq 37, 3) := by decide +kernel
theorem dX5_act_172 : decode cX5_act 172 = .ok (.iload_n 1, 1) := by decide +kernel
theorem dX5_act_173 : decode cX5_act 173 = .ok (.bipush 22, 2) := by decide +kernel
theorem dX5_act_175 : decode cX5_act 175 = .ok (.if_icmp .ne 12, 3) := by decide +kernel
theorem dX5_act_178 : decode cX5_act 178 = .ok (.aload_n 0, 1) := by decide +kernel
theorem dX5_act_179 : decode cX5_act 179 = .ok (.getfield 142, 3) := by decide +kernel
theorem dX5_act_182 : decode cX5_act 182 = .ok (.lconst 0, 1) := by decide +kernel
theorem dX5_act_183 : decode cX5_act 183 = .ok (.lcmp, 1) := by decide +kernel
theorem dX5_act_184 : decode cX5_act 184 = .ok (.ifCond .ne 22, 3) := by decide +kernel
theorem dX5_act_187 : decode cX5_act 187 = .ok (.iload_n 1, 1) := by decide +kernel
theorem dX5_act_188 : decode cX5_act 188 = .ok (.bipush 23, 2) := by decide +kernel
theorem dX5_act_190 : decode cX5_act 190 = .ok (.if_icmp .ne 20, 3) := by decide +kernel
theorem dX5_act_193 : decode cX5_act 193 = .ok (.aload_n 0, 1) := by decide +kernel
theorem dX5_act_194 : decode cX5_act 194 = .ok (.getfield 142, 3) := by decide +kernel
theorem dX5_act_197 : decode cX5_act 197 = .ok (.ldc2_w 78, 3) := by decide +kernel
theorem dX5_act_200 : decode cX5_act 200 = .ok (.land, 1) := by decide +kernel
theorem dX5_act_201 : decode cX5_act 201 = .ok (.lconst 0, 1) := by decide +kernel
theorem dX5_act_202 : decode cX5_act 202 = .ok (.lcmp, 1) := by decide +kernel
theorem dX5_act_203 : decode cX5_act 203 = .ok (.ifCond .eq 7, 3) := by decide +kernel
theorem dX5_act_206 : decode cX5_act 206 = .ok (.iconst 1, 1) := by decide +kernel
theorem dX5_act_207 : decode cX5_act 207 = .ok (.goto 4, 3) := by decide +kernel
theorem dX5_act_210 : decode cX5_act 210 = .ok (.iconst 0, 1) := by decide +kernel
theorem dX5_act_211 : decode cX5_act 211 = .ok (.istore_n 3, 1) := by decide +kernel
theorem dX5_act_212 : decode cX5_act 212 = .ok (.iload_n 3, 1) := by decide +kernel
theorem dX5_act_213 : decode cX5_act 213 = .ok (.ifCond .eq 7, 3) := by decide +kernel
theorem dX5_act_216 : decode cX5_act 216 = .ok (.aload_n 0, 1) := by decide +kernel
theorem dX5_act_217 : decode cX5_act 217 = .ok (.invokevirtual 173, 3) := by decide +kernel
theorem dX5_act_220 : decode cX5_act 220 = .ok (.goto 111, 3) := by decide +kernel
theorem dX5_act_223 : decode cX5_act 223 = .ok (.iload_n 1, 1) := by decide +kernel
theorem dX5_act_224 : decode cX5_act 224 = .ok (.bipush 28, 2) := by decide +kernel
theorem dX5_act_226 : decode cX5_act 226 = .ok (.if_icmp .ge 36, 3) := by decide +kernel
theorem dX5_act_229 : decode cX5_act 229 = .ok (.aload_n 0, 1) := by decide +kernel
theorem dX5_act_230 : decode cX5_act 230 = .ok (.getfield 32, 3) := by decide +kernel
theorem dX5_act_233 : decode cX5_act 233 = .ok (.iload_n 2, 1) := by decide +kernel
theorem dX5_act_234 : decode cX5_act 234 = .ok (.aload_n 0, 1) := by decide +kernel
theorem dX5_act_235 : decode cX5_act 235 = .ok (.getfield 109, 3) := by decide +kernel
theorem dX5_act_238 : decode cX5_act 238 = .ok (.iastore, 1) := by decide +kernel
theorem dX5_act_239 : decode cX5_act 239 = .ok (.aload_n 0, 1) := by decide +kernel
theorem dX5_act_240 : decode cX5_act 240 = .ok (.getfield 35, 3) := by decide +kernel
theorem dX5_act_243 : decode cX5_act 243 = .ok (.iload_n 2, 1) := by decide +kernel
theorem dX5_act_244 : decode cX5_act 244 = .ok (.aload_n 0, 1) := by decide +kernel
theorem dX5_act_245 : decode cX5_act 245 = .ok (.getfield 112, 3) := by decide +kernel
theorem dX5_act_248 : decode cX5_act 248 = .ok (.iastore, 1) := by decide +kernel
theorem dX5_act_249 : decode cX5_act 249 = .ok (.aload_n 0, 1) := by decide +kernel
theorem dX5_act_250 : decode cX5_act 250 = .ok (.getfield 38, 3) := by decide +kernel
theorem dX5_act_253 : decode cX5_act 253 = .ok (.iload_n 2, 1) := by decide +kernel
theorem dX5_act_254 : decode cX5_act 254 = .ok (.aload_n 0, 1) := by decide +kernel
theorem dX5_act_255 : decode cX5_act 255 = .ok (.getfield 115, 3) := by decide +kernel
theorem dX5_act_258 : decode cX5_act 258 = .ok (.iastore, 1) := by decide +kernel
theorem dX5_act_259 : decode cX5_act 259 = .ok (.goto 72, 3) := by decide +kernel
theorem dX5_act_262 : decode cX5_act 262 = .ok (.iload_n 1, 1) := by decide +kernel
theorem dX5_act_263 : decode cX5_act 263 = .ok (.bipush 32, 2) := by decide +kernel
theorem dX5_act_265 : decode cX5_act 265 = .ok (.if_icmp .ge 31, 3) := by decide +kernel
theorem dX5_act_268 : decode cX5_act 268 = .ok (.aload_n 0, 1) := by decide +kernel
theorem dX5_act_269 : decode cX5_act 269 = .ok (.aload_n 0, 1) := by decide +kernel
theorem dX5_act_270 : decode cX5_act 270 = .ok (.getfield 32, 3) := by decide +kernel
theorem dX5_act_273 : decode cX5_act 273 = .ok (.iload_n 2, 1) := by decide +kernel
theorem dX5_act_274 : decode cX5_act 274 = .ok (.iaload, 1) := by decide +kernel
theorem dX5_act_275 : decode cX5_act 275 = .ok (.aload_n 0, 1) := by decide +kernel
theorem dX5_act_276 : decode cX5_act 276 = .ok (.getfield 35, 3) := by decide +kernel
theorem dX5_act_279 : decode cX5_act 279 = .ok (.iload_n 2, 1) := by decide +kernel
theorem dX5_act_280 : decode cX5_act 280 = .ok (.iaload, 1) := by decide +kernel
theorem dX5_act_281 : decode cX5_act 281 = .ok (.aload_n 0, 1) := by decide +kernel
theorem dX5_act_282 : decode cX5_act 282 = .ok (.getfield 38, 3) := by decide +kernel
theorem dX5_act_285 : decode cX5_act 285 = .ok (.iload_n 2, 1) := by decide +kernel
theorem dX5_act_286 : decode cX5_act 286 = .ok (.iaload, 1) := by decide +kernel
theorem dX5_act_287 : decode cX5_act 287 = .ok (.invokestatic 176, 3) := by decide +kernel
theorem dX5_act_290 : decode cX5_act 290 = .ok (.invokevirtual 170, 3) := by decide +kernel
theorem dX5_act_293 : decode cX5_act 293 = .ok (.goto 38, 3) := by decide +kernel
theorem dX5_act_296 : decode cX5_act 296 = .ok (.iload_n 1, 1) := by decide +kernel
theorem dX5_act_297 : decode cX5_act 297 = .ok (.bipush 32, 2) := by decide +kernel
theorem dX5_act_299 : decode cX5_act 299 = .ok (.if_icmp .ne 15, 3) := by decide +kernel
theorem dX5_act_302 : decode cX5_act 302 = .ok (.aload_n 0, 1) := by decide +kernel
theorem dX5_act_303 : decode cX5_act 303 = .ok (.aload_n 0, 1) := by decide +kernel
theorem dX5_act_304 : decode cX5_act 304 = .ok (.getfield 112, 3) := by decide +kernel
theorem dX5_act_307 : decode cX5_act 307 = .ok (.i2l, 1) := by decide +kernel
theorem dX5_act_308 : decode cX5_act 308 = .ok (.putfield 142, 3) := by decide +kernel
theorem dX5_act_311 : decode cX5_act 311 = .ok (.goto 20, 3) := by decide +kernel
theorem dX5_act_314 : decode cX5_act 314 = .ok (.iload_n 1, 1) := by decide +kernel
theorem dX5_act_315 : decode cX5_act 315 = .ok (.bipush 34, 2) := by decide +kernel
theorem dX5_act_317 : decode cX5_act 317 = .ok (.if_icmp .ne 10, 3) := by decide +kernel
theorem dX5_act_320 : decode cX5_act 320 = .ok (.aload_n 0, 1) := by decide +kernel
theorem dX5_act_321 : decode cX5_act 321 = .ok (.invokevirtual 179, 3) := by decide +kernel
theorem dX5_act_324 : decode cX5_act 324 = .ok (.goto 7, 3) := by decide +kernel
theorem dX5_act_327 : decode cX5_act 327 = .ok (.aload_n 0, 1) := by decide +kernel
theorem dX5_act_328 : decode cX5_act 328 = .ok (.invokevirtual 182, 3) := by decide +kernel
theorem dX5_act_331 : decode cX5_act 331 = .ok (.return_, 1) := by decide +kernel
theorem dX5_save_0 : decode cX5_save 0 = .ok (.aload_n 0, 1) := by decide +kernel
theorem dX5_save_1 : decode cX5_save 1 = .ok (.iload_n 1, 1) := by decide +kernel
theorem dX5_save_2 : decode cX5_save 2 = .ok (.putfield 185, 3) := by decide +kernel
theorem dX5_save_5 : decode cX5_save 5 = .ok (.aload_n 0, 1) := by decide +kernel
theorem dX5_save_6 : decode cX5_save 6 = .ok (.iload_n 2, 1) := by decide +kernel
theorem dX5_save_7 : decode cX5_save 7 = .ok (.putfield 188, 3) := by decide +kernel
theorem dX5_save_10 : decode cX5_save 10 = .ok (.aload_n 0, 1) := by decide +kernel
theorem dX5_save_11 : decode cX5_save 11 = .ok (.iload_n 3, 1) := by decide +kernel
theorem dX5_save_12 : decode cX5_save 12 = .ok (.putfield 191, 3) := by decide +kernel
theorem dX5_save_15 : decode cX5_save 15 = .ok (.aload_n 0, 1) := by decide +kernel
theorem dX5_save_16 : decode cX5_save 16 = .ok (.getfield 152, 3) := by decide +kernel
theorem dX5_save_19 : decode cX5_save 19 = .ok (.ifCond .eq 9, 3) := by decide +kernel
theorem dX5_save_22 : decode cX5_save 22 = .ok (.aload_n 0, 1) := by decide +kernel
theorem dX5_save_23 : decode cX5_save 23 = .ok (.iconst 1, 1) := by decide +kernel
theorem dX5_save_24 : decode cX5_save 24 = .ok (.putfield 155, 3) := by decide +kernel
theorem dX5_save_27 : decode cX5_save 27 = .ok (.return_, 1) := by decide +kernel
theorem dX5_save_28 : decode cX5_save 28 = .ok (.aload_n 0, 1) := by decide +kernel
theorem dX5_save_29 : decode cX5_save 29 = .ok (.iconst 1, 1) := by decide +kernel
theorem dX5_save_30 : decode cX5_save 30 = .ok (.putfield 194, 3) := by decide +kernel
theorem dX5_save_33 : decode cX5_save 33 = .ok (.aload_n 0, 1) := by decide +kernel
theorem dX5_save_34 : decode cX5_save 34 = .ok (.aload_n 0, 1) := by decide +kernel
theorem dX5_save_35 : decode cX5_save 35 = .ok (.getfield 54, 3) := by decide +kernel
theorem dX5_save_38 : decode cX5_save 38 = .ok (.putfield 158, 3) := by decide +kernel
theorem dX5_save_41 : decode cX5_save 41 = .ok (.aload_n 0, 1) := by decide +kernel
theorem dX5_save_42 : decode cX5_save 42 = .ok (.aload_n 0, 1) := by decide +kernel
theorem dX5_save_43 : decode cX5_save 43 = .ok (.getfield 57, 3) := by decide +kernel
theorem dX5_save_46 : decode cX5_save 46 = .ok (.putfield 161, 3) := by decide +kernel
theorem dX5_save_49 : decode cX5_save 49 = .ok (.aload_n 0, 1) := by decide +kernel
theorem dX5_save_50 : decode cX5_save 50 = .ok (.aload_n 0, 1) := by decide +kernel
theorem dX5_save_51 : decode cX5_save 51 = .ok (.getfield 122, 3) := by decide +kernel
theorem dX5_save_54 : decode cX5_save 54 = .ok (.putfield 164, 3) := by decide +kernel
theorem dX5_save_57 : decode cX5_save 57 = .ok (.aload_n 0, 1) := by decide +kernel
theorem dX5_save_58 : decode cX5_save 58 = .ok (.iconst 1, 1) := by decide +kernel
theorem dX5_save_59 : decode cX5_save 59 = .ok (.putfield 152, 3) := by decide +kernel
theorem dX5_save_62 : decode cX5_save 62 = .ok (.aload_n 0, 1) := by decide +kernel
theorem dX5_save_63 : decode cX5_save 63 = .ok (.iconst 0, 1) := by decide +kernel
theorem dX5_save_64 : decode cX5_save 64 = .ok (.putfield 122, 3) := by decide +kernel
theorem dX5_save_67 : decode cX5_save 67 = .ok (.aload_n 0, 1) := by decide +kernel
theorem dX5_save_68 : decode cX5_save 68 = .ok (.iconst 0, 1) := by decide +kernel
theorem dX5_save_69 : decode cX5_save 69 = .ok (.putfield 54, 3) := by decide +kernel
theorem dX5_save_72 : decode cX5_save 72 = .ok (.aload_n 0, 1) := by decide +kernel
theorem dX5_save_73 : decode cX5_save 73 = .ok (.bipush 16, 2) := by decide +kernel
theorem dX5_save_75 : decode cX5_save 75 = .ok (.iload_n 1, 1) := by decide +kernel
theorem dX5_save_76 : decode cX5_save 76 = .ok (.iadd, 1) := by decide +kernel
theorem dX5_save_77 : decode cX5_save 77 = .ok (.putfield 57, 3) := by decide +kernel
theorem dX5_save_80 : decode cX5_save 80 = .ok (.return_, 1) := by decide +kernel
theorem kw316 : Cond.code yX5_back cX5_back 3 none ∈ gG := inG 770 (by decide +kernel) (by decide +kernel)
theorem kw317 : Cond.methodLink RX5 182 yX5_back ∈ gG := inG 767 (by decide +kernel) (by decide +kernel)
theorem kw318 : Cond.instanceMethod yX5_back ∈ gG := inG 769 (by decide +kernel) (by decide +kernel)
theorem kw319 : Cond.selects RX5 yX5_back yX5_back ∈ gG := inG 41 (by decide +kernel) (by decide +kernel)
theorem kw320 : Cond.code yX5_call cX5_call 6 none ∈ gG := inG 766 (by decide +kernel) (by decide +kernel)
theorem kw321 : Cond.methodLink RX5 179 yX5_call ∈ gG := inG 763 (by decide +kernel) (by decide +kernel)
theorem kw322 : Cond.instanceMethod yX5_call ∈ gG := inG 765 (by decide +kernel) (by decide +kernel)
theorem kw323 : Cond.selects RX5 yX5_call yX5_call ∈ gG := inG 40 (by decide +kernel) (by decide +kernel)
theorem kw324 : Cond.code yX5_pointer cX5_pointer 3 (some .long) ∈ gG := inG 762 (by decide +kernel) (by decide +kernel)
theorem kw325 : Cond.methodLink RX5 176 yX5_pointer ∈ gG := inG 760 (by decide +kernel) (by decide +kernel)
theorem kw326 : Cond.static yX5_pointer ∈ gG := inG 761 (by decide +kernel) (by decide +kernel)
theorem kw327 : Cond.code yX5_write cX5_write 5 none ∈ gG := inG 754 (by decide +kernel) (by decide +kernel)
theorem kw328 : Cond.methodLink RX5 170 yX5_write ∈ gG := inG 751 (by decide +kernel) (by decide +kernel)
theorem kw329 : Cond.instanceMethod yX5_write ∈ gG := inG 753 (by decide +kernel) (by decide +kernel)
theorem kw330 : Cond.selects RX5 yX5_write yX5_write ∈ gG := inG 38 (by decide +kernel) (by decide +kernel)
theorem kw331 : Cond.code yX5_jump cX5_jump 1 none ∈ gG := inG 759 (by decide +kernel) (by decide +kernel)
theorem kw332 : Cond.methodLink RX5 173 yX5_jump ∈ gG := inG 756 (by decide +kernel) (by decide +kernel)
theorem kw333 : Cond.instanceMethod yX5_jump ∈ gG := inG 758 (by decide +kernel) (by decide +kernel)
theorem kw334 : Cond.selects RX5 yX5_jump yX5_jump ∈ gG := inG 39 (by decide +kernel) (by decide +kernel)
theorem kw335 : Cond.fieldLink RX5 29 RX5 "x" "[I" ∈ gG := inG 562 (by decide +kernel) (by decide +kernel)
theorem kw336 : Cond.code yX5_reckon cX5_reckon 4 none ∈ gG := inG 745 (by decide +kernel) (by decide +kernel)
theorem kw337 : Cond.methodLink RX5 167 yX5_reckon ∈ gG := inG 742 (by decide +kernel) (by decide +kernel)
theorem kw338 : Cond.instanceMethod yX5_reckon ∈ gG := inG 744 (by decide +kernel) (by decide +kernel)
theorem kw339 : Cond.selects RX5 yX5_reckon yX5_reckon ∈ gG := inG 36 (by decide +kernel) (by decide +kernel)
theorem kw340 : Cond.fieldLink RX5 185 RX5 "faultTold" "I" ∈ gG := inG 576 (by decide +kernel) (by decide +kernel)
theorem kw341 : Cond.fieldLink RX5 188 RX5 "segmentTold" "I" ∈ gG := inG 577 (by decide +kernel) (by decide +kernel)
theorem kw342 : Cond.fieldLink RX5 191 RX5 "wordTold" "I" ∈ gG := inG 578 (by decide +kernel) (by decide +kernel)
theorem kw343 : Cond.fieldLink RX5 194 RX5 "isSaved" "Z" ∈ gG := inG 572 (by decide +kernel) (by decide +kernel)
theorem hdX5_back : yX5_back.cls ≠ "java/lang/invoke/MethodHandle" ∧ yX5_back.cls ≠ "java/lang/invoke/VarHandle" ∧ (parseMethodDescriptor yX5_back.desc).map (fun d => d.parameters.length) = some 0 := by decide +kernel
theorem hdX5_call : yX5_call.cls ≠ "java/lang/invoke/MethodHandle" ∧ yX5_call.cls ≠ "java/lang/invoke/VarHandle" ∧ (parseMethodDescriptor yX5_call.desc).map (fun d => d.parameters.length) = some 0 := by decide +kernel
theorem hdX5_pointer : yX5_pointer.cls ≠ "java/lang/invoke/MethodHandle" ∧ yX5_pointer.cls ≠ "java/lang/invoke/VarHandle" ∧ (parseMethodDescriptor yX5_pointer.desc).map (fun d => d.parameters.length) = some 3 := by decide +kernel
theorem hdX5_write : yX5_write.cls ≠ "java/lang/invoke/MethodHandle" ∧ yX5_write.cls ≠ "java/lang/invoke/VarHandle" ∧ (parseMethodDescriptor yX5_write.desc).map (fun d => d.parameters.length) = some 1 := by decide +kernel
theorem hdX5_jump : yX5_jump.cls ≠ "java/lang/invoke/MethodHandle" ∧ yX5_jump.cls ≠ "java/lang/invoke/VarHandle" ∧ (parseMethodDescriptor yX5_jump.desc).map (fun d => d.parameters.length) = some 0 := by decide +kernel
theorem hdX5_reckon : yX5_reckon.cls ≠ "java/lang/invoke/MethodHandle" ∧ yX5_reckon.cls ≠ "java/lang/invoke/VarHandle" ∧ (parseMethodDescriptor yX5_reckon.desc).map (fun d => d.parameters.length) = some 1 := by decide +kernel
