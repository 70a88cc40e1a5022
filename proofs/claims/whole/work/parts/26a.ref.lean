theorem dX5_step_0 : decode cX5_step 0 = .ok (.aload_n 0, 1) := by decide +kernel
theorem dX5_step_1 : decode cX5_step 1 = .ok (.getfield 197, 3) := by decide +kernel
theorem dX5_step_4 : decode cX5_step 4 = .ok (.ifCond .le 60, 3) := by decide +kernel
theorem dX5_step_7 : decode cX5_step 7 = .ok (.aload_n 0, 1) := by decide +kernel
theorem dX5_step_8 : decode cX5_step 8 = .ok (.getfield 152, 3) := by decide +kernel
theorem dX5_step_11 : decode cX5_step 11 = .ok (.ifCond .ne 53, 3) := by decide +kernel
theorem dX5_step_14 : decode cX5_step 14 = .ok (.iconst 0, 1) := by decide +kernel
theorem dX5_step_15 : decode cX5_step 15 = .ok (.istore_n 1, 1) := by decide +kernel
theorem dX5_step_16 : decode cX5_step 16 = .ok (.aload_n 0, 1) := by decide +kernel
theorem dX5_step_17 : decode cX5_step 17 = .ok (.getfield 197, 3) := by decide +kernel
theorem dX5_step_20 : decode cX5_step 20 = .ok (.iload_n 1, 1) := by decide +kernel
theorem dX5_step_21 : decode cX5_step 21 = .ok (.ishr, 1) := by decide +kernel
theorem dX5_step_22 : decode cX5_step 22 = .ok (.iconst 1, 1) := by decide +kernel
theorem dX5_step_23 : decode cX5_step 23 = .ok (.iand, 1) := by decide +kernel
theorem dX5_step_24 : decode cX5_step 24 = .ok (.ifCond .ne 9, 3) := by decide +kernel
theorem dX5_step_27 : decode cX5_step 27 = .ok (.iinc 1 1, 3) := by decide +kernel
theorem dX5_step_30 : decode cX5_step 30 = .ok (.goto (-14), 3) := by decide +kernel
theorem dX5_step_33 : decode cX5_step 33 = .ok (.aload_n 0, 1) := by decide +kernel
theorem dX5_step_34 : decode cX5_step 34 = .ok (.aload_n 0, 1) := by decide +kernel
theorem dX5_step_35 : decode cX5_step 35 = .ok (.getfield 197, 3) := by decide +kernel
theorem dX5_step_38 : decode cX5_step 38 = .ok (.iconst 1, 1) := by decide +kernel
theorem dX5_step_39 : decode cX5_step 39 = .ok (.iload_n 1, 1) := by decide +kernel
theorem dX5_step_40 : decode cX5_step 40 = .ok (.ishl, 1) := by decide +kernel
theorem dX5_step_41 : decode cX5_step 41 = .ok (.iconst (-1), 1) := by decide +kernel
theorem dX5_step_42 : decode cX5_step 42 = .ok (.ixor, 1) := by decide +kernel
theorem dX5_step_43 : decode cX5_step 43 = .ok (.iand, 1) := by decide +kernel
theorem dX5_step_44 : decode cX5_step 44 = .ok (.putfield 197, 3) := by decide +kernel
theorem dX5_step_47 : decode cX5_step 47 = .ok (.aload_n 0, 1) := by decide +kernel
theorem dX5_step_48 : decode cX5_step 48 = .ok (.bipush 8, 2) := by decide +kernel
theorem dX5_step_50 : decode cX5_step 50 = .ok (.iload_n 1, 1) := by decide +kernel
theorem dX5_step_51 : decode cX5_step 51 = .ok (.iadd, 1) := by decide +kernel
theorem dX5_step_52 : decode cX5_step 52 = .ok (.aload_n 0, 1) := by decide +kernel
theorem dX5_step_53 : decode cX5_step 53 = .ok (.getfield 54, 3) := by decide +kernel
theorem dX5_step_56 : decode cX5_step 56 = .ok (.aload_n 0, 1) := by decide +kernel
theorem dX5_step_57 : decode cX5_step 57 = .ok (.getfield 57, 3) := by decide +kernel
theorem dX5_step_60 : decode cX5_step 60 = .ok (.invokevirtual 200, 3) := by decide +kernel
theorem dX5_step_63 : decode cX5_step 63 = .ok (.return_, 1) := by decide +kernel
theorem dX5_step_64 : decode cX5_step 64 = .ok (.aload_n 0, 1) := by decide +kernel
theorem dX5_step_65 : decode cX5_step 65 = .ok (.iconst 0, 1) := by decide +kernel
theorem dX5_step_66 : decode cX5_step 66 = .ok (.putfield 45, 3) := by decide +kernel
theorem dX5_step_69 : decode cX5_step 69 = .ok (.aload_n 0, 1) := by decide +kernel
theorem dX5_step_70 : decode cX5_step 70 = .ok (.iconst 0, 1) := by decide +kernel
theorem dX5_step_71 : decode cX5_step 71 = .ok (.putfield 148, 3) := by decide +kernel
theorem dX5_step_74 : decode cX5_step 74 = .ok (.aload_n 0, 1) := by decide +kernel
theorem dX5_step_75 : decode cX5_step 75 = .ok (.aload_n 0, 1) := by decide +kernel
theorem dX5_step_76 : decode cX5_step 76 = .ok (.getfield 54, 3) := by decide +kernel
theorem dX5_step_79 : decode cX5_step 79 = .ok (.aload_n 0, 1) := by decide +kernel
theorem dX5_step_80 : decode cX5_step 80 = .ok (.getfield 57, 3) := by decide +kernel
theorem dX5_step_83 : decode cX5_step 83 = .ok (.aload_n 0, 1) := by decide +kernel
theorem dX5_step_84 : decode cX5_step 84 = .ok (.getfield 122, 3) := by decide +kernel
theorem dX5_step_87 : decode cX5_step 87 = .ok (.iconst 2, 1) := by decide +kernel
theorem dX5_step_88 : decode cX5_step 88 = .ok (.invokevirtual 105, 3) := by decide +kernel
theorem dX5_step_91 : decode cX5_step 91 = .ok (.istore_n 1, 1) := by decide +kernel
theorem dX5_step_92 : decode cX5_step 92 = .ok (.iload_n 1, 1) := by decide +kernel
theorem dX5_step_93 : decode cX5_step 93 = .ok (.ifCond .ge 7, 3) := by decide +kernel
theorem dX5_step_96 : decode cX5_step 96 = .ok (.lconst 0, 1) := by decide +kernel
theorem dX5_step_97 : decode cX5_step 97 = .ok (.goto 9, 3) := by decide +kernel
theorem dX5_step_100 : decode cX5_step 100 = .ok (.aload_n 0, 1) := by decide +kernel
theorem dX5_step_101 : decode cX5_step 101 = .ok (.getfield 7, 3) := by decide +kernel
theorem dX5_step_104 : decode cX5_step 104 = .ok (.iload_n 1, 1) := by decide +kernel
theorem dX5_step_105 : decode cX5_step 105 = .ok (.laload, 1) := by decide +kernel
theorem dX5_step_106 : decode cX5_step 106 = .ok (.lstore_n 2, 1) := by decide +kernel
theorem dX5_step_107 : decode cX5_step 107 = .ok (.lload_n 2, 1) := by decide +kernel
theorem dX5_step_108 : decode cX5_step 108 = .ok (.bipush 30, 2) := by decide +kernel
theorem dX5_step_110 : decode cX5_step 110 = .ok (.bipush 6, 2) := by decide +kernel
theorem dX5_step_112 : decode cX5_step 112 = .ok (.invokestatic 89, 3) := by decide +kernel
theorem dX5_step_115 : decode cX5_step 115 = .ok (.istore 4, 2) := by decide +kernel
theorem dX5_step_117 : decode cX5_step 117 = .ok (.aload_n 0, 1) := by decide +kernel
theorem dX5_step_118 : decode cX5_step 118 = .ok (.getfield 45, 3) := by decide +kernel
theorem dX5_step_121 : decode cX5_step 121 = .ok (.ifCond .ne 95, 3) := by decide +kernel
theorem dX5_step_124 : decode cX5_step 124 = .ok (.iload 4, 2) := by decide +kernel
theorem dX5_step_126 : decode cX5_step 126 = .ok (.bipush 33, 2) := by decide +kernel
theorem dX5_step_128 : decode cX5_step 128 = .ok (.if_icmp .ne 26, 3) := by decide +kernel
theorem dX5_step_131 : decode cX5_step 131 = .ok (.aload_n 0, 1) := by decide +kernel
theorem dX5_step_132 : decode cX5_step 132 = .ok (.getfield 142, 3) := by decide +kernel
theorem dX5_step_135 : decode cX5_step 135 = .ok (.lstore 5, 2) := by decide +kernel
theorem dX5_step_137 : decode cX5_step 137 = .ok (.aload_n 0, 1) := by decide +kernel
theorem dX5_step_138 : decode cX5_step 138 = .ok (.aload_n 0, 1) := by decide +kernel
theorem dX5_step_139 : decode cX5_step 139 = .ok (.getfield 145, 3) := by decide +kernel
theorem dX5_step_142 : decode cX5_step 142 = .ok (.putfield 142, 3) := by decide +kernel
theorem dX5_step_145 : decode cX5_step 145 = .ok (.aload_n 0, 1) := by decide +kernel
theorem dX5_step_146 : decode cX5_step 146 = .ok (.lload 5, 2) := by decide +kernel
theorem dX5_step_148 : decode cX5_step 148 = .ok (.putfield 145, 3) := by decide +kernel
theorem dX5_step_151 : decode cX5_step 151 = .ok (.goto 65, 3) := by decide +kernel
theorem dX5_step_154 : decode cX5_step 154 = .ok (.iload 4, 2) := by decide +kernel
theorem dX5_step_156 : decode cX5_step 156 = .ok (.bipush 35, 2) := by decide +kernel
theorem dX5_step_158 : decode cX5_step 158 = .ok (.if_icmp .le 19, 3) := by decide +kernel
theorem dX5_step_161 : decode cX5_step 161 = .ok (.iload 4, 2) := by decide +kernel
theorem dX5_step_163 : decode cX5_step 163 = .ok (.bipush 39, 2) := by decide +kernel
theorem dX5_step_165 : decode cX5_step 165 = .ok (.if_icmp .ge 12, 3) := by decide +kernel
theorem dX5_step_168 : decode cX5_step 168 = .ok (.aload_n 0, 1) := by decide +kernel
theorem dX5_step_169 : decode cX5_step 169 = .ok (.iload 4, 2) := by decide +kernel
theorem dX5_step_171 : decode cX5_step 171 = .ok (.invokevirtual 203, 3) := by decide +kernel
theorem dX5_step_174 : decode cX5_step 174 = .ok (.goto 42, 3) := by decide +kernel
theorem dX5_step_177 : decode cX5_step 177 = .ok (.iload 4, 2) := by decide +kernel
theorem dX5_step_179 : decode cX5_step 179 = .ok (.bipush 38, 2) := by decide +kernel
theorem dX5_step_181 : decode cX5_step 181 = .ok (.if_icmp .le 12, 3) := by decide +kernel
theorem dX5_step_184 : decode cX5_step 184 = .ok (.aload_n 0, 1) := by decide +kernel
theorem dX5_step_185 : decode cX5_step 185 = .ok (.bipush 6, 2) := by decide +kernel
theorem dX5_step_187 : decode cX5_step 187 = .ok (.invokevirtual 128, 3) := by decide +kernel
theorem dX5_step_190 : decode cX5_step 190 = .ok (.goto 26, 3) := by decide +kernel
theorem dX5_step_193 : decode cX5_step 193 = .ok (.iload 4, 2) := by decide +kernel
theorem dX5_step_195 : decode cX5_step 195 = .ok (.ifCond .le 21, 3) := by decide +kernel
theorem dX5_step_198 : decode cX5_step 198 = .ok (.aload_n 0, 1) := by decide +kernel
theorem dX5_step_199 : decode cX5_step 199 = .ok (.lload_n 2, 1) := by decide +kernel
theorem dX5_step_200 : decode cX5_step 200 = .ok (.invokevirtual 206, 3) := by decide +kernel
theorem dX5_step_203 : decode cX5_step 203 = .ok (.aload_n 0, 1) := by decide +kernel
theorem dX5_step_204 : decode cX5_step 204 = .ok (.getfield 45, 3) := by decide +kernel
theorem dX5_step_207 : decode cX5_step 207 = .ok (.ifCond .ne 9, 3) := by decide +kernel
theorem dX5_step_210 : decode cX5_step 210 = .ok (.aload_n 0, 1) := by decide +kernel
theorem dX5_step_211 : decode cX5_step 211 = .ok (.iload 4, 2) := by decide +kernel
theorem dX5_step_213 : decode cX5_step 213 = .ok (.invokevirtual 209, 3) := by decide +kernel
theorem dX5_step_216 : decode cX5_step 216 = .ok (.aload_n 0, 1) := by decide +kernel
theorem dX5_step_217 : decode cX5_step 217 = .ok (.getfield 45, 3) := by decide +kernel
theorem dX5_step_220 : decode cX5_step 220 = .ok (.ifCond .le 22, 3) := by decide +kernel
theorem dX5_step_223 : decode cX5_step 223 = .ok (.aload_n 0, 1) := by decide +kernel
theorem dX5_step_224 : decode cX5_step 224 = .ok (.aload_n 0, 1) := by decide +kernel
theorem dX5_step_225 : decode cX5_step 225 = .ok (.getfield 45, 3) := by decide +kernel
theorem dX5_step_228 : decode cX5_step 228 = .ok (.aload_n 0, 1) := by decide +kernel
theorem dX5_step_229 : decode cX5_step 229 = .ok (.getfield 48, 3) := by decide +kernel
theorem dX5_step_232 : decode cX5_step 232 = .ok (.aload_n 0, 1) := by decide +kernel
theorem dX5_step_233 : decode cX5_step 233 = .ok (.getfield 51, 3) := by decide +kernel
theorem dX5_step_236 : decode cX5_step 236 = .ok (.invokevirtual 200, 3) := by decide +kernel
theorem dX5_step_239 : decode cX5_step 239 = .ok (.goto 24, 3) := by decide +kernel
theorem dX5_step_242 : decode cX5_step 242 = .ok (.aload_n 0, 1) := by decide +kernel
theorem dX5_step_243 : decode cX5_step 243 = .ok (.getfield 148, 3) := by decide +kernel
theorem dX5_step_246 : decode cX5_step 246 = .ok (.ifCond .ne 17, 3) := by decide +kernel
theorem dX5_step_249 : decode cX5_step 249 = .ok (.aload_n 0, 1) := by decide +kernel
theorem dX5_step_250 : decode cX5_step 250 = .ok (.aload_n 0, 1) := by decide +kernel
theorem dX5_step_251 : decode cX5_step 251 = .ok (.getfield 57, 3) := by decide +kernel
theorem dX5_step_254 : decode cX5_step 254 = .ok (.iconst 1, 1) := by decide +kernel
theorem dX5_step_255 : decode cX5_step 255 = .ok (.iadd, 1) := by decide +kernel
theorem dX5_step_256 : decode cX5_step 256 = .ok (.sipush 4095, 3) := by decide +kernel
theorem dX5_step_259 : decode cX5_step 259 = .ok (.iand, 1) := by decide +kernel
theorem dX5_step_260 : decode cX5_step 260 = .ok (.putfield 57, 3) := by decide +kernel
theorem dX5_step_263 : decode cX5_step 263 = .ok (.return_, 1) := by decide +kernel
theorem kw348 : Cond.fieldLink RX5 197 RX5 "asked" "I" ∈ gG := inG 571 (by decide +kernel) (by decide +kernel)
theorem kw349 : Cond.code yX5_save cX5_save 4 none ∈ gG := inG 698 (by decide +kernel) (by decide +kernel)
theorem kw350 : Cond.methodLink RX5 200 yX5_save ∈ gG := inG 695 (by decide +kernel) (by decide +kernel)
theorem kw351 : Cond.instanceMethod yX5_save ∈ gG := inG 697 (by decide +kernel) (by decide +kernel)
theorem kw352 : Cond.selects RX5 yX5_save yX5_save ∈ gG := inG 25 (by decide +kernel) (by decide +kernel)
theorem kw353 : Cond.code yX5_address cX5_address 11 none ∈ gG := inG 726 (by decide +kernel) (by decide +kernel)
theorem kw354 : Cond.methodLink RX5 206 yX5_address ∈ gG := inG 723 (by decide +kernel) (by decide +kernel)
theorem kw355 : Cond.instanceMethod yX5_address ∈ gG := inG 725 (by decide +kernel) (by decide +kernel)
theorem kw356 : Cond.selects RX5 yX5_address yX5_address ∈ gG := inG 32 (by decide +kernel) (by decide +kernel)
theorem kw357 : Cond.code yX5_act cX5_act 5 none ∈ gG := inG 741 (by decide +kernel) (by decide +kernel)
theorem kw358 : Cond.methodLink RX5 209 yX5_act ∈ gG := inG 738 (by decide +kernel) (by decide +kernel)
theorem kw359 : Cond.instanceMethod yX5_act ∈ gG := inG 740 (by decide +kernel) (by decide +kernel)
theorem kw360 : Cond.selects RX5 yX5_act yX5_act ∈ gG := inG 35 (by decide +kernel) (by decide +kernel)
theorem kw361 : Cond.code yX5_system cX5_system 2 none ∈ gG := inG 718 (by decide +kernel) (by decide +kernel)
theorem kw362 : Cond.methodLink RX5 203 yX5_system ∈ gG := inG 715 (by decide +kernel) (by decide +kernel)
theorem kw363 : Cond.instanceMethod yX5_system ∈ gG := inG 717 (by decide +kernel) (by decide +kernel)
theorem kw364 : Cond.selects RX5 yX5_system yX5_system ∈ gG := inG 30 (by decide +kernel) (by decide +kernel)
theorem hdX5_save : yX5_save.cls ≠ "java/lang/invoke/MethodHandle" ∧ yX5_save.cls ≠ "java/lang/invoke/VarHandle" ∧ (parseMethodDescriptor yX5_save.desc).map (fun d => d.parameters.length) = some 3 := by decide +kernel
theorem hdX5_address : yX5_address.cls ≠ "java/lang/invoke/MethodHandle" ∧ yX5_address.cls ≠ "java/lang/invoke/VarHandle" ∧ (parseMethodDescriptor yX5_address.desc).map (fun d => d.parameters.length) = some 1 := by decide +kernel
theorem hdX5_act : yX5_act.cls ≠ "java/lang/invoke/MethodHandle" ∧ yX5_act.cls ≠ "java/lang/invoke/VarHandle" ∧ (parseMethodDescriptor yX5_act.desc).map (fun d => d.parameters.length) = some 1 := by decide +kernel
theorem hdX5_system : yX5_system.cls ≠ "java/lang/invoke/MethodHandle" ∧ yX5_system.cls ≠ "java/lang/invoke/VarHandle" ∧ (parseMethodDescriptor yX5_system.desc).map (fun d => d.parameters.length) = some 1 := by decide +kernel
