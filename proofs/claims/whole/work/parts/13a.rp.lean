theorem dX4_performAtAddress_0 : decode cX4_performAtAddress 0 = .ok (.iload_n 1, 1) := by decide +kernel
theorem dX4_performAtAddress_1 : decode cX4_performAtAddress 1 = .ok (.iconst 3, 1) := by decide +kernel
theorem dX4_performAtAddress_2 : decode cX4_performAtAddress 2 = .ok (.iand, 1) := by decide +kernel
theorem dX4_performAtAddress_3 : decode cX4_performAtAddress 3 = .ok (.istore_n 2, 1) := by decide +kernel
theorem dX4_performAtAddress_4 : decode cX4_performAtAddress 4 = .ok (.iload_n 1, 1) := by decide +kernel
theorem dX4_performAtAddress_5 : decode cX4_performAtAddress 5 = .ok (.tableswitch 312 2 35 #[151, 312, 312, 312, 312, 312, 312, 312, 160, 169, 312, 312, 312, 312, 174, 174, 174, 174, 200, 206, 225, 244, 267, 267, 267, 267, 186, 186, 186, 186, 285, 312, 302, 307], 151) := by decide +kernel
theorem dX4_performAtAddress_156 : decode cX4_performAtAddress 156 = .ok (.aload_n 0, 1) := by decide +kernel
theorem dX4_performAtAddress_157 : decode cX4_performAtAddress 157 = .ok (.aload_n 0, 1) := by decide +kernel
theorem dX4_performAtAddress_158 : decode cX4_performAtAddress 158 = .ok (.getfield 46, 3) := by decide +kernel
theorem dX4_performAtAddress_161 : decode cX4_performAtAddress 161 = .ok (.invokevirtual 195, 3) := by decide +kernel
theorem dX4_performAtAddress_164 : decode cX4_performAtAddress 164 = .ok (.ireturn, 1) := by decide +kernel
theorem dX4_performAtAddress_165 : decode cX4_performAtAddress 165 = .ok (.aload_n 0, 1) := by decide +kernel
theorem dX4_performAtAddress_166 : decode cX4_performAtAddress 166 = .ok (.aload_n 0, 1) := by decide +kernel
theorem dX4_performAtAddress_167 : decode cX4_performAtAddress 167 = .ok (.getfield 50, 3) := by decide +kernel
theorem dX4_performAtAddress_170 : decode cX4_performAtAddress 170 = .ok (.invokevirtual 195, 3) := by decide +kernel
theorem dX4_performAtAddress_173 : decode cX4_performAtAddress 173 = .ok (.ireturn, 1) := by decide +kernel
theorem dX4_performAtAddress_174 : decode cX4_performAtAddress 174 = .ok (.aload_n 0, 1) := by decide +kernel
theorem dX4_performAtAddress_175 : decode cX4_performAtAddress 175 = .ok (.invokevirtual 198, 3) := by decide +kernel
theorem dX4_performAtAddress_178 : decode cX4_performAtAddress 178 = .ok (.ireturn, 1) := by decide +kernel
theorem dX4_performAtAddress_179 : decode cX4_performAtAddress 179 = .ok (.aload_n 0, 1) := by decide +kernel
theorem dX4_performAtAddress_180 : decode cX4_performAtAddress 180 = .ok (.aload_n 0, 1) := by decide +kernel
theorem dX4_performAtAddress_181 : decode cX4_performAtAddress 181 = .ok (.getfield 16, 3) := by decide +kernel
theorem dX4_performAtAddress_184 : decode cX4_performAtAddress 184 = .ok (.iload_n 2, 1) := by decide +kernel
theorem dX4_performAtAddress_185 : decode cX4_performAtAddress 185 = .ok (.iaload, 1) := by decide +kernel
theorem dX4_performAtAddress_186 : decode cX4_performAtAddress 186 = .ok (.i2l, 1) := by decide +kernel
theorem dX4_performAtAddress_187 : decode cX4_performAtAddress 187 = .ok (.invokevirtual 195, 3) := by decide +kernel
theorem dX4_performAtAddress_190 : decode cX4_performAtAddress 190 = .ok (.ireturn, 1) := by decide +kernel
theorem dX4_performAtAddress_191 : decode cX4_performAtAddress 191 = .ok (.aload_n 0, 1) := by decide +kernel
theorem dX4_performAtAddress_192 : decode cX4_performAtAddress 192 = .ok (.aload_n 0, 1) := by decide +kernel
theorem dX4_performAtAddress_193 : decode cX4_performAtAddress 193 = .ok (.getfield 23, 3) := by decide +kernel
theorem dX4_performAtAddress_196 : decode cX4_performAtAddress 196 = .ok (.iload_n 2, 1) := by decide +kernel
theorem dX4_performAtAddress_197 : decode cX4_performAtAddress 197 = .ok (.aaload, 1) := by decide +kernel
theorem dX4_performAtAddress_198 : decode cX4_performAtAddress 198 = .ok (.invokevirtual 61, 3) := by decide +kernel
theorem dX4_performAtAddress_201 : decode cX4_performAtAddress 201 = .ok (.invokevirtual 195, 3) := by decide +kernel
theorem dX4_performAtAddress_204 : decode cX4_performAtAddress 204 = .ok (.ireturn, 1) := by decide +kernel
theorem dX4_performAtAddress_205 : decode cX4_performAtAddress 205 = .ok (.aload_n 0, 1) := by decide +kernel
theorem dX4_performAtAddress_206 : decode cX4_performAtAddress 206 = .ok (.iconst 1, 1) := by decide +kernel
theorem dX4_performAtAddress_207 : decode cX4_performAtAddress 207 = .ok (.invokevirtual 201, 3) := by decide +kernel
theorem dX4_performAtAddress_210 : decode cX4_performAtAddress 210 = .ok (.ireturn, 1) := by decide +kernel
theorem dX4_performAtAddress_211 : decode cX4_performAtAddress 211 = .ok (.aload_n 0, 1) := by decide +kernel
theorem dX4_performAtAddress_212 : decode cX4_performAtAddress 212 = .ok (.aload_n 0, 1) := by decide +kernel
theorem dX4_performAtAddress_213 : decode cX4_performAtAddress 213 = .ok (.getfield 46, 3) := by decide +kernel
theorem dX4_performAtAddress_216 : decode cX4_performAtAddress 216 = .ok (.lconst 0, 1) := by decide +kernel
theorem dX4_performAtAddress_217 : decode cX4_performAtAddress 217 = .ok (.lcmp, 1) := by decide +kernel
theorem dX4_performAtAddress_218 : decode cX4_performAtAddress 218 = .ok (.ifCond .ne 7, 3) := by decide +kernel
theorem dX4_performAtAddress_221 : decode cX4_performAtAddress 221 = .ok (.iconst 1, 1) := by decide +kernel
theorem dX4_performAtAddress_222 : decode cX4_performAtAddress 222 = .ok (.goto 4, 3) := by decide +kernel
theorem dX4_performAtAddress_225 : decode cX4_performAtAddress 225 = .ok (.iconst 0, 1) := by decide +kernel
theorem dX4_performAtAddress_226 : decode cX4_performAtAddress 226 = .ok (.invokevirtual 201, 3) := by decide +kernel
theorem dX4_performAtAddress_229 : decode cX4_performAtAddress 229 = .ok (.ireturn, 1) := by decide +kernel
theorem dX4_performAtAddress_230 : decode cX4_performAtAddress 230 = .ok (.aload_n 0, 1) := by decide +kernel
theorem dX4_performAtAddress_231 : decode cX4_performAtAddress 231 = .ok (.aload_n 0, 1) := by decide +kernel
theorem dX4_performAtAddress_232 : decode cX4_performAtAddress 232 = .ok (.getfield 46, 3) := by decide +kernel
theorem dX4_performAtAddress_235 : decode cX4_performAtAddress 235 = .ok (.lconst 0, 1) := by decide +kernel
theorem dX4_performAtAddress_236 : decode cX4_performAtAddress 236 = .ok (.lcmp, 1) := by decide +kernel
theorem dX4_performAtAddress_237 : decode cX4_performAtAddress 237 = .ok (.ifCond .eq 7, 3) := by decide +kernel
theorem dX4_performAtAddress_240 : decode cX4_performAtAddress 240 = .ok (.iconst 1, 1) := by decide +kernel
theorem dX4_performAtAddress_241 : decode cX4_performAtAddress 241 = .ok (.goto 4, 3) := by decide +kernel
theorem dX4_performAtAddress_244 : decode cX4_performAtAddress 244 = .ok (.iconst 0, 1) := by decide +kernel
theorem dX4_performAtAddress_245 : decode cX4_performAtAddress 245 = .ok (.invokevirtual 201, 3) := by decide +kernel
theorem dX4_performAtAddress_248 : decode cX4_performAtAddress 248 = .ok (.ireturn, 1) := by decide +kernel
theorem dX4_performAtAddress_249 : decode cX4_performAtAddress 249 = .ok (.aload_n 0, 1) := by decide +kernel
theorem dX4_performAtAddress_250 : decode cX4_performAtAddress 250 = .ok (.aload_n 0, 1) := by decide +kernel
theorem dX4_performAtAddress_251 : decode cX4_performAtAddress 251 = .ok (.getfield 46, 3) := by decide +kernel
theorem dX4_performAtAddress_254 : decode cX4_performAtAddress 254 = .ok (.ldc2_w 205, 3) := by decide +kernel
theorem dX4_performAtAddress_257 : decode cX4_performAtAddress 257 = .ok (.land, 1) := by decide +kernel
theorem dX4_performAtAddress_258 : decode cX4_performAtAddress 258 = .ok (.lconst 0, 1) := by decide +kernel
theorem dX4_performAtAddress_259 : decode cX4_performAtAddress 259 = .ok (.lcmp, 1) := by decide +kernel
theorem dX4_performAtAddress_260 : decode cX4_performAtAddress 260 = .ok (.ifCond .eq 7, 3) := by decide +kernel
theorem dX4_performAtAddress_263 : decode cX4_performAtAddress 263 = .ok (.iconst 1, 1) := by decide +kernel
theorem dX4_performAtAddress_264 : decode cX4_performAtAddress 264 = .ok (.goto 4, 3) := by decide +kernel
theorem dX4_performAtAddress_267 : decode cX4_performAtAddress 267 = .ok (.iconst 0, 1) := by decide +kernel
theorem dX4_performAtAddress_268 : decode cX4_performAtAddress 268 = .ok (.invokevirtual 201, 3) := by decide +kernel
theorem dX4_performAtAddress_271 : decode cX4_performAtAddress 271 = .ok (.ireturn, 1) := by decide +kernel
theorem dX4_performAtAddress_272 : decode cX4_performAtAddress 272 = .ok (.aload_n 0, 1) := by decide +kernel
theorem dX4_performAtAddress_273 : decode cX4_performAtAddress 273 = .ok (.getfield 23, 3) := by decide +kernel
theorem dX4_performAtAddress_276 : decode cX4_performAtAddress 276 = .ok (.iload_n 2, 1) := by decide +kernel
theorem dX4_performAtAddress_277 : decode cX4_performAtAddress 277 = .ok (.aaload, 1) := by decide +kernel
theorem dX4_performAtAddress_278 : decode cX4_performAtAddress 278 = .ok (.aload_n 0, 1) := by decide +kernel
theorem dX4_performAtAddress_279 : decode cX4_performAtAddress 279 = .ok (.getfield 31, 3) := by decide +kernel
theorem dX4_performAtAddress_282 : decode cX4_performAtAddress 282 = .ok (.invokevirtual 125, 3) := by decide +kernel
theorem dX4_performAtAddress_285 : decode cX4_performAtAddress 285 = .ok (.aload_n 0, 1) := by decide +kernel
theorem dX4_performAtAddress_286 : decode cX4_performAtAddress 286 = .ok (.invokevirtual 180, 3) := by decide +kernel
theorem dX4_performAtAddress_289 : decode cX4_performAtAddress 289 = .ok (.ireturn, 1) := by decide +kernel
theorem dX4_performAtAddress_290 : decode cX4_performAtAddress 290 = .ok (.aload_n 0, 1) := by decide +kernel
theorem dX4_performAtAddress_291 : decode cX4_performAtAddress 291 = .ok (.aload_n 0, 1) := by decide +kernel
theorem dX4_performAtAddress_292 : decode cX4_performAtAddress 292 = .ok (.getfield 31, 3) := by decide +kernel
theorem dX4_performAtAddress_295 : decode cX4_performAtAddress 295 = .ok (.getfield 122, 3) := by decide +kernel
theorem dX4_performAtAddress_298 : decode cX4_performAtAddress 298 = .ok (.i2l, 1) := by decide +kernel
theorem dX4_performAtAddress_299 : decode cX4_performAtAddress 299 = .ok (.putfield 46, 3) := by decide +kernel
theorem dX4_performAtAddress_302 : decode cX4_performAtAddress 302 = .ok (.aload_n 0, 1) := by decide +kernel
theorem dX4_performAtAddress_303 : decode cX4_performAtAddress 303 = .ok (.invokevirtual 180, 3) := by decide +kernel
theorem dX4_performAtAddress_306 : decode cX4_performAtAddress 306 = .ok (.ireturn, 1) := by decide +kernel
theorem dX4_performAtAddress_307 : decode cX4_performAtAddress 307 = .ok (.aload_n 0, 1) := by decide +kernel
theorem dX4_performAtAddress_308 : decode cX4_performAtAddress 308 = .ok (.invokevirtual 207, 3) := by decide +kernel
theorem dX4_performAtAddress_311 : decode cX4_performAtAddress 311 = .ok (.ireturn, 1) := by decide +kernel
theorem dX4_performAtAddress_312 : decode cX4_performAtAddress 312 = .ok (.aload_n 0, 1) := by decide +kernel
theorem dX4_performAtAddress_313 : decode cX4_performAtAddress 313 = .ok (.invokevirtual 210, 3) := by decide +kernel
theorem dX4_performAtAddress_316 : decode cX4_performAtAddress 316 = .ok (.ireturn, 1) := by decide +kernel
theorem dX4_performAtAddress_317 : decode cX4_performAtAddress 317 = .ok (.aload_n 0, 1) := by decide +kernel
theorem dX4_performAtAddress_318 : decode cX4_performAtAddress 318 = .ok (.iload_n 1, 1) := by decide +kernel
theorem dX4_performAtAddress_319 : decode cX4_performAtAddress 319 = .ok (.invokevirtual 213, 3) := by decide +kernel
theorem dX4_performAtAddress_322 : decode cX4_performAtAddress 322 = .ok (.ireturn, 1) := by decide +kernel
theorem kw164 : Cond.code yX4_put cX4_put 4 (some .int) ∈ gG := inG 485 (by decide +kernel) (by decide +kernel)
theorem kw165 : Cond.methodLink RX4 195 yX4_put ∈ gG := inG 482 (by decide +kernel) (by decide +kernel)
theorem kw166 : Cond.instanceMethod yX4_put ∈ gG := inG 484 (by decide +kernel) (by decide +kernel)
theorem kw167 : Cond.selects RX4 yX4_put yX4_put ∈ gG := inG 13 (by decide +kernel) (by decide +kernel)
theorem kw168 : Cond.code yX4_load cX4_load 4 (some .int) ∈ gG := inG 521 (by decide +kernel) (by decide +kernel)
theorem kw169 : Cond.methodLink RX4 213 yX4_load ∈ gG := inG 518 (by decide +kernel) (by decide +kernel)
theorem kw170 : Cond.instanceMethod yX4_load ∈ gG := inG 520 (by decide +kernel) (by decide +kernel)
theorem kw171 : Cond.selects RX4 yX4_load yX4_load ∈ gG := inG 19 (by decide +kernel) (by decide +kernel)
theorem kw172 : Cond.code yX4_addOne cX4_addOne 4 (some .int) ∈ gG := inG 499 (by decide +kernel) (by decide +kernel)
theorem kw173 : Cond.methodLink RX4 198 yX4_addOne ∈ gG := inG 496 (by decide +kernel) (by decide +kernel)
theorem kw174 : Cond.instanceMethod yX4_addOne ∈ gG := inG 498 (by decide +kernel) (by decide +kernel)
theorem kw175 : Cond.selects RX4 yX4_addOne yX4_addOne ∈ gG := inG 15 (by decide +kernel) (by decide +kernel)
theorem kw176 : Cond.code yX4_transfer cX4_transfer 2 (some .int) ∈ gG := inG 503 (by decide +kernel) (by decide +kernel)
theorem kw177 : Cond.methodLink RX4 201 yX4_transfer ∈ gG := inG 500 (by decide +kernel) (by decide +kernel)
theorem kw178 : Cond.instanceMethod yX4_transfer ∈ gG := inG 502 (by decide +kernel) (by decide +kernel)
theorem kw179 : Cond.selects RX4 yX4_transfer yX4_transfer ∈ gG := inG 16 (by decide +kernel) (by decide +kernel)
theorem kw180 : Cond.constantLong RX4 205 34359738368 ∈ gG := inG 504 (by decide +kernel) (by decide +kernel)
theorem kw181 : Cond.code yX2_asWord cX2_asWord 1 (some .long) ∈ gG := inG 239 (by decide +kernel) (by decide +kernel)
theorem kw182 : Cond.methodLink RX4 61 yX2_asWord ∈ gG := inG 236 (by decide +kernel) (by decide +kernel)
theorem kw183 : Cond.instanceMethod yX2_asWord ∈ gG := inG 237 (by decide +kernel) (by decide +kernel)
theorem kw184 : Cond.selects RX2 yX2_asWord yX2_asWord ∈ gG := inG 238 (by decide +kernel) (by decide +kernel)
theorem kw185 : Cond.code yX4_callAddress cX4_callAddress 3 (some .int) ∈ gG := inG 508 (by decide +kernel) (by decide +kernel)
theorem kw186 : Cond.methodLink RX4 207 yX4_callAddress ∈ gG := inG 505 (by decide +kernel) (by decide +kernel)
theorem kw187 : Cond.instanceMethod yX4_callAddress ∈ gG := inG 507 (by decide +kernel) (by decide +kernel)
theorem kw188 : Cond.selects RX4 yX4_callAddress yX4_callAddress ∈ gG := inG 17 (by decide +kernel) (by decide +kernel)
theorem kw189 : Cond.code yX4_returnByWord cX4_returnByWord 4 (some .int) ∈ gG := inG 517 (by decide +kernel) (by decide +kernel)
theorem kw190 : Cond.methodLink RX4 210 yX4_returnByWord ∈ gG := inG 514 (by decide +kernel) (by decide +kernel)
theorem kw191 : Cond.instanceMethod yX4_returnByWord ∈ gG := inG 516 (by decide +kernel) (by decide +kernel)
theorem kw192 : Cond.selects RX4 yX4_returnByWord yX4_returnByWord ∈ gG := inG 18 (by decide +kernel) (by decide +kernel)
theorem hdX4_put : yX4_put.cls ≠ "java/lang/invoke/MethodHandle" ∧ yX4_put.cls ≠ "java/lang/invoke/VarHandle" ∧ (parseMethodDescriptor yX4_put.desc).map (fun d => d.parameters.length) = some 1 := by decide +kernel
theorem hdX4_load : yX4_load.cls ≠ "java/lang/invoke/MethodHandle" ∧ yX4_load.cls ≠ "java/lang/invoke/VarHandle" ∧ (parseMethodDescriptor yX4_load.desc).map (fun d => d.parameters.length) = some 1 := by decide +kernel
theorem hdX4_addOne : yX4_addOne.cls ≠ "java/lang/invoke/MethodHandle" ∧ yX4_addOne.cls ≠ "java/lang/invoke/VarHandle" ∧ (parseMethodDescriptor yX4_addOne.desc).map (fun d => d.parameters.length) = some 0 := by decide +kernel
theorem hdX4_transfer : yX4_transfer.cls ≠ "java/lang/invoke/MethodHandle" ∧ yX4_transfer.cls ≠ "java/lang/invoke/VarHandle" ∧ (parseMethodDescriptor yX4_transfer.desc).map (fun d => d.parameters.length) = some 1 := by decide +kernel
theorem hdX2_asWord : yX2_asWord.cls ≠ "java/lang/invoke/MethodHandle" ∧ yX2_asWord.cls ≠ "java/lang/invoke/VarHandle" ∧ (parseMethodDescriptor yX2_asWord.desc).map (fun d => d.parameters.length) = some 0 := by decide +kernel
theorem hdX4_callAddress : yX4_callAddress.cls ≠ "java/lang/invoke/MethodHandle" ∧ yX4_callAddress.cls ≠ "java/lang/invoke/VarHandle" ∧ (parseMethodDescriptor yX4_callAddress.desc).map (fun d => d.parameters.length) = some 0 := by decide +kernel
theorem hdX4_returnByWord : yX4_returnByWord.cls ≠ "java/lang/invoke/MethodHandle" ∧ yX4_returnByWord.cls ≠ "java/lang/invoke/VarHandle" ∧ (parseMethodDescriptor yX4_returnByWord.desc).map (fun d => d.parameters.length) = some 0 := by decide +kernel
