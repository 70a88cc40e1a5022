/-! the law: its instructions, the words of its calls -/
theorem dW_0 : decode code 0 = .ok (.new 8, 3) := by decide +kernel
theorem dW_3 : decode code 3 = .ok (.dup, 1) := by decide +kernel
theorem dW_4 : decode code 4 = .ok (.invokespecial 39, 3) := by decide +kernel
theorem dW_7 : decode code 7 = .ok (.astore_n 1, 1) := by decide +kernel
theorem dW_8 : decode code 8 = .ok (.new 40, 3) := by decide +kernel
theorem dW_11 : decode code 11 = .ok (.dup, 1) := by decide +kernel
theorem dW_12 : decode code 12 = .ok (.invokespecial 42, 3) := by decide +kernel
theorem dW_15 : decode code 15 = .ok (.astore_n 2, 1) := by decide +kernel
theorem dW_16 : decode code 16 = .ok (.iconst 1, 1) := by decide +kernel
theorem dW_17 : decode code 17 = .ok (.newarray .long, 2) := by decide +kernel
theorem dW_19 : decode code 19 = .ok (.astore_n 3, 1) := by decide +kernel
theorem dW_20 : decode code 20 = .ok (.iconst 0, 1) := by decide +kernel
theorem dW_21 : decode code 21 = .ok (.istore 4, 2) := by decide +kernel
theorem dW_23 : decode code 23 = .ok (.iload 4, 2) := by decide +kernel
theorem dW_25 : decode code 25 = .ok (.aload_n 0, 1) := by decide +kernel
theorem dW_26 : decode code 26 = .ok (.arraylength, 1) := by decide +kernel
theorem dW_27 : decode code 27 = .ok (.iconst 5, 1) := by decide +kernel
theorem dW_28 : decode code 28 = .ok (.isub, 1) := by decide +kernel
theorem dW_29 : decode code 29 = .ok (.if_icmp .gt 614, 3) := by decide +kernel
theorem dW_32 : decode code 32 = .ok (.aload_n 0, 1) := by decide +kernel
theorem dW_33 : decode code 33 = .ok (.iload 4, 2) := by decide +kernel
theorem dW_35 : decode code 35 = .ok (.iaload, 1) := by decide +kernel
theorem dW_36 : decode code 36 = .ok (.bipush 15, 2) := by decide +kernel
theorem dW_38 : decode code 38 = .ok (.iand, 1) := by decide +kernel
theorem dW_39 : decode code 39 = .ok (.tableswitch 598 0 10 #[57, 137, 192, 272, 327, 383, 394, 430, 455, 469, 506], 57) := by decide +kernel
theorem dW_96 : decode code 96 = .ok (.aload_n 1, 1) := by decide +kernel
theorem dW_97 : decode code 97 = .ok (.aload_n 0, 1) := by decide +kernel
theorem dW_98 : decode code 98 = .ok (.iload 4, 2) := by decide +kernel
theorem dW_100 : decode code 100 = .ok (.iconst 1, 1) := by decide +kernel
theorem dW_101 : decode code 101 = .ok (.iadd, 1) := by decide +kernel
theorem dW_102 : decode code 102 = .ok (.iaload, 1) := by decide +kernel
theorem dW_103 : decode code 103 = .ok (.aload_n 0, 1) := by decide +kernel
theorem dW_104 : decode code 104 = .ok (.iload 4, 2) := by decide +kernel
theorem dW_106 : decode code 106 = .ok (.iconst 2, 1) := by decide +kernel
theorem dW_107 : decode code 107 = .ok (.iadd, 1) := by decide +kernel
theorem dW_108 : decode code 108 = .ok (.iaload, 1) := by decide +kernel
theorem dW_109 : decode code 109 = .ok (.i2l, 1) := by decide +kernel
theorem dW_110 : decode code 110 = .ok (.bipush 32, 2) := by decide +kernel
theorem dW_112 : decode code 112 = .ok (.lshl, 1) := by decide +kernel
theorem dW_113 : decode code 113 = .ok (.aload_n 0, 1) := by decide +kernel
theorem dW_114 : decode code 114 = .ok (.iload 4, 2) := by decide +kernel
theorem dW_116 : decode code 116 = .ok (.iconst 3, 1) := by decide +kernel
theorem dW_117 : decode code 117 = .ok (.iadd, 1) := by decide +kernel
theorem dW_118 : decode code 118 = .ok (.iaload, 1) := by decide +kernel
theorem dW_119 : decode code 119 = .ok (.i2l, 1) := by decide +kernel
theorem dW_120 : decode code 120 = .ok (.ldc2_w 43, 3) := by decide +kernel
theorem dW_123 : decode code 123 = .ok (.land, 1) := by decide +kernel
theorem dW_124 : decode code 124 = .ok (.lor, 1) := by decide +kernel
theorem dW_125 : decode code 125 = .ok (.invokestatic 45, 3) := by decide +kernel
theorem dW_128 : decode code 128 = .ok (.istore 5, 2) := by decide +kernel
theorem dW_130 : decode code 130 = .ok (.aload_n 2, 1) := by decide +kernel
theorem dW_131 : decode code 131 = .ok (.aload_n 0, 1) := by decide +kernel
theorem dW_132 : decode code 132 = .ok (.iload 4, 2) := by decide +kernel
theorem dW_134 : decode code 134 = .ok (.iconst 1, 1) := by decide +kernel
theorem dW_135 : decode code 135 = .ok (.iadd, 1) := by decide +kernel
theorem dW_136 : decode code 136 = .ok (.iaload, 1) := by decide +kernel
theorem dW_137 : decode code 137 = .ok (.aload_n 0, 1) := by decide +kernel
theorem dW_138 : decode code 138 = .ok (.iload 4, 2) := by decide +kernel
theorem dW_140 : decode code 140 = .ok (.iconst 2, 1) := by decide +kernel
theorem dW_141 : decode code 141 = .ok (.iadd, 1) := by decide +kernel
theorem dW_142 : decode code 142 = .ok (.iaload, 1) := by decide +kernel
theorem dW_143 : decode code 143 = .ok (.i2l, 1) := by decide +kernel
theorem dW_144 : decode code 144 = .ok (.bipush 32, 2) := by decide +kernel
theorem dW_146 : decode code 146 = .ok (.lshl, 1) := by decide +kernel
theorem dW_147 : decode code 147 = .ok (.aload_n 0, 1) := by decide +kernel
theorem dW_148 : decode code 148 = .ok (.iload 4, 2) := by decide +kernel
theorem dW_150 : decode code 150 = .ok (.iconst 3, 1) := by decide +kernel
theorem dW_151 : decode code 151 = .ok (.iadd, 1) := by decide +kernel
theorem dW_152 : decode code 152 = .ok (.iaload, 1) := by decide +kernel
theorem dW_153 : decode code 153 = .ok (.i2l, 1) := by decide +kernel
theorem dW_154 : decode code 154 = .ok (.ldc2_w 43, 3) := by decide +kernel
theorem dW_157 : decode code 157 = .ok (.land, 1) := by decide +kernel
theorem dW_158 : decode code 158 = .ok (.lor, 1) := by decide +kernel
theorem dW_159 : decode code 159 = .ok (.invokevirtual 50, 3) := by decide +kernel
theorem dW_162 : decode code 162 = .ok (.aload_n 2, 1) := by decide +kernel
theorem dW_163 : decode code 163 = .ok (.invokevirtual 51, 3) := by decide +kernel
theorem dW_166 : decode code 166 = .ok (.iload 5, 2) := by decide +kernel
theorem dW_168 : decode code 168 = .ok (.if_icmp .eq 5, 3) := by decide +kernel
theorem dW_171 : decode code 171 = .ok (.iconst 0, 1) := by decide +kernel
theorem dW_172 : decode code 172 = .ok (.ireturn, 1) := by decide +kernel
theorem dW_173 : decode code 173 = .ok (.goto 464, 3) := by decide +kernel
theorem dW_176 : decode code 176 = .ok (.aload_n 1, 1) := by decide +kernel
theorem dW_177 : decode code 177 = .ok (.aload_n 0, 1) := by decide +kernel
theorem dW_178 : decode code 178 = .ok (.iload 4, 2) := by decide +kernel
theorem dW_180 : decode code 180 = .ok (.iconst 1, 1) := by decide +kernel
theorem dW_181 : decode code 181 = .ok (.iadd, 1) := by decide +kernel
theorem dW_182 : decode code 182 = .ok (.iaload, 1) := by decide +kernel
theorem dW_183 : decode code 183 = .ok (.aload_n 3, 1) := by decide +kernel
theorem dW_184 : decode code 184 = .ok (.invokestatic 55, 3) := by decide +kernel
theorem dW_187 : decode code 187 = .ok (.istore 5, 2) := by decide +kernel
theorem dW_189 : decode code 189 = .ok (.aload_n 2, 1) := by decide +kernel
theorem dW_190 : decode code 190 = .ok (.aload_n 0, 1) := by decide +kernel
theorem dW_191 : decode code 191 = .ok (.iload 4, 2) := by decide +kernel
theorem dW_193 : decode code 193 = .ok (.iconst 1, 1) := by decide +kernel
theorem dW_194 : decode code 194 = .ok (.iadd, 1) := by decide +kernel
theorem dW_195 : decode code 195 = .ok (.iaload, 1) := by decide +kernel
theorem dW_196 : decode code 196 = .ok (.invokevirtual 58, 3) := by decide +kernel
theorem dW_199 : decode code 199 = .ok (.lstore 6, 2) := by decide +kernel
theorem dW_201 : decode code 201 = .ok (.aload_n 2, 1) := by decide +kernel
theorem dW_202 : decode code 202 = .ok (.invokevirtual 51, 3) := by decide +kernel
theorem dW_205 : decode code 205 = .ok (.iload 5, 2) := by decide +kernel
theorem dW_207 : decode code 207 = .ok (.if_icmp .eq 5, 3) := by decide +kernel
theorem dW_210 : decode code 210 = .ok (.iconst 0, 1) := by decide +kernel
theorem dW_211 : decode code 211 = .ok (.ireturn, 1) := by decide +kernel
theorem dW_212 : decode code 212 = .ok (.iload 5, 2) := by decide +kernel
theorem dW_214 : decode code 214 = .ok (.ifCond .ne 14, 3) := by decide +kernel
theorem dW_217 : decode code 217 = .ok (.aload_n 3, 1) := by decide +kernel
theorem dW_218 : decode code 218 = .ok (.iconst 0, 1) := by decide +kernel
theorem dW_219 : decode code 219 = .ok (.laload, 1) := by decide +kernel
theorem dW_220 : decode code 220 = .ok (.lload 6, 2) := by decide +kernel
theorem dW_222 : decode code 222 = .ok (.lcmp, 1) := by decide +kernel
theorem dW_223 : decode code 223 = .ok (.ifCond .eq 5, 3) := by decide +kernel
theorem dW_226 : decode code 226 = .ok (.iconst 0, 1) := by decide +kernel
theorem dW_227 : decode code 227 = .ok (.ireturn, 1) := by decide +kernel
theorem dW_228 : decode code 228 = .ok (.goto 409, 3) := by decide +kernel
theorem dW_231 : decode code 231 = .ok (.aload_n 1, 1) := by decide +kernel
theorem dW_232 : decode code 232 = .ok (.aload_n 0, 1) := by decide +kernel
theorem dW_233 : decode code 233 = .ok (.iload 4, 2) := by decide +kernel
theorem dW_235 : decode code 235 = .ok (.iconst 1, 1) := by decide +kernel
theorem dW_236 : decode code 236 = .ok (.iadd, 1) := by decide +kernel
theorem dW_237 : decode code 237 = .ok (.iaload, 1) := by decide +kernel
theorem dW_238 : decode code 238 = .ok (.aload_n 0, 1) := by decide +kernel
theorem dW_239 : decode code 239 = .ok (.iload 4, 2) := by decide +kernel
theorem dW_241 : decode code 241 = .ok (.iconst 2, 1) := by decide +kernel
theorem dW_242 : decode code 242 = .ok (.iadd, 1) := by decide +kernel
theorem dW_243 : decode code 243 = .ok (.iaload, 1) := by decide +kernel
theorem dW_244 : decode code 244 = .ok (.i2l, 1) := by decide +kernel
theorem dW_245 : decode code 245 = .ok (.bipush 32, 2) := by decide +kernel
theorem dW_247 : decode code 247 = .ok (.lshl, 1) := by decide +kernel
theorem dW_248 : decode code 248 = .ok (.aload_n 0, 1) := by decide +kernel
theorem dW_249 : decode code 249 = .ok (.iload 4, 2) := by decide +kernel
theorem dW_251 : decode code 251 = .ok (.iconst 3, 1) := by decide +kernel
theorem dW_252 : decode code 252 = .ok (.iadd, 1) := by decide +kernel
theorem dW_253 : decode code 253 = .ok (.iaload, 1) := by decide +kernel
theorem dW_254 : decode code 254 = .ok (.i2l, 1) := by decide +kernel
theorem dW_255 : decode code 255 = .ok (.ldc2_w 43, 3) := by decide +kernel
theorem dW_258 : decode code 258 = .ok (.land, 1) := by decide +kernel
theorem dW_259 : decode code 259 = .ok (.lor, 1) := by decide +kernel
theorem dW_260 : decode code 260 = .ok (.invokestatic 59, 3) := by decide +kernel
theorem dW_263 : decode code 263 = .ok (.istore 5, 2) := by decide +kernel
theorem dW_265 : decode code 265 = .ok (.aload_n 2, 1) := by decide +kernel
theorem dW_266 : decode code 266 = .ok (.aload_n 0, 1) := by decide +kernel
theorem dW_267 : decode code 267 = .ok (.iload 4, 2) := by decide +kernel
theorem dW_269 : decode code 269 = .ok (.iconst 1, 1) := by decide +kernel
theorem dW_270 : decode code 270 = .ok (.iadd, 1) := by decide +kernel
theorem dW_271 : decode code 271 = .ok (.iaload, 1) := by decide +kernel
theorem dW_272 : decode code 272 = .ok (.aload_n 0, 1) := by decide +kernel
theorem dW_273 : decode code 273 = .ok (.iload 4, 2) := by decide +kernel
theorem dW_275 : decode code 275 = .ok (.iconst 2, 1) := by decide +kernel
theorem dW_276 : decode code 276 = .ok (.iadd, 1) := by decide +kernel
theorem dW_277 : decode code 277 = .ok (.iaload, 1) := by decide +kernel
theorem dW_278 : decode code 278 = .ok (.i2l, 1) := by decide +kernel
theorem dW_279 : decode code 279 = .ok (.bipush 32, 2) := by decide +kernel
theorem dW_281 : decode code 281 = .ok (.lshl, 1) := by decide +kernel
theorem dW_282 : decode code 282 = .ok (.aload_n 0, 1) := by decide +kernel
theorem dW_283 : decode code 283 = .ok (.iload 4, 2) := by decide +kernel
theorem dW_285 : decode code 285 = .ok (.iconst 3, 1) := by decide +kernel
theorem dW_286 : decode code 286 = .ok (.iadd, 1) := by decide +kernel
theorem dW_287 : decode code 287 = .ok (.iaload, 1) := by decide +kernel
theorem dW_288 : decode code 288 = .ok (.i2l, 1) := by decide +kernel
theorem dW_289 : decode code 289 = .ok (.ldc2_w 43, 3) := by decide +kernel
theorem dW_292 : decode code 292 = .ok (.land, 1) := by decide +kernel
theorem dW_293 : decode code 293 = .ok (.lor, 1) := by decide +kernel
theorem dW_294 : decode code 294 = .ok (.invokevirtual 61, 3) := by decide +kernel
theorem dW_297 : decode code 297 = .ok (.aload_n 2, 1) := by decide +kernel
theorem dW_298 : decode code 298 = .ok (.invokevirtual 51, 3) := by decide +kernel
theorem dW_301 : decode code 301 = .ok (.iload 5, 2) := by decide +kernel
theorem dW_303 : decode code 303 = .ok (.if_icmp .eq 5, 3) := by decide +kernel
theorem dW_306 : decode code 306 = .ok (.iconst 0, 1) := by decide +kernel
theorem dW_307 : decode code 307 = .ok (.ireturn, 1) := by decide +kernel
theorem dW_308 : decode code 308 = .ok (.goto 329, 3) := by decide +kernel
theorem dW_311 : decode code 311 = .ok (.aload_n 1, 1) := by decide +kernel
theorem dW_312 : decode code 312 = .ok (.aload_n 0, 1) := by decide +kernel
theorem dW_313 : decode code 313 = .ok (.iload 4, 2) := by decide +kernel
theorem dW_315 : decode code 315 = .ok (.iconst 1, 1) := by decide +kernel
theorem dW_316 : decode code 316 = .ok (.iadd, 1) := by decide +kernel
theorem dW_317 : decode code 317 = .ok (.iaload, 1) := by decide +kernel
theorem dW_318 : decode code 318 = .ok (.aload_n 3, 1) := by decide +kernel
theorem dW_319 : decode code 319 = .ok (.invokestatic 62, 3) := by decide +kernel
theorem dW_322 : decode code 322 = .ok (.istore 5, 2) := by decide +kernel
theorem dW_324 : decode code 324 = .ok (.aload_n 2, 1) := by decide +kernel
theorem dW_325 : decode code 325 = .ok (.aload_n 0, 1) := by decide +kernel
theorem dW_326 : decode code 326 = .ok (.iload 4, 2) := by decide +kernel
theorem dW_328 : decode code 328 = .ok (.iconst 1, 1) := by decide +kernel
theorem dW_329 : decode code 329 = .ok (.iadd, 1) := by decide +kernel
theorem dW_330 : decode code 330 = .ok (.iaload, 1) := by decide +kernel
theorem dW_331 : decode code 331 = .ok (.invokevirtual 64, 3) := by decide +kernel
theorem dW_334 : decode code 334 = .ok (.lstore 6, 2) := by decide +kernel
theorem dW_336 : decode code 336 = .ok (.aload_n 2, 1) := by decide +kernel
theorem dW_337 : decode code 337 = .ok (.invokevirtual 51, 3) := by decide +kernel
theorem dW_340 : decode code 340 = .ok (.iload 5, 2) := by decide +kernel
theorem dW_342 : decode code 342 = .ok (.if_icmp .eq 5, 3) := by decide +kernel
theorem dW_345 : decode code 345 = .ok (.iconst 0, 1) := by decide +kernel
theorem dW_346 : decode code 346 = .ok (.ireturn, 1) := by decide +kernel
theorem dW_347 : decode code 347 = .ok (.iload 5, 2) := by decide +kernel
theorem dW_349 : decode code 349 = .ok (.ifCond .ne 14, 3) := by decide +kernel
theorem dW_352 : decode code 352 = .ok (.aload_n 3, 1) := by decide +kernel
theorem dW_353 : decode code 353 = .ok (.iconst 0, 1) := by decide +kernel
theorem dW_354 : decode code 354 = .ok (.laload, 1) := by decide +kernel
theorem dW_355 : decode code 355 = .ok (.lload 6, 2) := by decide +kernel
theorem dW_357 : decode code 357 = .ok (.lcmp, 1) := by decide +kernel
theorem dW_358 : decode code 358 = .ok (.ifCond .eq 5, 3) := by decide +kernel
theorem dW_361 : decode code 361 = .ok (.iconst 0, 1) := by decide +kernel
theorem dW_362 : decode code 362 = .ok (.ireturn, 1) := by decide +kernel
theorem dW_363 : decode code 363 = .ok (.goto 274, 3) := by decide +kernel
theorem dW_366 : decode code 366 = .ok (.aload_n 1, 1) := by decide +kernel
theorem dW_367 : decode code 367 = .ok (.aload_n 0, 1) := by decide +kernel
theorem dW_368 : decode code 368 = .ok (.iload 4, 2) := by decide +kernel
theorem dW_370 : decode code 370 = .ok (.iconst 1, 1) := by decide +kernel
theorem dW_371 : decode code 371 = .ok (.iadd, 1) := by decide +kernel
theorem dW_372 : decode code 372 = .ok (.iaload, 1) := by decide +kernel
theorem dW_373 : decode code 373 = .ok (.aload_n 3, 1) := by decide +kernel
theorem dW_374 : decode code 374 = .ok (.invokestatic 65, 3) := by decide +kernel
theorem dW_377 : decode code 377 = .ok (.istore 5, 2) := by decide +kernel
theorem dW_379 : decode code 379 = .ok (.aload_n 2, 1) := by decide +kernel
theorem dW_380 : decode code 380 = .ok (.aload_n 0, 1) := by decide +kernel
theorem dW_381 : decode code 381 = .ok (.iload 4, 2) := by decide +kernel
theorem dW_383 : decode code 383 = .ok (.iconst 1, 1) := by decide +kernel
theorem dW_384 : decode code 384 = .ok (.iadd, 1) := by decide +kernel
theorem dW_385 : decode code 385 = .ok (.iaload, 1) := by decide +kernel
theorem dW_386 : decode code 386 = .ok (.invokevirtual 67, 3) := by decide +kernel
theorem dW_389 : decode code 389 = .ok (.istore 6, 2) := by decide +kernel
theorem dW_391 : decode code 391 = .ok (.aload_n 2, 1) := by decide +kernel
theorem dW_392 : decode code 392 = .ok (.invokevirtual 51, 3) := by decide +kernel
theorem dW_395 : decode code 395 = .ok (.iload 5, 2) := by decide +kernel
theorem dW_397 : decode code 397 = .ok (.if_icmp .eq 5, 3) := by decide +kernel
theorem dW_400 : decode code 400 = .ok (.iconst 0, 1) := by decide +kernel
theorem dW_401 : decode code 401 = .ok (.ireturn, 1) := by decide +kernel
theorem dW_402 : decode code 402 = .ok (.iload 5, 2) := by decide +kernel
theorem dW_404 : decode code 404 = .ok (.ifCond .ne 15, 3) := by decide +kernel
theorem dW_407 : decode code 407 = .ok (.aload_n 3, 1) := by decide +kernel
theorem dW_408 : decode code 408 = .ok (.iconst 0, 1) := by decide +kernel
theorem dW_409 : decode code 409 = .ok (.laload, 1) := by decide +kernel
theorem dW_410 : decode code 410 = .ok (.iload 6, 2) := by decide +kernel
theorem dW_412 : decode code 412 = .ok (.i2l, 1) := by decide +kernel
theorem dW_413 : decode code 413 = .ok (.lcmp, 1) := by decide +kernel
theorem dW_414 : decode code 414 = .ok (.ifCond .eq 5, 3) := by decide +kernel
theorem dW_417 : decode code 417 = .ok (.iconst 0, 1) := by decide +kernel
theorem dW_418 : decode code 418 = .ok (.ireturn, 1) := by decide +kernel
theorem dW_419 : decode code 419 = .ok (.goto 218, 3) := by decide +kernel
theorem dW_422 : decode code 422 = .ok (.aload_n 1, 1) := by decide +kernel
theorem dW_423 : decode code 423 = .ok (.invokevirtual 68, 3) := by decide +kernel
theorem dW_426 : decode code 426 = .ok (.aload_n 2, 1) := by decide +kernel
theorem dW_427 : decode code 427 = .ok (.invokevirtual 71, 3) := by decide +kernel
theorem dW_430 : decode code 430 = .ok (.goto 207, 3) := by decide +kernel
theorem dW_433 : decode code 433 = .ok (.aload_n 1, 1) := by decide +kernel
theorem dW_434 : decode code 434 = .ok (.aload_n 0, 1) := by decide +kernel
theorem dW_435 : decode code 435 = .ok (.iload 4, 2) := by decide +kernel
theorem dW_437 : decode code 437 = .ok (.iconst 1, 1) := by decide +kernel
theorem dW_438 : decode code 438 = .ok (.iadd, 1) := by decide +kernel
theorem dW_439 : decode code 439 = .ok (.iaload, 1) := by decide +kernel
theorem dW_440 : decode code 440 = .ok (.invokestatic 72, 3) := by decide +kernel
theorem dW_443 : decode code 443 = .ok (.istore 5, 2) := by decide +kernel
theorem dW_445 : decode code 445 = .ok (.aload_n 2, 1) := by decide +kernel
theorem dW_446 : decode code 446 = .ok (.aload_n 0, 1) := by decide +kernel
theorem dW_447 : decode code 447 = .ok (.iload 4, 2) := by decide +kernel
theorem dW_449 : decode code 449 = .ok (.iconst 1, 1) := by decide +kernel
theorem dW_450 : decode code 450 = .ok (.iadd, 1) := by decide +kernel
theorem dW_451 : decode code 451 = .ok (.iaload, 1) := by decide +kernel
theorem dW_452 : decode code 452 = .ok (.invokevirtual 75, 3) := by decide +kernel
theorem dW_455 : decode code 455 = .ok (.aload_n 2, 1) := by decide +kernel
theorem dW_456 : decode code 456 = .ok (.invokevirtual 51, 3) := by decide +kernel
theorem dW_459 : decode code 459 = .ok (.iload 5, 2) := by decide +kernel
theorem dW_461 : decode code 461 = .ok (.if_icmp .eq 5, 3) := by decide +kernel
theorem dW_464 : decode code 464 = .ok (.iconst 0, 1) := by decide +kernel
theorem dW_465 : decode code 465 = .ok (.ireturn, 1) := by decide +kernel
theorem dW_466 : decode code 466 = .ok (.goto 171, 3) := by decide +kernel
theorem dW_469 : decode code 469 = .ok (.aload_n 1, 1) := by decide +kernel
theorem dW_470 : decode code 470 = .ok (.aload_n 0, 1) := by decide +kernel
theorem dW_471 : decode code 471 = .ok (.iload 4, 2) := by decide +kernel
theorem dW_473 : decode code 473 = .ok (.iconst 1, 1) := by decide +kernel
theorem dW_474 : decode code 474 = .ok (.iadd, 1) := by decide +kernel
theorem dW_475 : decode code 475 = .ok (.iaload, 1) := by decide +kernel
theorem dW_476 : decode code 476 = .ok (.invokevirtual 76, 3) := by decide +kernel
theorem dW_479 : decode code 479 = .ok (.aload_n 2, 1) := by decide +kernel
theorem dW_480 : decode code 480 = .ok (.aload_n 0, 1) := by decide +kernel
theorem dW_481 : decode code 481 = .ok (.iload 4, 2) := by decide +kernel
theorem dW_483 : decode code 483 = .ok (.iconst 1, 1) := by decide +kernel
theorem dW_484 : decode code 484 = .ok (.iadd, 1) := by decide +kernel
theorem dW_485 : decode code 485 = .ok (.iaload, 1) := by decide +kernel
theorem dW_486 : decode code 486 = .ok (.invokevirtual 79, 3) := by decide +kernel
theorem dW_489 : decode code 489 = .ok (.if_icmp .eq 148, 3) := by decide +kernel
theorem dW_492 : decode code 492 = .ok (.iconst 0, 1) := by decide +kernel
theorem dW_493 : decode code 493 = .ok (.ireturn, 1) := by decide +kernel
theorem dW_494 : decode code 494 = .ok (.aload_n 1, 1) := by decide +kernel
theorem dW_495 : decode code 495 = .ok (.invokevirtual 80, 3) := by decide +kernel
theorem dW_498 : decode code 498 = .ok (.aload_n 2, 1) := by decide +kernel
theorem dW_499 : decode code 499 = .ok (.invokevirtual 84, 3) := by decide +kernel
theorem dW_502 : decode code 502 = .ok (.lcmp, 1) := by decide +kernel
theorem dW_503 : decode code 503 = .ok (.ifCond .eq 134, 3) := by decide +kernel
theorem dW_506 : decode code 506 = .ok (.iconst 0, 1) := by decide +kernel
theorem dW_507 : decode code 507 = .ok (.ireturn, 1) := by decide +kernel
theorem dW_508 : decode code 508 = .ok (.aload_n 1, 1) := by decide +kernel
theorem dW_509 : decode code 509 = .ok (.aload_n 0, 1) := by decide +kernel
theorem dW_510 : decode code 510 = .ok (.iload 4, 2) := by decide +kernel
theorem dW_512 : decode code 512 = .ok (.iconst 1, 1) := by decide +kernel
theorem dW_513 : decode code 513 = .ok (.iadd, 1) := by decide +kernel
theorem dW_514 : decode code 514 = .ok (.iaload, 1) := by decide +kernel
theorem dW_515 : decode code 515 = .ok (.aload_n 0, 1) := by decide +kernel
theorem dW_516 : decode code 516 = .ok (.iload 4, 2) := by decide +kernel
theorem dW_518 : decode code 518 = .ok (.iconst 2, 1) := by decide +kernel
theorem dW_519 : decode code 519 = .ok (.iadd, 1) := by decide +kernel
theorem dW_520 : decode code 520 = .ok (.iaload, 1) := by decide +kernel
theorem dW_521 : decode code 521 = .ok (.invokevirtual 85, 3) := by decide +kernel
theorem dW_524 : decode code 524 = .ok (.aload_n 2, 1) := by decide +kernel
theorem dW_525 : decode code 525 = .ok (.aload_n 0, 1) := by decide +kernel
theorem dW_526 : decode code 526 = .ok (.iload 4, 2) := by decide +kernel
theorem dW_528 : decode code 528 = .ok (.iconst 1, 1) := by decide +kernel
theorem dW_529 : decode code 529 = .ok (.iadd, 1) := by decide +kernel
theorem dW_530 : decode code 530 = .ok (.iaload, 1) := by decide +kernel
theorem dW_531 : decode code 531 = .ok (.aload_n 0, 1) := by decide +kernel
theorem dW_532 : decode code 532 = .ok (.iload 4, 2) := by decide +kernel
theorem dW_534 : decode code 534 = .ok (.iconst 2, 1) := by decide +kernel
theorem dW_535 : decode code 535 = .ok (.iadd, 1) := by decide +kernel
theorem dW_536 : decode code 536 = .ok (.iaload, 1) := by decide +kernel
theorem dW_537 : decode code 537 = .ok (.invokevirtual 89, 3) := by decide +kernel
theorem dW_540 : decode code 540 = .ok (.if_icmp .eq 97, 3) := by decide +kernel
theorem dW_543 : decode code 543 = .ok (.iconst 0, 1) := by decide +kernel
theorem dW_544 : decode code 544 = .ok (.ireturn, 1) := by decide +kernel
theorem dW_545 : decode code 545 = .ok (.aload_n 1, 1) := by decide +kernel
theorem dW_546 : decode code 546 = .ok (.aload_n 0, 1) := by decide +kernel
theorem dW_547 : decode code 547 = .ok (.iload 4, 2) := by decide +kernel
theorem dW_549 : decode code 549 = .ok (.iconst 1, 1) := by decide +kernel
theorem dW_550 : decode code 550 = .ok (.iadd, 1) := by decide +kernel
theorem dW_551 : decode code 551 = .ok (.iaload, 1) := by decide +kernel
theorem dW_552 : decode code 552 = .ok (.aload_n 0, 1) := by decide +kernel
theorem dW_553 : decode code 553 = .ok (.iload 4, 2) := by decide +kernel
theorem dW_555 : decode code 555 = .ok (.iconst 2, 1) := by decide +kernel
theorem dW_556 : decode code 556 = .ok (.iadd, 1) := by decide +kernel
theorem dW_557 : decode code 557 = .ok (.iaload, 1) := by decide +kernel
theorem dW_558 : decode code 558 = .ok (.aload_n 0, 1) := by decide +kernel
theorem dW_559 : decode code 559 = .ok (.iload 4, 2) := by decide +kernel
theorem dW_561 : decode code 561 = .ok (.iconst 3, 1) := by decide +kernel
theorem dW_562 : decode code 562 = .ok (.iadd, 1) := by decide +kernel
theorem dW_563 : decode code 563 = .ok (.iaload, 1) := by decide +kernel
theorem dW_564 : decode code 564 = .ok (.aload_n 0, 1) := by decide +kernel
theorem dW_565 : decode code 565 = .ok (.iload 4, 2) := by decide +kernel
theorem dW_567 : decode code 567 = .ok (.iconst 4, 1) := by decide +kernel
theorem dW_568 : decode code 568 = .ok (.iadd, 1) := by decide +kernel
theorem dW_569 : decode code 569 = .ok (.iaload, 1) := by decide +kernel
theorem dW_570 : decode code 570 = .ok (.aload_n 3, 1) := by decide +kernel
theorem dW_571 : decode code 571 = .ok (.invokestatic 90, 3) := by decide +kernel
theorem dW_574 : decode code 574 = .ok (.istore 5, 2) := by decide +kernel
theorem dW_576 : decode code 576 = .ok (.aload_n 2, 1) := by decide +kernel
theorem dW_577 : decode code 577 = .ok (.aload_n 0, 1) := by decide +kernel
theorem dW_578 : decode code 578 = .ok (.iload 4, 2) := by decide +kernel
theorem dW_580 : decode code 580 = .ok (.iconst 1, 1) := by decide +kernel
theorem dW_581 : decode code 581 = .ok (.iadd, 1) := by decide +kernel
theorem dW_582 : decode code 582 = .ok (.iaload, 1) := by decide +kernel
theorem dW_583 : decode code 583 = .ok (.aload_n 0, 1) := by decide +kernel
theorem dW_584 : decode code 584 = .ok (.iload 4, 2) := by decide +kernel
theorem dW_586 : decode code 586 = .ok (.iconst 2, 1) := by decide +kernel
theorem dW_587 : decode code 587 = .ok (.iadd, 1) := by decide +kernel
theorem dW_588 : decode code 588 = .ok (.iaload, 1) := by decide +kernel
theorem dW_589 : decode code 589 = .ok (.aload_n 0, 1) := by decide +kernel
theorem dW_590 : decode code 590 = .ok (.iload 4, 2) := by decide +kernel
theorem dW_592 : decode code 592 = .ok (.iconst 3, 1) := by decide +kernel
theorem dW_593 : decode code 593 = .ok (.iadd, 1) := by decide +kernel
theorem dW_594 : decode code 594 = .ok (.iaload, 1) := by decide +kernel
theorem dW_595 : decode code 595 = .ok (.aload_n 0, 1) := by decide +kernel
theorem dW_596 : decode code 596 = .ok (.iload 4, 2) := by decide +kernel
theorem dW_598 : decode code 598 = .ok (.iconst 4, 1) := by decide +kernel
theorem dW_599 : decode code 599 = .ok (.iadd, 1) := by decide +kernel
theorem dW_600 : decode code 600 = .ok (.iaload, 1) := by decide +kernel
theorem dW_601 : decode code 601 = .ok (.invokevirtual 93, 3) := by decide +kernel
theorem dW_604 : decode code 604 = .ok (.istore 6, 2) := by decide +kernel
theorem dW_606 : decode code 606 = .ok (.aload_n 2, 1) := by decide +kernel
theorem dW_607 : decode code 607 = .ok (.invokevirtual 51, 3) := by decide +kernel
theorem dW_610 : decode code 610 = .ok (.iload 5, 2) := by decide +kernel
theorem dW_612 : decode code 612 = .ok (.if_icmp .eq 5, 3) := by decide +kernel
theorem dW_615 : decode code 615 = .ok (.iconst 0, 1) := by decide +kernel
theorem dW_616 : decode code 616 = .ok (.ireturn, 1) := by decide +kernel
theorem dW_617 : decode code 617 = .ok (.iload 5, 2) := by decide +kernel
theorem dW_619 : decode code 619 = .ok (.ifCond .ne 15, 3) := by decide +kernel
theorem dW_622 : decode code 622 = .ok (.aload_n 3, 1) := by decide +kernel
theorem dW_623 : decode code 623 = .ok (.iconst 0, 1) := by decide +kernel
theorem dW_624 : decode code 624 = .ok (.laload, 1) := by decide +kernel
theorem dW_625 : decode code 625 = .ok (.iload 6, 2) := by decide +kernel
theorem dW_627 : decode code 627 = .ok (.i2l, 1) := by decide +kernel
theorem dW_628 : decode code 628 = .ok (.lcmp, 1) := by decide +kernel
theorem dW_629 : decode code 629 = .ok (.ifCond .eq 5, 3) := by decide +kernel
theorem dW_632 : decode code 632 = .ok (.iconst 0, 1) := by decide +kernel
theorem dW_633 : decode code 633 = .ok (.ireturn, 1) := by decide +kernel
theorem dW_634 : decode code 634 = .ok (.goto 3, 3) := by decide +kernel
theorem dW_637 : decode code 637 = .ok (.iinc 4 5, 3) := by decide +kernel
theorem dW_640 : decode code 640 = .ok (.goto (-617), 3) := by decide +kernel
theorem dW_643 : decode code 643 = .ok (.iconst 1, 1) := by decide +kernel
theorem dW_644 : decode code 644 = .ok (.ireturn, 1) := by decide +kernel
theorem inr {a hi : Int32} {n : Int} (hh : hi.toInt = n) (h0 : ¬ a < 0) (h1 : a ≤ hi) : 0 ≤ a.toInt ∧ a.toInt ≤ n :=
  ⟨Int.not_lt.mp fun h => h0 (Int32.lt_iff_toInt_lt.mpr h), hh ▸ Int32.le_iff_toInt_le.mp h1⟩
theorem inr2 {a hi : Int32} {n : Int} (hh : hi.toInt = n) (h0 : ¬ a < 0) (h1 : ¬ hi < a) : 0 ≤ a.toInt ∧ a.toInt ≤ n :=
  ⟨Int.not_lt.mp fun h => h0 (Int32.lt_iff_toInt_lt.mpr h), hh ▸ Int.not_lt.mp fun h => h1 (Int32.lt_iff_toInt_lt.mpr h)⟩
theorem no6 {a b c d e f : Prop} [Decidable f] (h : ¬ (a ∨ b ∨ c ∨ d ∨ e ∨ ¬ f)) : ¬ a ∧ ¬ b ∧ ¬ c ∧ ¬ d ∧ ¬ e ∧ f :=
  ⟨fun q => h (Or.inl q), fun q => h (Or.inr (Or.inl q)), fun q => h (Or.inr (Or.inr (Or.inl q))), fun q => h (Or.inr (Or.inr (Or.inr (Or.inl q)))), fun q => h (Or.inr (Or.inr (Or.inr (Or.inr (Or.inl q))))), Decidable.not_not.mp fun q => h (Or.inr (Or.inr (Or.inr (Or.inr (Or.inr q)))))⟩
theorem upd0 (f : Nat → Int64) (x : Int64) : vp_updL f 0 x 0 = x := rfl
theorem widW {p : Program} {l : Launch} {e : Env} {R : Room} {s : State} {m : MethodId} {args : Array Value} {below : List Frame} {meth : Method} {c : Code} {H : Heap} {locs : List Loc} {cells slots k n : Nat} {Q : State → Prop} {g : JFrame} (h1 : cells ≤ k) (h2 : slots ≤ n) (kk : W p l e R s m args below meth c H locs k n Q g) : W p l e R s m args below meth c H locs cells slots Q g := fun T hT X => kk T hT (stand_widen X h1 h2)
/-- the two objects and the array of the answer -/
def WL (cI cJ cP : ClassId) (ad : Nat → Nat) (o : Nat) (ad2 : Nat → Nat) (u : TR) (f : Nat → Int64) (v : TM) : va_W := wRO cI cJ cP ad o u f ++ wM cI cJ ad2 v
theorem WL1 {cI cJ cP : ClassId} {ad : Nat → Nat} {o : Nat} {ad2 : Nat → Nat} (u : TR) (f : Nat → Int64) (v : TM) : WL cI cJ cP ad o ad2 u f v = wR cI cJ cP ad u ++ ([(o, .inl (cJ, 1, .inr (.inl f)))] ++ wM cI cJ ad2 v) := List.append_assoc _ _ _
theorem WLo {cI cJ cP : ClassId} {ad : Nat → Nat} {o : Nat} {ad2 : Nat → Nat} (u : TR) (f : Nat → Int64) (v : TM) : (WL cI cJ cP ad o ad2 u f v)[21]? = some (o, .inl (cJ, 1, .inr (.inl f))) := apL (apR (pre := wR cI cJ cP ad u) (k := 0) rfl)
theorem sc {L : Nat} {i : Int32} (hL : L ≤ 2560) (hi : 0 ≤ i.toInt ∧ i.toInt + 4 < (L : Int)) (k : Int32) (hk : 0 ≤ k.toInt ∧ k.toInt ≤ 4) : vp_in (i + k) L := by
  have e : (i + k).toInt = i.toInt + k.toInt := by
    rw [Int32.toInt_add]; exact Int.bmod_eq_of_le (by omega) (by omega)
  intro h
  rcases h with h | h
  · have := Int32.lt_iff_toInt_lt.mp h
    rw [e, show (0 : Int32).toInt = 0 from by decide] at this; omega
  · have h2 : (L : Int) ≤ (i + k).toInt := by
      have : ((i + k).toNatClampNeg : Int) = (i + k).toInt := Int.toNat_of_nonneg (by rw [e]; omega)
      omega
    rw [e] at h2; omega
theorem sc0 {L : Nat} {i : Int32} (hL : L ≤ 2560) (hi : 0 ≤ i.toInt ∧ i.toInt + 4 < (L : Int)) : vp_in i L := by
  have := sc hL hi 0 (by decide)
  rwa [show i + 0 = i from by simp] at this
theorem kq0 : Cond.constantLong RL 43 4294967295 ∈ gG := inG 807 (by decide +kernel) (by decide +kernel)
theorem kq1 : Cond.code yX5_poke cX5_poke 4 none ∈ gG := inG 774 (by decide +kernel) (by decide +kernel)
theorem kq2 : Cond.methodLink RL 50 yX5_poke ∈ gG := inG 771 (by decide +kernel) (by decide +kernel)
theorem kq3 : Cond.instanceMethod yX5_poke ∈ gG := inG 772 (by decide +kernel) (by decide +kernel)
theorem kq4 : Cond.selects RX5 yX5_poke yX5_poke ∈ gG := inG 773 (by decide +kernel) (by decide +kernel)
theorem kq5 : Cond.initialized RX5 ∈ gG := inG 48 (by decide +kernel) (by decide +kernel)
theorem kq6 : Cond.code yX5_thrown cX5_thrown 1 (some .int) ∈ gG := inG 666 (by decide +kernel) (by decide +kernel)
theorem kq7 : Cond.methodLink RL 51 yX5_thrown ∈ gG := inG 663 (by decide +kernel) (by decide +kernel)
theorem kq8 : Cond.instanceMethod yX5_thrown ∈ gG := inG 664 (by decide +kernel) (by decide +kernel)
theorem kq9 : Cond.selects RX5 yX5_thrown yX5_thrown ∈ gG := inG 665 (by decide +kernel) (by decide +kernel)
theorem kq10 : Cond.codeWith yL_poke cL_poke 5 (some .int) [(0, 6, 9, 13)] ∈ gG := inG 251 (by decide +kernel) (by decide +kernel)
theorem kq11 : Cond.methodLink RL 45 yL_poke ∈ gG := inG 249 (by decide +kernel) (by decide +kernel)
theorem kq12 : Cond.static yL_poke ∈ gG := inG 250 (by decide +kernel) (by decide +kernel)
theorem kq13 : Cond.initialized RL ∈ gG := inG 42 (by decide +kernel) (by decide +kernel)
theorem kq14 : Cond.code yX5_peek cX5_peek 2 (some .long) ∈ gG := inG 778 (by decide +kernel) (by decide +kernel)
theorem kq15 : Cond.methodLink RL 58 yX5_peek ∈ gG := inG 775 (by decide +kernel) (by decide +kernel)
theorem kq16 : Cond.instanceMethod yX5_peek ∈ gG := inG 776 (by decide +kernel) (by decide +kernel)
theorem kq17 : Cond.selects RX5 yX5_peek yX5_peek ∈ gG := inG 777 (by decide +kernel) (by decide +kernel)
theorem kq18 : Cond.codeWith yL_peek cL_peek 4 (some .int) [(0, 8, 11, 13)] ∈ gG := inG 322 (by decide +kernel) (by decide +kernel)
theorem kq19 : Cond.methodLink RL 55 yL_peek ∈ gG := inG 320 (by decide +kernel) (by decide +kernel)
theorem kq20 : Cond.static yL_peek ∈ gG := inG 321 (by decide +kernel) (by decide +kernel)
theorem kq21 : Cond.code yX5_set cX5_set 4 none ∈ gG := inG 782 (by decide +kernel) (by decide +kernel)
theorem kq22 : Cond.methodLink RL 61 yX5_set ∈ gG := inG 779 (by decide +kernel) (by decide +kernel)
theorem kq23 : Cond.instanceMethod yX5_set ∈ gG := inG 780 (by decide +kernel) (by decide +kernel)
theorem kq24 : Cond.selects RX5 yX5_set yX5_set ∈ gG := inG 781 (by decide +kernel) (by decide +kernel)
theorem kq25 : Cond.codeWith yL_set cL_set 5 (some .int) [(0, 6, 9, 13)] ∈ gG := inG 329 (by decide +kernel) (by decide +kernel)
theorem kq26 : Cond.methodLink RL 59 yL_set ∈ gG := inG 327 (by decide +kernel) (by decide +kernel)
theorem kq27 : Cond.static yL_set ∈ gG := inG 328 (by decide +kernel) (by decide +kernel)
theorem kq28 : Cond.code yX5_get cX5_get 2 (some .long) ∈ gG := inG 786 (by decide +kernel) (by decide +kernel)
theorem kq29 : Cond.methodLink RL 64 yX5_get ∈ gG := inG 783 (by decide +kernel) (by decide +kernel)
theorem kq30 : Cond.instanceMethod yX5_get ∈ gG := inG 784 (by decide +kernel) (by decide +kernel)
theorem kq31 : Cond.selects RX5 yX5_get yX5_get ∈ gG := inG 785 (by decide +kernel) (by decide +kernel)
theorem kq32 : Cond.codeWith yL_get cL_get 4 (some .int) [(0, 8, 11, 13)] ∈ gG := inG 344 (by decide +kernel) (by decide +kernel)
theorem kq33 : Cond.methodLink RL 62 yL_get ∈ gG := inG 342 (by decide +kernel) (by decide +kernel)
theorem kq34 : Cond.static yL_get ∈ gG := inG 343 (by decide +kernel) (by decide +kernel)
theorem kq35 : Cond.code yX5_run cX5_run 3 (some .int) ∈ gG := inG 690 (by decide +kernel) (by decide +kernel)
theorem kq36 : Cond.methodLink RL 67 yX5_run ∈ gG := inG 687 (by decide +kernel) (by decide +kernel)
theorem kq37 : Cond.instanceMethod yX5_run ∈ gG := inG 688 (by decide +kernel) (by decide +kernel)
theorem kq38 : Cond.selects RX5 yX5_run yX5_run ∈ gG := inG 689 (by decide +kernel) (by decide +kernel)
theorem kq39 : Cond.codeWith yL_run cL_run 4 (some .int) [(0, 9, 12, 29)] ∈ gG := inG 351 (by decide +kernel) (by decide +kernel)
theorem kq40 : Cond.methodLink RL 65 yL_run ∈ gG := inG 349 (by decide +kernel) (by decide +kernel)
theorem kq41 : Cond.static yL_run ∈ gG := inG 350 (by decide +kernel) (by decide +kernel)
theorem kq42 : Cond.code yX5_interrupt cX5_interrupt 2 none ∈ gG := inG 794 (by decide +kernel) (by decide +kernel)
theorem kq43 : Cond.methodLink RL 75 yX5_interrupt ∈ gG := inG 791 (by decide +kernel) (by decide +kernel)
theorem kq44 : Cond.instanceMethod yX5_interrupt ∈ gG := inG 792 (by decide +kernel) (by decide +kernel)
theorem kq45 : Cond.selects RX5 yX5_interrupt yX5_interrupt ∈ gG := inG 793 (by decide +kernel) (by decide +kernel)
theorem kq46 : Cond.codeWith yL_interrupt cL_interrupt 3 (some .int) [(0, 5, 8, 13)] ∈ gG := inG 532 (by decide +kernel) (by decide +kernel)
theorem kq47 : Cond.methodLink RL 72 yL_interrupt ∈ gG := inG 530 (by decide +kernel) (by decide +kernel)
theorem kq48 : Cond.static yL_interrupt ∈ gG := inG 531 (by decide +kernel) (by decide +kernel)
theorem kq49 : Cond.code yX5_reach cX5_reach 14 (some .int) ∈ gG := inG 670 (by decide +kernel) (by decide +kernel)
theorem kq50 : Cond.methodLink RL 93 yX5_reach ∈ gG := inG 667 (by decide +kernel) (by decide +kernel)
theorem kq51 : Cond.instanceMethod yX5_reach ∈ gG := inG 668 (by decide +kernel) (by decide +kernel)
theorem kq52 : Cond.selects RX5 yX5_reach yX5_reach ∈ gG := inG 669 (by decide +kernel) (by decide +kernel)
theorem kq53 : Cond.codeWith yL_reach cL_reach 7 (some .int) [(0, 14, 17, 13), (0, 14, 21, 29)] ∈ gG := inG 539 (by decide +kernel) (by decide +kernel)
theorem kq54 : Cond.methodLink RL 90 yL_reach ∈ gG := inG 537 (by decide +kernel) (by decide +kernel)
theorem kq55 : Cond.static yL_reach ∈ gG := inG 538 (by decide +kernel) (by decide +kernel)
theorem kq56 : Cond.code yX4_go cX4_go 1 none ∈ gG := inG 227 (by decide +kernel) (by decide +kernel)
theorem kq57 : Cond.methodLink RL 68 yX4_go ∈ gG := inG 224 (by decide +kernel) (by decide +kernel)
theorem kq58 : Cond.instanceMethod yX4_go ∈ gG := inG 225 (by decide +kernel) (by decide +kernel)
theorem kq59 : Cond.selects RX4 yX4_go yX4_go ∈ gG := inG 226 (by decide +kernel) (by decide +kernel)
theorem kq60 : Cond.initialized RX4 ∈ gG := inG 43 (by decide +kernel) (by decide +kernel)
theorem kq61 : Cond.code yX5_go cX5_go 1 none ∈ gG := inG 790 (by decide +kernel) (by decide +kernel)
theorem kq62 : Cond.methodLink RL 71 yX5_go ∈ gG := inG 787 (by decide +kernel) (by decide +kernel)
theorem kq63 : Cond.instanceMethod yX5_go ∈ gG := inG 788 (by decide +kernel) (by decide +kernel)
theorem kq64 : Cond.selects RX5 yX5_go yX5_go ∈ gG := inG 789 (by decide +kernel) (by decide +kernel)
theorem kq65 : Cond.code yX4_state cX4_state 2 (some .int) ∈ gG := inG 231 (by decide +kernel) (by decide +kernel)
theorem kq66 : Cond.methodLink RL 76 yX4_state ∈ gG := inG 228 (by decide +kernel) (by decide +kernel)
theorem kq67 : Cond.instanceMethod yX4_state ∈ gG := inG 229 (by decide +kernel) (by decide +kernel)
theorem kq68 : Cond.selects RX4 yX4_state yX4_state ∈ gG := inG 230 (by decide +kernel) (by decide +kernel)
theorem kq69 : Cond.code yX5_state cX5_state 2 (some .int) ∈ gG := inG 798 (by decide +kernel) (by decide +kernel)
theorem kq70 : Cond.methodLink RL 79 yX5_state ∈ gG := inG 795 (by decide +kernel) (by decide +kernel)
theorem kq71 : Cond.instanceMethod yX5_state ∈ gG := inG 796 (by decide +kernel) (by decide +kernel)
theorem kq72 : Cond.selects RX5 yX5_state yX5_state ∈ gG := inG 797 (by decide +kernel) (by decide +kernel)
theorem kq73 : Cond.code yX4_saved cX4_saved 1 (some .long) ∈ gG := inG 235 (by decide +kernel) (by decide +kernel)
theorem kq74 : Cond.methodLink RL 80 yX4_saved ∈ gG := inG 232 (by decide +kernel) (by decide +kernel)
theorem kq75 : Cond.instanceMethod yX4_saved ∈ gG := inG 233 (by decide +kernel) (by decide +kernel)
theorem kq76 : Cond.selects RX4 yX4_saved yX4_saved ∈ gG := inG 234 (by decide +kernel) (by decide +kernel)
theorem kq77 : Cond.code yX5_saved cX5_saved 1 (some .long) ∈ gG := inG 802 (by decide +kernel) (by decide +kernel)
theorem kq78 : Cond.methodLink RL 84 yX5_saved ∈ gG := inG 799 (by decide +kernel) (by decide +kernel)
theorem kq79 : Cond.instanceMethod yX5_saved ∈ gG := inG 800 (by decide +kernel) (by decide +kernel)
theorem kq80 : Cond.selects RX5 yX5_saved yX5_saved ∈ gG := inG 801 (by decide +kernel) (by decide +kernel)
theorem kq81 : Cond.code yX4_copy cX4_copy 3 (some .int) ∈ gG := inG 244 (by decide +kernel) (by decide +kernel)
theorem kq82 : Cond.methodLink RL 85 yX4_copy ∈ gG := inG 241 (by decide +kernel) (by decide +kernel)
theorem kq83 : Cond.instanceMethod yX4_copy ∈ gG := inG 242 (by decide +kernel) (by decide +kernel)
theorem kq84 : Cond.selects RX4 yX4_copy yX4_copy ∈ gG := inG 243 (by decide +kernel) (by decide +kernel)
theorem kq85 : Cond.code yX5_copy cX5_copy 3 (some .int) ∈ gG := inG 806 (by decide +kernel) (by decide +kernel)
theorem kq86 : Cond.methodLink RL 89 yX5_copy ∈ gG := inG 803 (by decide +kernel) (by decide +kernel)
theorem kq87 : Cond.instanceMethod yX5_copy ∈ gG := inG 804 (by decide +kernel) (by decide +kernel)
theorem kq88 : Cond.selects RX5 yX5_copy yX5_copy ∈ gG := inG 805 (by decide +kernel) (by decide +kernel)
theorem kq89 : Cond.classLink RL 8 RX4 ∈ gG := inG 55 (by decide +kernel) (by decide +kernel)
theorem kq90 : Cond.instantiable RX4 15 ∈ gG := inG 56 (by decide +kernel) (by decide +kernel)
theorem kq91 : Cond.code yX4_init cX4_init 1 none ∈ gG := inG 59 (by decide +kernel) (by decide +kernel)
theorem kq92 : Cond.methodLink RL 39 yX4_init ∈ gG := inG 57 (by decide +kernel) (by decide +kernel)
theorem kq93 : Cond.instanceMethod yX4_init ∈ gG := inG 58 (by decide +kernel) (by decide +kernel)
theorem kq94 : Cond.classLink RL 40 RX5 ∈ gG := inG 545 (by decide +kernel) (by decide +kernel)
theorem kq95 : Cond.instantiable RX5 37 ∈ gG := inG 546 (by decide +kernel) (by decide +kernel)
theorem kq96 : Cond.code yX5_init cX5_init 1 none ∈ gG := inG 549 (by decide +kernel) (by decide +kernel)
theorem kq97 : Cond.methodLink RL 42 yX5_init ∈ gG := inG 547 (by decide +kernel) (by decide +kernel)
theorem kq98 : Cond.instanceMethod yX5_init ∈ gG := inG 548 (by decide +kernel) (by decide +kernel)
theorem hqX5_poke : yX5_poke.cls ≠ "java/lang/invoke/MethodHandle" ∧ yX5_poke.cls ≠ "java/lang/invoke/VarHandle" ∧ (parseMethodDescriptor yX5_poke.desc).map (fun d => d.parameters.length) = some 2 := by decide +kernel
theorem hqX5_thrown : yX5_thrown.cls ≠ "java/lang/invoke/MethodHandle" ∧ yX5_thrown.cls ≠ "java/lang/invoke/VarHandle" ∧ (parseMethodDescriptor yX5_thrown.desc).map (fun d => d.parameters.length) = some 0 := by decide +kernel
theorem hqL_poke : yL_poke.cls ≠ "java/lang/invoke/MethodHandle" ∧ yL_poke.cls ≠ "java/lang/invoke/VarHandle" ∧ (parseMethodDescriptor yL_poke.desc).map (fun d => d.parameters.length) = some 3 := by decide +kernel
theorem hqX5_peek : yX5_peek.cls ≠ "java/lang/invoke/MethodHandle" ∧ yX5_peek.cls ≠ "java/lang/invoke/VarHandle" ∧ (parseMethodDescriptor yX5_peek.desc).map (fun d => d.parameters.length) = some 1 := by decide +kernel
theorem hqL_peek : yL_peek.cls ≠ "java/lang/invoke/MethodHandle" ∧ yL_peek.cls ≠ "java/lang/invoke/VarHandle" ∧ (parseMethodDescriptor yL_peek.desc).map (fun d => d.parameters.length) = some 3 := by decide +kernel
theorem hqX5_set : yX5_set.cls ≠ "java/lang/invoke/MethodHandle" ∧ yX5_set.cls ≠ "java/lang/invoke/VarHandle" ∧ (parseMethodDescriptor yX5_set.desc).map (fun d => d.parameters.length) = some 2 := by decide +kernel
theorem hqL_set : yL_set.cls ≠ "java/lang/invoke/MethodHandle" ∧ yL_set.cls ≠ "java/lang/invoke/VarHandle" ∧ (parseMethodDescriptor yL_set.desc).map (fun d => d.parameters.length) = some 3 := by decide +kernel
theorem hqX5_get : yX5_get.cls ≠ "java/lang/invoke/MethodHandle" ∧ yX5_get.cls ≠ "java/lang/invoke/VarHandle" ∧ (parseMethodDescriptor yX5_get.desc).map (fun d => d.parameters.length) = some 1 := by decide +kernel
theorem hqL_get : yL_get.cls ≠ "java/lang/invoke/MethodHandle" ∧ yL_get.cls ≠ "java/lang/invoke/VarHandle" ∧ (parseMethodDescriptor yL_get.desc).map (fun d => d.parameters.length) = some 3 := by decide +kernel
theorem hqX5_run : yX5_run.cls ≠ "java/lang/invoke/MethodHandle" ∧ yX5_run.cls ≠ "java/lang/invoke/VarHandle" ∧ (parseMethodDescriptor yX5_run.desc).map (fun d => d.parameters.length) = some 1 := by decide +kernel
theorem hqL_run : yL_run.cls ≠ "java/lang/invoke/MethodHandle" ∧ yL_run.cls ≠ "java/lang/invoke/VarHandle" ∧ (parseMethodDescriptor yL_run.desc).map (fun d => d.parameters.length) = some 3 := by decide +kernel
theorem hqX5_interrupt : yX5_interrupt.cls ≠ "java/lang/invoke/MethodHandle" ∧ yX5_interrupt.cls ≠ "java/lang/invoke/VarHandle" ∧ (parseMethodDescriptor yX5_interrupt.desc).map (fun d => d.parameters.length) = some 1 := by decide +kernel
theorem hqL_interrupt : yL_interrupt.cls ≠ "java/lang/invoke/MethodHandle" ∧ yL_interrupt.cls ≠ "java/lang/invoke/VarHandle" ∧ (parseMethodDescriptor yL_interrupt.desc).map (fun d => d.parameters.length) = some 2 := by decide +kernel
theorem hqX5_reach : yX5_reach.cls ≠ "java/lang/invoke/MethodHandle" ∧ yX5_reach.cls ≠ "java/lang/invoke/VarHandle" ∧ (parseMethodDescriptor yX5_reach.desc).map (fun d => d.parameters.length) = some 4 := by decide +kernel
theorem hqL_reach : yL_reach.cls ≠ "java/lang/invoke/MethodHandle" ∧ yL_reach.cls ≠ "java/lang/invoke/VarHandle" ∧ (parseMethodDescriptor yL_reach.desc).map (fun d => d.parameters.length) = some 6 := by decide +kernel
theorem hqX4_go : yX4_go.cls ≠ "java/lang/invoke/MethodHandle" ∧ yX4_go.cls ≠ "java/lang/invoke/VarHandle" ∧ (parseMethodDescriptor yX4_go.desc).map (fun d => d.parameters.length) = some 0 := by decide +kernel
theorem hqX5_go : yX5_go.cls ≠ "java/lang/invoke/MethodHandle" ∧ yX5_go.cls ≠ "java/lang/invoke/VarHandle" ∧ (parseMethodDescriptor yX5_go.desc).map (fun d => d.parameters.length) = some 0 := by decide +kernel
theorem hqX4_state : yX4_state.cls ≠ "java/lang/invoke/MethodHandle" ∧ yX4_state.cls ≠ "java/lang/invoke/VarHandle" ∧ (parseMethodDescriptor yX4_state.desc).map (fun d => d.parameters.length) = some 1 := by decide +kernel
theorem hqX5_state : yX5_state.cls ≠ "java/lang/invoke/MethodHandle" ∧ yX5_state.cls ≠ "java/lang/invoke/VarHandle" ∧ (parseMethodDescriptor yX5_state.desc).map (fun d => d.parameters.length) = some 1 := by decide +kernel
theorem hqX4_saved : yX4_saved.cls ≠ "java/lang/invoke/MethodHandle" ∧ yX4_saved.cls ≠ "java/lang/invoke/VarHandle" ∧ (parseMethodDescriptor yX4_saved.desc).map (fun d => d.parameters.length) = some 0 := by decide +kernel
theorem hqX5_saved : yX5_saved.cls ≠ "java/lang/invoke/MethodHandle" ∧ yX5_saved.cls ≠ "java/lang/invoke/VarHandle" ∧ (parseMethodDescriptor yX5_saved.desc).map (fun d => d.parameters.length) = some 0 := by decide +kernel
theorem hqX4_copy : yX4_copy.cls ≠ "java/lang/invoke/MethodHandle" ∧ yX4_copy.cls ≠ "java/lang/invoke/VarHandle" ∧ (parseMethodDescriptor yX4_copy.desc).map (fun d => d.parameters.length) = some 2 := by decide +kernel
theorem hqX5_copy : yX5_copy.cls ≠ "java/lang/invoke/MethodHandle" ∧ yX5_copy.cls ≠ "java/lang/invoke/VarHandle" ∧ (parseMethodDescriptor yX5_copy.desc).map (fun d => d.parameters.length) = some 2 := by decide +kernel
theorem hqX4_init : yX4_init.cls ≠ "java/lang/invoke/MethodHandle" ∧ yX4_init.cls ≠ "java/lang/invoke/VarHandle" ∧ (parseMethodDescriptor yX4_init.desc).map (fun d => d.parameters.length) = some 0 := by decide +kernel
theorem hqX5_init : yX5_init.cls ≠ "java/lang/invoke/MethodHandle" ∧ yX5_init.cls ≠ "java/lang/invoke/VarHandle" ∧ (parseMethodDescriptor yX5_init.desc).map (fun d => d.parameters.length) = some 0 := by decide +kernel
