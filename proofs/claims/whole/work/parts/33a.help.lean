theorem dL_poke_0 : decode cL_poke 0 = .ok (.aload_n 0, 1) := by decide +kernel
theorem dL_poke_1 : decode cL_poke 1 = .ok (.iload_n 1, 1) := by decide +kernel
theorem dL_poke_2 : decode cL_poke 2 = .ok (.lload_n 2, 1) := by decide +kernel
theorem dL_poke_3 : decode cL_poke 3 = .ok (.invokevirtual 7, 3) := by decide +kernel
theorem dL_poke_6 : decode cL_poke 6 = .ok (.goto 7, 3) := by decide +kernel
theorem dL_poke_9 : decode cL_poke 9 = .ok (.astore 4, 2) := by decide +kernel
theorem dL_poke_11 : decode cL_poke 11 = .ok (.iconst 1, 1) := by decide +kernel
theorem dL_poke_12 : decode cL_poke 12 = .ok (.ireturn, 1) := by decide +kernel
theorem dL_poke_13 : decode cL_poke 13 = .ok (.iconst 0, 1) := by decide +kernel
theorem dL_poke_14 : decode cL_poke 14 = .ok (.ireturn, 1) := by decide +kernel
theorem dL_peek_0 : decode cL_peek 0 = .ok (.aload_n 2, 1) := by decide +kernel
theorem dL_peek_1 : decode cL_peek 1 = .ok (.iconst 0, 1) := by decide +kernel
theorem dL_peek_2 : decode cL_peek 2 = .ok (.aload_n 0, 1) := by decide +kernel
theorem dL_peek_3 : decode cL_peek 3 = .ok (.iload_n 1, 1) := by decide +kernel
theorem dL_peek_4 : decode cL_peek 4 = .ok (.invokevirtual 15, 3) := by decide +kernel
theorem dL_peek_7 : decode cL_peek 7 = .ok (.lastore, 1) := by decide +kernel
theorem dL_peek_8 : decode cL_peek 8 = .ok (.goto 6, 3) := by decide +kernel
theorem dL_peek_11 : decode cL_peek 11 = .ok (.astore_n 3, 1) := by decide +kernel
theorem dL_peek_12 : decode cL_peek 12 = .ok (.iconst 1, 1) := by decide +kernel
theorem dL_peek_13 : decode cL_peek 13 = .ok (.ireturn, 1) := by decide +kernel
theorem dL_peek_14 : decode cL_peek 14 = .ok (.iconst 0, 1) := by decide +kernel
theorem dL_peek_15 : decode cL_peek 15 = .ok (.ireturn, 1) := by decide +kernel
theorem dL_set_0 : decode cL_set 0 = .ok (.aload_n 0, 1) := by decide +kernel
theorem dL_set_1 : decode cL_set 1 = .ok (.iload_n 1, 1) := by decide +kernel
theorem dL_set_2 : decode cL_set 2 = .ok (.lload_n 2, 1) := by decide +kernel
theorem dL_set_3 : decode cL_set 3 = .ok (.invokevirtual 19, 3) := by decide +kernel
theorem dL_set_6 : decode cL_set 6 = .ok (.goto 7, 3) := by decide +kernel
theorem dL_set_9 : decode cL_set 9 = .ok (.astore 4, 2) := by decide +kernel
theorem dL_set_11 : decode cL_set 11 = .ok (.iconst 1, 1) := by decide +kernel
theorem dL_set_12 : decode cL_set 12 = .ok (.ireturn, 1) := by decide +kernel
theorem dL_set_13 : decode cL_set 13 = .ok (.iconst 0, 1) := by decide +kernel
theorem dL_set_14 : decode cL_set 14 = .ok (.ireturn, 1) := by decide +kernel
theorem dL_get_0 : decode cL_get 0 = .ok (.aload_n 2, 1) := by decide +kernel
theorem dL_get_1 : decode cL_get 1 = .ok (.iconst 0, 1) := by decide +kernel
theorem dL_get_2 : decode cL_get 2 = .ok (.aload_n 0, 1) := by decide +kernel
theorem dL_get_3 : decode cL_get 3 = .ok (.iload_n 1, 1) := by decide +kernel
theorem dL_get_4 : decode cL_get 4 = .ok (.invokevirtual 22, 3) := by decide +kernel
theorem dL_get_7 : decode cL_get 7 = .ok (.lastore, 1) := by decide +kernel
theorem dL_get_8 : decode cL_get 8 = .ok (.goto 6, 3) := by decide +kernel
theorem dL_get_11 : decode cL_get 11 = .ok (.astore_n 3, 1) := by decide +kernel
theorem dL_get_12 : decode cL_get 12 = .ok (.iconst 1, 1) := by decide +kernel
theorem dL_get_13 : decode cL_get 13 = .ok (.ireturn, 1) := by decide +kernel
theorem dL_get_14 : decode cL_get 14 = .ok (.iconst 0, 1) := by decide +kernel
theorem dL_get_15 : decode cL_get 15 = .ok (.ireturn, 1) := by decide +kernel
theorem dL_run_0 : decode cL_run 0 = .ok (.aload_n 2, 1) := by decide +kernel
theorem dL_run_1 : decode cL_run 1 = .ok (.iconst 0, 1) := by decide +kernel
theorem dL_run_2 : decode cL_run 2 = .ok (.aload_n 0, 1) := by decide +kernel
theorem dL_run_3 : decode cL_run 3 = .ok (.iload_n 1, 1) := by decide +kernel
theorem dL_run_4 : decode cL_run 4 = .ok (.invokevirtual 25, 3) := by decide +kernel
theorem dL_run_7 : decode cL_run 7 = .ok (.i2l, 1) := by decide +kernel
theorem dL_run_8 : decode cL_run 8 = .ok (.lastore, 1) := by decide +kernel
theorem dL_run_9 : decode cL_run 9 = .ok (.goto 6, 3) := by decide +kernel
theorem dL_run_12 : decode cL_run 12 = .ok (.astore_n 3, 1) := by decide +kernel
theorem dL_run_13 : decode cL_run 13 = .ok (.iconst 1, 1) := by decide +kernel
theorem dL_run_14 : decode cL_run 14 = .ok (.ireturn, 1) := by decide +kernel
theorem dL_run_15 : decode cL_run 15 = .ok (.iconst 0, 1) := by decide +kernel
theorem dL_run_16 : decode cL_run 16 = .ok (.ireturn, 1) := by decide +kernel
theorem dL_interrupt_0 : decode cL_interrupt 0 = .ok (.aload_n 0, 1) := by decide +kernel
theorem dL_interrupt_1 : decode cL_interrupt 1 = .ok (.iload_n 1, 1) := by decide +kernel
theorem dL_interrupt_2 : decode cL_interrupt 2 = .ok (.invokevirtual 31, 3) := by decide +kernel
theorem dL_interrupt_5 : decode cL_interrupt 5 = .ok (.goto 6, 3) := by decide +kernel
theorem dL_interrupt_8 : decode cL_interrupt 8 = .ok (.astore_n 2, 1) := by decide +kernel
theorem dL_interrupt_9 : decode cL_interrupt 9 = .ok (.iconst 1, 1) := by decide +kernel
theorem dL_interrupt_10 : decode cL_interrupt 10 = .ok (.ireturn, 1) := by decide +kernel
theorem dL_interrupt_11 : decode cL_interrupt 11 = .ok (.iconst 0, 1) := by decide +kernel
theorem dL_interrupt_12 : decode cL_interrupt 12 = .ok (.ireturn, 1) := by decide +kernel
theorem dL_reach_0 : decode cL_reach 0 = .ok (.aload 5, 2) := by decide +kernel
theorem dL_reach_2 : decode cL_reach 2 = .ok (.iconst 0, 1) := by decide +kernel
theorem dL_reach_3 : decode cL_reach 3 = .ok (.aload_n 0, 1) := by decide +kernel
theorem dL_reach_4 : decode cL_reach 4 = .ok (.iload_n 1, 1) := by decide +kernel
theorem dL_reach_5 : decode cL_reach 5 = .ok (.iload_n 2, 1) := by decide +kernel
theorem dL_reach_6 : decode cL_reach 6 = .ok (.iload_n 3, 1) := by decide +kernel
theorem dL_reach_7 : decode cL_reach 7 = .ok (.iload 4, 2) := by decide +kernel
theorem dL_reach_9 : decode cL_reach 9 = .ok (.invokevirtual 35, 3) := by decide +kernel
theorem dL_reach_12 : decode cL_reach 12 = .ok (.i2l, 1) := by decide +kernel
theorem dL_reach_13 : decode cL_reach 13 = .ok (.lastore, 1) := by decide +kernel
theorem dL_reach_14 : decode cL_reach 14 = .ok (.goto 11, 3) := by decide +kernel
theorem dL_reach_17 : decode cL_reach 17 = .ok (.astore 6, 2) := by decide +kernel
theorem dL_reach_19 : decode cL_reach 19 = .ok (.iconst 1, 1) := by decide +kernel
theorem dL_reach_20 : decode cL_reach 20 = .ok (.ireturn, 1) := by decide +kernel
theorem dL_reach_21 : decode cL_reach 21 = .ok (.astore 6, 2) := by decide +kernel
theorem dL_reach_23 : decode cL_reach 23 = .ok (.iconst 2, 1) := by decide +kernel
theorem dL_reach_24 : decode cL_reach 24 = .ok (.ireturn, 1) := by decide +kernel
theorem dL_reach_25 : decode cL_reach 25 = .ok (.iconst 0, 1) := by decide +kernel
theorem dL_reach_26 : decode cL_reach 26 = .ok (.ireturn, 1) := by decide +kernel
theorem kw395 : Cond.code yX4_poke cX4_poke 4 none ∈ gG := inG 256 (by decide +kernel) (by decide +kernel)
theorem kw396 : Cond.methodLink RL 7 yX4_poke ∈ gG := inG 253 (by decide +kernel) (by decide +kernel)
theorem kw397 : Cond.instanceMethod yX4_poke ∈ gG := inG 254 (by decide +kernel) (by decide +kernel)
theorem kw398 : Cond.selects RX4 yX4_poke yX4_poke ∈ gG := inG 255 (by decide +kernel) (by decide +kernel)
theorem kw399 : Cond.code yX4_peek cX4_peek 2 (some .long) ∈ gG := inG 326 (by decide +kernel) (by decide +kernel)
theorem kw400 : Cond.methodLink RL 15 yX4_peek ∈ gG := inG 323 (by decide +kernel) (by decide +kernel)
theorem kw401 : Cond.instanceMethod yX4_peek ∈ gG := inG 324 (by decide +kernel) (by decide +kernel)
theorem kw402 : Cond.selects RX4 yX4_peek yX4_peek ∈ gG := inG 325 (by decide +kernel) (by decide +kernel)
theorem kw403 : Cond.code yX4_set cX4_set 4 none ∈ gG := inG 333 (by decide +kernel) (by decide +kernel)
theorem kw404 : Cond.methodLink RL 19 yX4_set ∈ gG := inG 330 (by decide +kernel) (by decide +kernel)
theorem kw405 : Cond.instanceMethod yX4_set ∈ gG := inG 331 (by decide +kernel) (by decide +kernel)
theorem kw406 : Cond.selects RX4 yX4_set yX4_set ∈ gG := inG 332 (by decide +kernel) (by decide +kernel)
theorem kw407 : Cond.code yX4_get cX4_get 2 (some .long) ∈ gG := inG 348 (by decide +kernel) (by decide +kernel)
theorem kw408 : Cond.methodLink RL 22 yX4_get ∈ gG := inG 345 (by decide +kernel) (by decide +kernel)
theorem kw409 : Cond.instanceMethod yX4_get ∈ gG := inG 346 (by decide +kernel) (by decide +kernel)
theorem kw410 : Cond.selects RX4 yX4_get yX4_get ∈ gG := inG 347 (by decide +kernel) (by decide +kernel)
theorem kw411 : Cond.code yX4_run cX4_run 4 (some .int) ∈ gG := inG 356 (by decide +kernel) (by decide +kernel)
theorem kw412 : Cond.methodLink RL 25 yX4_run ∈ gG := inG 353 (by decide +kernel) (by decide +kernel)
theorem kw413 : Cond.instanceMethod yX4_run ∈ gG := inG 354 (by decide +kernel) (by decide +kernel)
theorem kw414 : Cond.selects RX4 yX4_run yX4_run ∈ gG := inG 355 (by decide +kernel) (by decide +kernel)
theorem kw415 : Cond.code yX4_interrupt cX4_interrupt 2 none ∈ gG := inG 536 (by decide +kernel) (by decide +kernel)
theorem kw416 : Cond.methodLink RL 31 yX4_interrupt ∈ gG := inG 533 (by decide +kernel) (by decide +kernel)
theorem kw417 : Cond.instanceMethod yX4_interrupt ∈ gG := inG 534 (by decide +kernel) (by decide +kernel)
theorem kw418 : Cond.selects RX4 yX4_interrupt yX4_interrupt ∈ gG := inG 535 (by decide +kernel) (by decide +kernel)
theorem kw419 : Cond.code yX4_reach cX4_reach 5 (some .int) ∈ gG := inG 543 (by decide +kernel) (by decide +kernel)
theorem kw420 : Cond.methodLink RL 35 yX4_reach ∈ gG := inG 540 (by decide +kernel) (by decide +kernel)
theorem kw421 : Cond.instanceMethod yX4_reach ∈ gG := inG 541 (by decide +kernel) (by decide +kernel)
theorem kw422 : Cond.selects RX4 yX4_reach yX4_reach ∈ gG := inG 542 (by decide +kernel) (by decide +kernel)
theorem hdX4_poke : yX4_poke.cls ≠ "java/lang/invoke/MethodHandle" ∧ yX4_poke.cls ≠ "java/lang/invoke/VarHandle" ∧ (parseMethodDescriptor yX4_poke.desc).map (fun d => d.parameters.length) = some 2 := by decide +kernel
theorem hdX4_peek : yX4_peek.cls ≠ "java/lang/invoke/MethodHandle" ∧ yX4_peek.cls ≠ "java/lang/invoke/VarHandle" ∧ (parseMethodDescriptor yX4_peek.desc).map (fun d => d.parameters.length) = some 1 := by decide +kernel
theorem hdX4_set : yX4_set.cls ≠ "java/lang/invoke/MethodHandle" ∧ yX4_set.cls ≠ "java/lang/invoke/VarHandle" ∧ (parseMethodDescriptor yX4_set.desc).map (fun d => d.parameters.length) = some 2 := by decide +kernel
theorem hdX4_get : yX4_get.cls ≠ "java/lang/invoke/MethodHandle" ∧ yX4_get.cls ≠ "java/lang/invoke/VarHandle" ∧ (parseMethodDescriptor yX4_get.desc).map (fun d => d.parameters.length) = some 1 := by decide +kernel
theorem hdX4_run : yX4_run.cls ≠ "java/lang/invoke/MethodHandle" ∧ yX4_run.cls ≠ "java/lang/invoke/VarHandle" ∧ (parseMethodDescriptor yX4_run.desc).map (fun d => d.parameters.length) = some 1 := by decide +kernel
theorem hdX4_interrupt : yX4_interrupt.cls ≠ "java/lang/invoke/MethodHandle" ∧ yX4_interrupt.cls ≠ "java/lang/invoke/VarHandle" ∧ (parseMethodDescriptor yX4_interrupt.desc).map (fun d => d.parameters.length) = some 1 := by decide +kernel
theorem hdX4_reach : yX4_reach.cls ≠ "java/lang/invoke/MethodHandle" ∧ yX4_reach.cls ≠ "java/lang/invoke/VarHandle" ∧ (parseMethodDescriptor yX4_reach.desc).map (fun d => d.parameters.length) = some 4 := by decide +kernel
