theorem dX3_locate_0 : decode cX3_locate 0 = .ok (.aload_n 0, 1) := by decide +kernel
theorem dX3_locate_1 : decode cX3_locate 1 = .ok (.iload_n 1, 1) := by decide +kernel
theorem dX3_locate_2 : decode cX3_locate 2 = .ok (.iload 5, 2) := by decide +kernel
theorem dX3_locate_4 : decode cX3_locate 4 = .ok (.invokevirtual 72, 3) := by decide +kernel
theorem dX3_locate_7 : decode cX3_locate 7 = .ok (.pop, 1) := by decide +kernel
theorem dX3_locate_8 : decode cX3_locate 8 = .ok (.aload_n 0, 1) := by decide +kernel
theorem dX3_locate_9 : decode cX3_locate 9 = .ok (.getfield 28, 3) := by decide +kernel
theorem dX3_locate_12 : decode cX3_locate 12 = .ok (.iload_n 2, 1) := by decide +kernel
theorem dX3_locate_13 : decode cX3_locate 13 = .ok (.iload_n 3, 1) := by decide +kernel
theorem dX3_locate_14 : decode cX3_locate 14 = .ok (.iload 4, 2) := by decide +kernel
theorem dX3_locate_16 : decode cX3_locate 16 = .ok (.invokevirtual 76, 3) := by decide +kernel
theorem dX3_locate_19 : decode cX3_locate 19 = .ok (.istore 6, 2) := by decide +kernel
theorem dX3_locate_21 : decode cX3_locate 21 = .ok (.iload 6, 2) := by decide +kernel
theorem dX3_locate_23 : decode cX3_locate 23 = .ok (.ifCond .eq 8, 3) := by decide +kernel
theorem dX3_locate_26 : decode cX3_locate 26 = .ok (.iconst (-1), 1) := by decide +kernel
theorem dX3_locate_27 : decode cX3_locate 27 = .ok (.iload 6, 2) := by decide +kernel
theorem dX3_locate_29 : decode cX3_locate 29 = .ok (.isub, 1) := by decide +kernel
theorem dX3_locate_30 : decode cX3_locate 30 = .ok (.ireturn, 1) := by decide +kernel
theorem dX3_locate_31 : decode cX3_locate 31 = .ok (.aload_n 0, 1) := by decide +kernel
theorem dX3_locate_32 : decode cX3_locate 32 = .ok (.getfield 28, 3) := by decide +kernel
theorem dX3_locate_35 : decode cX3_locate 35 = .ok (.getfield 52, 3) := by decide +kernel
theorem dX3_locate_38 : decode cX3_locate 38 = .ok (.ifCond .ne 15, 3) := by decide +kernel
theorem dX3_locate_41 : decode cX3_locate 41 = .ok (.aload_n 0, 1) := by decide +kernel
theorem dX3_locate_42 : decode cX3_locate 42 = .ok (.getfield 28, 3) := by decide +kernel
theorem dX3_locate_45 : decode cX3_locate 45 = .ok (.getfield 65, 3) := by decide +kernel
theorem dX3_locate_48 : decode cX3_locate 48 = .ok (.iload_n 2, 1) := by decide +kernel
theorem dX3_locate_49 : decode cX3_locate 49 = .ok (.invokestatic 68, 3) := by decide +kernel
theorem dX3_locate_52 : decode cX3_locate 52 = .ok (.ireturn, 1) := by decide +kernel
theorem dX3_locate_53 : decode cX3_locate 53 = .ok (.aload_n 0, 1) := by decide +kernel
theorem dX3_locate_54 : decode cX3_locate 54 = .ok (.iload_n 1, 1) := by decide +kernel
theorem dX3_locate_55 : decode cX3_locate 55 = .ok (.iload_n 2, 1) := by decide +kernel
theorem dX3_locate_56 : decode cX3_locate 56 = .ok (.bipush 64, 2) := by decide +kernel
theorem dX3_locate_58 : decode cX3_locate 58 = .ok (.idiv, 1) := by decide +kernel
theorem dX3_locate_59 : decode cX3_locate 59 = .ok (.iload 5, 2) := by decide +kernel
theorem dX3_locate_61 : decode cX3_locate 61 = .ok (.invokevirtual 80, 3) := by decide +kernel
theorem dX3_locate_64 : decode cX3_locate 64 = .ok (.lstore 7, 2) := by decide +kernel
theorem dX3_locate_66 : decode cX3_locate 66 = .ok (.lload 7, 2) := by decide +kernel
theorem dX3_locate_68 : decode cX3_locate 68 = .ok (.ldc2_w 84, 3) := by decide +kernel
theorem dX3_locate_71 : decode cX3_locate 71 = .ok (.land, 1) := by decide +kernel
theorem dX3_locate_72 : decode cX3_locate 72 = .ok (.lconst 0, 1) := by decide +kernel
theorem dX3_locate_73 : decode cX3_locate 73 = .ok (.lcmp, 1) := by decide +kernel
theorem dX3_locate_74 : decode cX3_locate 74 = .ok (.ifCond .ne 6, 3) := by decide +kernel
theorem dX3_locate_77 : decode cX3_locate 77 = .ok (.bipush (-3), 2) := by decide +kernel
theorem dX3_locate_79 : decode cX3_locate 79 = .ok (.ireturn, 1) := by decide +kernel
theorem dX3_locate_80 : decode cX3_locate 80 = .ok (.lload 7, 2) := by decide +kernel
theorem dX3_locate_82 : decode cX3_locate 82 = .ok (.ldc2_w 86, 3) := by decide +kernel
theorem dX3_locate_85 : decode cX3_locate 85 = .ok (.lrem, 1) := by decide +kernel
theorem dX3_locate_86 : decode cX3_locate 86 = .ok (.l2i, 1) := by decide +kernel
theorem dX3_locate_87 : decode cX3_locate 87 = .ok (.bipush 64, 2) := by decide +kernel
theorem dX3_locate_89 : decode cX3_locate 89 = .ok (.imul, 1) := by decide +kernel
theorem dX3_locate_90 : decode cX3_locate 90 = .ok (.iload_n 2, 1) := by decide +kernel
theorem dX3_locate_91 : decode cX3_locate 91 = .ok (.bipush 64, 2) := by decide +kernel
theorem dX3_locate_93 : decode cX3_locate 93 = .ok (.irem, 1) := by decide +kernel
theorem dX3_locate_94 : decode cX3_locate 94 = .ok (.iadd, 1) := by decide +kernel
theorem dX3_locate_95 : decode cX3_locate 95 = .ok (.ireturn, 1) := by decide +kernel
theorem kw59 : Cond.code yX3_lookForDescriptor cX3_lookForDescriptor 8 (some (.object "RingProcessor$Descriptor")) ∈ gG := inG 395 (by decide +kernel) (by decide +kernel)
theorem kw60 : Cond.initialized RX3 ∈ gG := inG 44 (by decide +kernel) (by decide +kernel)
theorem kw61 : Cond.methodLink RX3 72 yX3_lookForDescriptor ∈ gG := inG 392 (by decide +kernel) (by decide +kernel)
theorem kw62 : Cond.instanceMethod yX3_lookForDescriptor ∈ gG := inG 393 (by decide +kernel) (by decide +kernel)
theorem kw63 : Cond.selects RX3 yX3_lookForDescriptor yX3_lookForDescriptor ∈ gG := inG 394 (by decide +kernel) (by decide +kernel)
theorem kw64 : Cond.code yX1_refusal cX1_refusal 5 (some .int) ∈ gG := inG 420 (by decide +kernel) (by decide +kernel)
theorem kw65 : Cond.methodLink RX3 76 yX1_refusal ∈ gG := inG 417 (by decide +kernel) (by decide +kernel)
theorem kw66 : Cond.instanceMethod yX1_refusal ∈ gG := inG 418 (by decide +kernel) (by decide +kernel)
theorem kw67 : Cond.selects RX1 yX1_refusal yX1_refusal ∈ gG := inG 419 (by decide +kernel) (by decide +kernel)
theorem kw68 : Cond.fieldLink RX3 52 RX1 "isPaged" "Z" ∈ gG := inG 102 (by decide +kernel) (by decide +kernel)
theorem kw69 : Cond.code yX3_lookForPage cX3_lookForPage 8 (some .long) ∈ gG := inG 427 (by decide +kernel) (by decide +kernel)
theorem kw70 : Cond.methodLink RX3 80 yX3_lookForPage ∈ gG := inG 424 (by decide +kernel) (by decide +kernel)
theorem kw71 : Cond.instanceMethod yX3_lookForPage ∈ gG := inG 426 (by decide +kernel) (by decide +kernel)
theorem kw72 : Cond.selects RX3 yX3_lookForPage yX3_lookForPage ∈ gG := inG 3 (by decide +kernel) (by decide +kernel)
theorem kw73 : Cond.constantLong RX3 86 64 ∈ gG := inG 430 (by decide +kernel) (by decide +kernel)
theorem hdX3_lookForDescriptor : yX3_lookForDescriptor.cls ≠ "java/lang/invoke/MethodHandle" ∧ yX3_lookForDescriptor.cls ≠ "java/lang/invoke/VarHandle" ∧ (parseMethodDescriptor yX3_lookForDescriptor.desc).map (fun d => d.parameters.length) = some 2 := by decide +kernel
theorem hdX1_refusal : yX1_refusal.cls ≠ "java/lang/invoke/MethodHandle" ∧ yX1_refusal.cls ≠ "java/lang/invoke/VarHandle" ∧ (parseMethodDescriptor yX1_refusal.desc).map (fun d => d.parameters.length) = some 3 := by decide +kernel
theorem hdX3_lookForPage : yX3_lookForPage.cls ≠ "java/lang/invoke/MethodHandle" ∧ yX3_lookForPage.cls ≠ "java/lang/invoke/VarHandle" ∧ (parseMethodDescriptor yX3_lookForPage.desc).map (fun d => d.parameters.length) = some 3 := by decide +kernel
