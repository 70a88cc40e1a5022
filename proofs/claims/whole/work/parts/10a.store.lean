theorem dX3_read_0 : decode cX3_read 0 = .ok (.aload_n 0, 1) := by decide +kernel
theorem dX3_read_1 : decode cX3_read 1 = .ok (.aload_n 1, 1) := by decide +kernel
theorem dX3_read_2 : decode cX3_read 2 = .ok (.getfield 32, 3) := by decide +kernel
theorem dX3_read_5 : decode cX3_read 5 = .ok (.aload_n 1, 1) := by decide +kernel
theorem dX3_read_6 : decode cX3_read 6 = .ok (.getfield 38, 3) := by decide +kernel
theorem dX3_read_9 : decode cX3_read 9 = .ok (.aload_n 1, 1) := by decide +kernel
theorem dX3_read_10 : decode cX3_read 10 = .ok (.getfield 41, 3) := by decide +kernel
theorem dX3_read_13 : decode cX3_read 13 = .ok (.iload_n 2, 1) := by decide +kernel
theorem dX3_read_14 : decode cX3_read 14 = .ok (.iconst 1, 1) := by decide +kernel
theorem dX3_read_15 : decode cX3_read 15 = .ok (.invokevirtual 44, 3) := by decide +kernel
theorem dX3_read_18 : decode cX3_read 18 = .ok (.istore_n 3, 1) := by decide +kernel
theorem dX3_read_19 : decode cX3_read 19 = .ok (.iload_n 3, 1) := by decide +kernel
theorem dX3_read_20 : decode cX3_read 20 = .ok (.ifCond .ge 8, 3) := by decide +kernel
theorem dX3_read_23 : decode cX3_read 23 = .ok (.iload_n 3, 1) := by decide +kernel
theorem dX3_read_24 : decode cX3_read 24 = .ok (.i2l, 1) := by decide +kernel
theorem dX3_read_25 : decode cX3_read 25 = .ok (.goto 9, 3) := by decide +kernel
theorem dX3_read_28 : decode cX3_read 28 = .ok (.aload_n 0, 1) := by decide +kernel
theorem dX3_read_29 : decode cX3_read 29 = .ok (.getfield 9, 3) := by decide +kernel
theorem dX3_read_32 : decode cX3_read 32 = .ok (.iload_n 3, 1) := by decide +kernel
theorem dX3_read_33 : decode cX3_read 33 = .ok (.laload, 1) := by decide +kernel
theorem dX3_read_34 : decode cX3_read 34 = .ok (.lreturn, 1) := by decide +kernel
theorem dX3_write_0 : decode cX3_write 0 = .ok (.aload_n 0, 1) := by decide +kernel
theorem dX3_write_1 : decode cX3_write 1 = .ok (.aload_n 1, 1) := by decide +kernel
theorem dX3_write_2 : decode cX3_write 2 = .ok (.getfield 32, 3) := by decide +kernel
theorem dX3_write_5 : decode cX3_write 5 = .ok (.aload_n 1, 1) := by decide +kernel
theorem dX3_write_6 : decode cX3_write 6 = .ok (.getfield 38, 3) := by decide +kernel
theorem dX3_write_9 : decode cX3_write 9 = .ok (.aload_n 1, 1) := by decide +kernel
theorem dX3_write_10 : decode cX3_write 10 = .ok (.getfield 41, 3) := by decide +kernel
theorem dX3_write_13 : decode cX3_write 13 = .ok (.iconst 1, 1) := by decide +kernel
theorem dX3_write_14 : decode cX3_write 14 = .ok (.iconst 1, 1) := by decide +kernel
theorem dX3_write_15 : decode cX3_write 15 = .ok (.invokevirtual 44, 3) := by decide +kernel
theorem dX3_write_18 : decode cX3_write 18 = .ok (.istore 4, 2) := by decide +kernel
theorem dX3_write_20 : decode cX3_write 20 = .ok (.iload 4, 2) := by decide +kernel
theorem dX3_write_22 : decode cX3_write 22 = .ok (.ifCond .ge 10, 3) := by decide +kernel
theorem dX3_write_25 : decode cX3_write 25 = .ok (.iload 4, 2) := by decide +kernel
theorem dX3_write_27 : decode cX3_write 27 = .ok (.i2l, 1) := by decide +kernel
theorem dX3_write_28 : decode cX3_write 28 = .ok (.invokestatic 48, 3) := by decide +kernel
theorem dX3_write_31 : decode cX3_write 31 = .ok (.ireturn, 1) := by decide +kernel
theorem dX3_write_32 : decode cX3_write 32 = .ok (.aload_n 0, 1) := by decide +kernel
theorem dX3_write_33 : decode cX3_write 33 = .ok (.getfield 28, 3) := by decide +kernel
theorem dX3_write_36 : decode cX3_write 36 = .ok (.getfield 52, 3) := by decide +kernel
theorem dX3_write_39 : decode cX3_write 39 = .ok (.ifCond .eq 14, 3) := by decide +kernel
theorem dX3_write_42 : decode cX3_write 42 = .ok (.aload_n 0, 1) := by decide +kernel
theorem dX3_write_43 : decode cX3_write 43 = .ok (.aload_n 1, 1) := by decide +kernel
theorem dX3_write_44 : decode cX3_write 44 = .ok (.getfield 38, 3) := by decide +kernel
theorem dX3_write_47 : decode cX3_write 47 = .ok (.bipush 64, 2) := by decide +kernel
theorem dX3_write_49 : decode cX3_write 49 = .ok (.idiv, 1) := by decide +kernel
theorem dX3_write_50 : decode cX3_write 50 = .ok (.invokevirtual 56, 3) := by decide +kernel
theorem dX3_write_53 : decode cX3_write 53 = .ok (.aload_n 0, 1) := by decide +kernel
theorem dX3_write_54 : decode cX3_write 54 = .ok (.getfield 9, 3) := by decide +kernel
theorem dX3_write_57 : decode cX3_write 57 = .ok (.iload 4, 2) := by decide +kernel
theorem dX3_write_59 : decode cX3_write 59 = .ok (.lload_n 2, 1) := by decide +kernel
theorem dX3_write_60 : decode cX3_write 60 = .ok (.lastore, 1) := by decide +kernel
theorem dX3_write_61 : decode cX3_write 61 = .ok (.iconst 0, 1) := by decide +kernel
theorem dX3_write_62 : decode cX3_write 62 = .ok (.ireturn, 1) := by decide +kernel
theorem kw74 : Cond.fieldLink RX3 32 RX2 "segment" "I" ∈ gG := inG 163 (by decide +kernel) (by decide +kernel)
theorem kw75 : Cond.fieldLink RX3 38 RX2 "word" "I" ∈ gG := inG 165 (by decide +kernel) (by decide +kernel)
theorem kw76 : Cond.fieldLink RX3 41 RX2 "ring" "I" ∈ gG := inG 168 (by decide +kernel) (by decide +kernel)
theorem kw77 : Cond.code yX3_locate cX3_locate 9 (some .int) ∈ gG := inG 391 (by decide +kernel) (by decide +kernel)
theorem kw78 : Cond.methodLink RX3 44 yX3_locate ∈ gG := inG 388 (by decide +kernel) (by decide +kernel)
theorem kw79 : Cond.instanceMethod yX3_locate ∈ gG := inG 389 (by decide +kernel) (by decide +kernel)
theorem kw80 : Cond.selects RX3 yX3_locate yX3_locate ∈ gG := inG 390 (by decide +kernel) (by decide +kernel)
theorem kw81 : Cond.code yX3_markChanged cX3_markChanged 2 none ∈ gG := inG 494 (by decide +kernel) (by decide +kernel)
theorem kw82 : Cond.methodLink RX3 56 yX3_markChanged ∈ gG := inG 491 (by decide +kernel) (by decide +kernel)
theorem kw83 : Cond.instanceMethod yX3_markChanged ∈ gG := inG 493 (by decide +kernel) (by decide +kernel)
theorem kw84 : Cond.selects RX3 yX3_markChanged yX3_markChanged ∈ gG := inG 14 (by decide +kernel) (by decide +kernel)
theorem kw85 : Cond.code yX4_faultOf cX4_faultOf 2 (some .int) ∈ gG := inG 433 (by decide +kernel) (by decide +kernel)
theorem kw86 : Cond.static yX4_faultOf ∈ gG := inG 432 (by decide +kernel) (by decide +kernel)
theorem hdX3_locate : yX3_locate.cls ≠ "java/lang/invoke/MethodHandle" ∧ yX3_locate.cls ≠ "java/lang/invoke/VarHandle" ∧ (parseMethodDescriptor yX3_locate.desc).map (fun d => d.parameters.length) = some 5 := by decide +kernel
theorem hdX3_markChanged : yX3_markChanged.cls ≠ "java/lang/invoke/MethodHandle" ∧ yX3_markChanged.cls ≠ "java/lang/invoke/VarHandle" ∧ (parseMethodDescriptor yX3_markChanged.desc).map (fun d => d.parameters.length) = some 1 := by decide +kernel
theorem hdX4_faultOf : yX4_faultOf.cls ≠ "java/lang/invoke/MethodHandle" ∧ yX4_faultOf.cls ≠ "java/lang/invoke/VarHandle" ∧ (parseMethodDescriptor yX4_faultOf.desc).map (fun d => d.parameters.length) = some 1 := by decide +kernel
