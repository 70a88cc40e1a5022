theorem dX2_become_0 : decode cX2_become 0 = .ok (.aload_n 0, 1) := by decide +kernel
theorem dX2_become_1 : decode cX2_become 1 = .ok (.aload_n 1, 1) := by decide +kernel
theorem dX2_become_2 : decode cX2_become 2 = .ok (.getfield 9, 3) := by decide +kernel
theorem dX2_become_5 : decode cX2_become 5 = .ok (.putfield 9, 3) := by decide +kernel
theorem dX2_become_8 : decode cX2_become 8 = .ok (.aload_n 0, 1) := by decide +kernel
theorem dX2_become_9 : decode cX2_become 9 = .ok (.aload_n 1, 1) := by decide +kernel
theorem dX2_become_10 : decode cX2_become 10 = .ok (.getfield 15, 3) := by decide +kernel
theorem dX2_become_13 : decode cX2_become 13 = .ok (.putfield 15, 3) := by decide +kernel
theorem dX2_become_16 : decode cX2_become 16 = .ok (.aload_n 0, 1) := by decide +kernel
theorem dX2_become_17 : decode cX2_become 17 = .ok (.aload_n 1, 1) := by decide +kernel
theorem dX2_become_18 : decode cX2_become 18 = .ok (.getfield 18, 3) := by decide +kernel
theorem dX2_become_21 : decode cX2_become 21 = .ok (.putfield 18, 3) := by decide +kernel
theorem dX2_become_24 : decode cX2_become 24 = .ok (.return_, 1) := by decide +kernel
theorem dX2_takeFrom_0 : decode cX2_takeFrom 0 = .ok (.aload_n 0, 1) := by decide +kernel
theorem dX2_takeFrom_1 : decode cX2_takeFrom 1 = .ok (.lload_n 1, 1) := by decide +kernel
theorem dX2_takeFrom_2 : decode cX2_takeFrom 2 = .ok (.bipush 24, 2) := by decide +kernel
theorem dX2_takeFrom_4 : decode cX2_takeFrom 4 = .ok (.iconst 4, 1) := by decide +kernel
theorem dX2_takeFrom_5 : decode cX2_takeFrom 5 = .ok (.invokestatic 21, 3) := by decide +kernel
theorem dX2_takeFrom_8 : decode cX2_takeFrom 8 = .ok (.putfield 9, 3) := by decide +kernel
theorem dX2_takeFrom_11 : decode cX2_takeFrom 11 = .ok (.aload_n 0, 1) := by decide +kernel
theorem dX2_takeFrom_12 : decode cX2_takeFrom 12 = .ok (.lload_n 1, 1) := by decide +kernel
theorem dX2_takeFrom_13 : decode cX2_takeFrom 13 = .ok (.iconst 0, 1) := by decide +kernel
theorem dX2_takeFrom_14 : decode cX2_takeFrom 14 = .ok (.bipush 12, 2) := by decide +kernel
theorem dX2_takeFrom_16 : decode cX2_takeFrom 16 = .ok (.invokestatic 21, 3) := by decide +kernel
theorem dX2_takeFrom_19 : decode cX2_takeFrom 19 = .ok (.putfield 15, 3) := by decide +kernel
theorem dX2_takeFrom_22 : decode cX2_takeFrom 22 = .ok (.aload_n 0, 1) := by decide +kernel
theorem dX2_takeFrom_23 : decode cX2_takeFrom 23 = .ok (.lload_n 1, 1) := by decide +kernel
theorem dX2_takeFrom_24 : decode cX2_takeFrom 24 = .ok (.bipush 21, 2) := by decide +kernel
theorem dX2_takeFrom_26 : decode cX2_takeFrom 26 = .ok (.iconst 3, 1) := by decide +kernel
theorem dX2_takeFrom_27 : decode cX2_takeFrom 27 = .ok (.invokestatic 21, 3) := by decide +kernel
theorem dX2_takeFrom_30 : decode cX2_takeFrom 30 = .ok (.putfield 18, 3) := by decide +kernel
theorem dX2_takeFrom_33 : decode cX2_takeFrom 33 = .ok (.return_, 1) := by decide +kernel
theorem dX2_asWord_0 : decode cX2_asWord 0 = .ok (.ldc2_w 25, 3) := by decide +kernel
theorem dX2_asWord_3 : decode cX2_asWord 3 = .ok (.aload_n 0, 1) := by decide +kernel
theorem dX2_asWord_4 : decode cX2_asWord 4 = .ok (.getfield 9, 3) := by decide +kernel
theorem dX2_asWord_7 : decode cX2_asWord 7 = .ok (.i2l, 1) := by decide +kernel
theorem dX2_asWord_8 : decode cX2_asWord 8 = .ok (.bipush 24, 2) := by decide +kernel
theorem dX2_asWord_10 : decode cX2_asWord 10 = .ok (.lshl, 1) := by decide +kernel
theorem dX2_asWord_11 : decode cX2_asWord 11 = .ok (.lor, 1) := by decide +kernel
theorem dX2_asWord_12 : decode cX2_asWord 12 = .ok (.aload_n 0, 1) := by decide +kernel
theorem dX2_asWord_13 : decode cX2_asWord 13 = .ok (.getfield 18, 3) := by decide +kernel
theorem dX2_asWord_16 : decode cX2_asWord 16 = .ok (.i2l, 1) := by decide +kernel
theorem dX2_asWord_17 : decode cX2_asWord 17 = .ok (.bipush 21, 2) := by decide +kernel
theorem dX2_asWord_19 : decode cX2_asWord 19 = .ok (.lshl, 1) := by decide +kernel
theorem dX2_asWord_20 : decode cX2_asWord 20 = .ok (.lor, 1) := by decide +kernel
theorem dX2_asWord_21 : decode cX2_asWord 21 = .ok (.aload_n 0, 1) := by decide +kernel
theorem dX2_asWord_22 : decode cX2_asWord 22 = .ok (.getfield 15, 3) := by decide +kernel
theorem dX2_asWord_25 : decode cX2_asWord 25 = .ok (.i2l, 1) := by decide +kernel
theorem dX2_asWord_26 : decode cX2_asWord 26 = .ok (.lor, 1) := by decide +kernel
theorem dX2_asWord_27 : decode cX2_asWord 27 = .ok (.lreturn, 1) := by decide +kernel
theorem kw1 : Cond.fieldLink RX2 9 RX2 "segment" "I" ∈ gG := inG 162 (by decide +kernel) (by decide +kernel)
theorem kw2 : Cond.fieldLink RX2 15 RX2 "word" "I" ∈ gG := inG 166 (by decide +kernel) (by decide +kernel)
theorem kw3 : Cond.fieldLink RX2 18 RX2 "ring" "I" ∈ gG := inG 169 (by decide +kernel) (by decide +kernel)
theorem kw4 : Cond.code yX4_field cX4_field 4 (some .int) ∈ gG := inG 336 (by decide +kernel) (by decide +kernel)
theorem kw5 : Cond.initialized RX4 ∈ gG := inG 43 (by decide +kernel) (by decide +kernel)
theorem kw6 : Cond.static yX4_field ∈ gG := inG 335 (by decide +kernel) (by decide +kernel)
theorem kw7 : Cond.constantLong RX2 25 8589934592 ∈ gG := inG 240 (by decide +kernel) (by decide +kernel)
theorem hdX4_field : yX4_field.cls ≠ "java/lang/invoke/MethodHandle" ∧ yX4_field.cls ≠ "java/lang/invoke/VarHandle" ∧ (parseMethodDescriptor yX4_field.desc).map (fun d => d.parameters.length) = some 3 := by decide +kernel
