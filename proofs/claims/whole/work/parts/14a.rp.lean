theorem dX4_followChain_0 : decode cX4_followChain 0 = .ok (.iconst 0, 1) := by decide +kernel
theorem dX4_followChain_1 : decode cX4_followChain 1 = .ok (.istore_n 1, 1) := by decide +kernel
theorem dX4_followChain_2 : decode cX4_followChain 2 = .ok (.iload_n 1, 1) := by decide +kernel
theorem dX4_followChain_3 : decode cX4_followChain 3 = .ok (.iconst 5, 1) := by decide +kernel
theorem dX4_followChain_4 : decode cX4_followChain 4 = .ok (.if_icmp .ge 83, 3) := by decide +kernel
theorem dX4_followChain_7 : decode cX4_followChain 7 = .ok (.aload_n 0, 1) := by decide +kernel
theorem dX4_followChain_8 : decode cX4_followChain 8 = .ok (.getfield 10, 3) := by decide +kernel
theorem dX4_followChain_11 : decode cX4_followChain 11 = .ok (.aload_n 0, 1) := by decide +kernel
theorem dX4_followChain_12 : decode cX4_followChain 12 = .ok (.getfield 31, 3) := by decide +kernel
theorem dX4_followChain_15 : decode cX4_followChain 15 = .ok (.iconst 0, 1) := by decide +kernel
theorem dX4_followChain_16 : decode cX4_followChain 16 = .ok (.invokevirtual 132, 3) := by decide +kernel
theorem dX4_followChain_19 : decode cX4_followChain 19 = .ok (.lstore_n 2, 1) := by decide +kernel
theorem dX4_followChain_20 : decode cX4_followChain 20 = .ok (.lload_n 2, 1) := by decide +kernel
theorem dX4_followChain_21 : decode cX4_followChain 21 = .ok (.lconst 0, 1) := by decide +kernel
theorem dX4_followChain_22 : decode cX4_followChain 22 = .ok (.lcmp, 1) := by decide +kernel
theorem dX4_followChain_23 : decode cX4_followChain 23 = .ok (.ifCond .ge 8, 3) := by decide +kernel
theorem dX4_followChain_26 : decode cX4_followChain 26 = .ok (.lload_n 2, 1) := by decide +kernel
theorem dX4_followChain_27 : decode cX4_followChain 27 = .ok (.invokestatic 136, 3) := by decide +kernel
theorem dX4_followChain_30 : decode cX4_followChain 30 = .ok (.ireturn, 1) := by decide +kernel
theorem dX4_followChain_31 : decode cX4_followChain 31 = .ok (.aload_n 0, 1) := by decide +kernel
theorem dX4_followChain_32 : decode cX4_followChain 32 = .ok (.getfield 31, 3) := by decide +kernel
theorem dX4_followChain_35 : decode cX4_followChain 35 = .ok (.aload_n 0, 1) := by decide +kernel
theorem dX4_followChain_36 : decode cX4_followChain 36 = .ok (.getfield 31, 3) := by decide +kernel
theorem dX4_followChain_39 : decode cX4_followChain 39 = .ok (.getfield 129, 3) := by decide +kernel
theorem dX4_followChain_42 : decode cX4_followChain 42 = .ok (.aload_n 0, 1) := by decide +kernel
theorem dX4_followChain_43 : decode cX4_followChain 43 = .ok (.getfield 10, 3) := by decide +kernel
theorem dX4_followChain_46 : decode cX4_followChain 46 = .ok (.getfield 165, 3) := by decide +kernel
theorem dX4_followChain_49 : decode cX4_followChain 49 = .ok (.getfield 169, 3) := by decide +kernel
theorem dX4_followChain_52 : decode cX4_followChain 52 = .ok (.invokestatic 160, 3) := by decide +kernel
theorem dX4_followChain_55 : decode cX4_followChain 55 = .ok (.putfield 129, 3) := by decide +kernel
theorem dX4_followChain_58 : decode cX4_followChain 58 = .ok (.aload_n 0, 1) := by decide +kernel
theorem dX4_followChain_59 : decode cX4_followChain 59 = .ok (.lload_n 2, 1) := by decide +kernel
theorem dX4_followChain_60 : decode cX4_followChain 60 = .ok (.invokevirtual 174, 3) := by decide +kernel
theorem dX4_followChain_63 : decode cX4_followChain 63 = .ok (.ifCond .ne 6, 3) := by decide +kernel
theorem dX4_followChain_66 : decode cX4_followChain 66 = .ok (.bipush 6, 2) := by decide +kernel
theorem dX4_followChain_68 : decode cX4_followChain 68 = .ok (.ireturn, 1) := by decide +kernel
theorem dX4_followChain_69 : decode cX4_followChain 69 = .ok (.lload_n 2, 1) := by decide +kernel
theorem dX4_followChain_70 : decode cX4_followChain 70 = .ok (.ldc2_w 178, 3) := by decide +kernel
theorem dX4_followChain_73 : decode cX4_followChain 73 = .ok (.land, 1) := by decide +kernel
theorem dX4_followChain_74 : decode cX4_followChain 74 = .ok (.lconst 0, 1) := by decide +kernel
theorem dX4_followChain_75 : decode cX4_followChain 75 = .ok (.lcmp, 1) := by decide +kernel
theorem dX4_followChain_76 : decode cX4_followChain 76 = .ok (.ifCond .ne 5, 3) := by decide +kernel
theorem dX4_followChain_79 : decode cX4_followChain 79 = .ok (.iconst 0, 1) := by decide +kernel
theorem dX4_followChain_80 : decode cX4_followChain 80 = .ok (.ireturn, 1) := by decide +kernel
theorem dX4_followChain_81 : decode cX4_followChain 81 = .ok (.iinc 1 1, 3) := by decide +kernel
theorem dX4_followChain_84 : decode cX4_followChain 84 = .ok (.goto (-82), 3) := by decide +kernel
theorem dX4_followChain_87 : decode cX4_followChain 87 = .ok (.bipush 6, 2) := by decide +kernel
theorem dX4_followChain_89 : decode cX4_followChain 89 = .ok (.ireturn, 1) := by decide +kernel
theorem dX4_perform_0 : decode cX4_perform 0 = .ok (.aload_n 0, 1) := by decide +kernel
theorem dX4_perform_1 : decode cX4_perform 1 = .ok (.getfield 31, 3) := by decide +kernel
theorem dX4_perform_4 : decode cX4_perform 4 = .ok (.aload_n 0, 1) := by decide +kernel
theorem dX4_perform_5 : decode cX4_perform 5 = .ok (.getfield 27, 3) := by decide +kernel
theorem dX4_perform_8 : decode cX4_perform 8 = .ok (.invokevirtual 125, 3) := by decide +kernel
theorem dX4_perform_11 : decode cX4_perform 11 = .ok (.aload_n 0, 1) := by decide +kernel
theorem dX4_perform_12 : decode cX4_perform 12 = .ok (.getfield 10, 3) := by decide +kernel
theorem dX4_perform_15 : decode cX4_perform 15 = .ok (.aload_n 0, 1) := by decide +kernel
theorem dX4_perform_16 : decode cX4_perform 16 = .ok (.getfield 31, 3) := by decide +kernel
theorem dX4_perform_19 : decode cX4_perform 19 = .ok (.iconst 2, 1) := by decide +kernel
theorem dX4_perform_20 : decode cX4_perform 20 = .ok (.invokevirtual 132, 3) := by decide +kernel
theorem dX4_perform_23 : decode cX4_perform 23 = .ok (.lstore_n 1, 1) := by decide +kernel
theorem dX4_perform_24 : decode cX4_perform 24 = .ok (.lload_n 1, 1) := by decide +kernel
theorem dX4_perform_25 : decode cX4_perform 25 = .ok (.lconst 0, 1) := by decide +kernel
theorem dX4_perform_26 : decode cX4_perform 26 = .ok (.lcmp, 1) := by decide +kernel
theorem dX4_perform_27 : decode cX4_perform 27 = .ok (.ifCond .ge 8, 3) := by decide +kernel
theorem dX4_perform_30 : decode cX4_perform 30 = .ok (.lload_n 1, 1) := by decide +kernel
theorem dX4_perform_31 : decode cX4_perform 31 = .ok (.invokestatic 136, 3) := by decide +kernel
theorem dX4_perform_34 : decode cX4_perform 34 = .ok (.ireturn, 1) := by decide +kernel
theorem dX4_perform_35 : decode cX4_perform 35 = .ok (.lload_n 1, 1) := by decide +kernel
theorem dX4_perform_36 : decode cX4_perform 36 = .ok (.bipush 30, 2) := by decide +kernel
theorem dX4_perform_38 : decode cX4_perform 38 = .ok (.bipush 6, 2) := by decide +kernel
theorem dX4_perform_40 : decode cX4_perform 40 = .ok (.invokestatic 53, 3) := by decide +kernel
theorem dX4_perform_43 : decode cX4_perform 43 = .ok (.istore_n 3, 1) := by decide +kernel
theorem dX4_perform_44 : decode cX4_perform 44 = .ok (.iload_n 3, 1) := by decide +kernel
theorem dX4_perform_45 : decode cX4_perform 45 = .ok (.ifCond .eq 15, 3) := by decide +kernel
theorem dX4_perform_48 : decode cX4_perform 48 = .ok (.iload_n 3, 1) := by decide +kernel
theorem dX4_perform_49 : decode cX4_perform 49 = .ok (.bipush 33, 2) := by decide +kernel
theorem dX4_perform_51 : decode cX4_perform 51 = .ok (.if_icmp .eq 9, 3) := by decide +kernel
theorem dX4_perform_54 : decode cX4_perform 54 = .ok (.iload_n 3, 1) := by decide +kernel
theorem dX4_perform_55 : decode cX4_perform 55 = .ok (.bipush 35, 2) := by decide +kernel
theorem dX4_perform_57 : decode cX4_perform 57 = .ok (.if_icmp .le 9, 3) := by decide +kernel
theorem dX4_perform_60 : decode cX4_perform 60 = .ok (.aload_n 0, 1) := by decide +kernel
theorem dX4_perform_61 : decode cX4_perform 61 = .ok (.iload_n 3, 1) := by decide +kernel
theorem dX4_perform_62 : decode cX4_perform 62 = .ok (.invokevirtual 140, 3) := by decide +kernel
theorem dX4_perform_65 : decode cX4_perform 65 = .ok (.ireturn, 1) := by decide +kernel
theorem dX4_perform_66 : decode cX4_perform 66 = .ok (.aload_n 0, 1) := by decide +kernel
theorem dX4_perform_67 : decode cX4_perform 67 = .ok (.lload_n 1, 1) := by decide +kernel
theorem dX4_perform_68 : decode cX4_perform 68 = .ok (.invokevirtual 143, 3) := by decide +kernel
theorem dX4_perform_71 : decode cX4_perform 71 = .ok (.lload_n 1, 1) := by decide +kernel
theorem dX4_perform_72 : decode cX4_perform 72 = .ok (.ldc2_w 146, 3) := by decide +kernel
theorem dX4_perform_75 : decode cX4_perform 75 = .ok (.land, 1) := by decide +kernel
theorem dX4_perform_76 : decode cX4_perform 76 = .ok (.lconst 0, 1) := by decide +kernel
theorem dX4_perform_77 : decode cX4_perform 77 = .ok (.lcmp, 1) := by decide +kernel
theorem dX4_perform_78 : decode cX4_perform 78 = .ok (.ifCond .eq 17, 3) := by decide +kernel
theorem dX4_perform_81 : decode cX4_perform 81 = .ok (.aload_n 0, 1) := by decide +kernel
theorem dX4_perform_82 : decode cX4_perform 82 = .ok (.invokevirtual 148, 3) := by decide +kernel
theorem dX4_perform_85 : decode cX4_perform 85 = .ok (.istore 4, 2) := by decide +kernel
theorem dX4_perform_87 : decode cX4_perform 87 = .ok (.iload 4, 2) := by decide +kernel
theorem dX4_perform_89 : decode cX4_perform 89 = .ok (.ifCond .eq 6, 3) := by decide +kernel
theorem dX4_perform_92 : decode cX4_perform 92 = .ok (.iload 4, 2) := by decide +kernel
theorem dX4_perform_94 : decode cX4_perform 94 = .ok (.ireturn, 1) := by decide +kernel
theorem dX4_perform_95 : decode cX4_perform 95 = .ok (.aload_n 0, 1) := by decide +kernel
theorem dX4_perform_96 : decode cX4_perform 96 = .ok (.iload_n 3, 1) := by decide +kernel
theorem dX4_perform_97 : decode cX4_perform 97 = .ok (.invokevirtual 151, 3) := by decide +kernel
theorem dX4_perform_100 : decode cX4_perform 100 = .ok (.ireturn, 1) := by decide +kernel
theorem kw193 : Cond.fieldLink RX4 165 RX3 "descriptor" "LRingProcessor$Descriptor;" ∈ gG := inG 145 (by decide +kernel) (by decide +kernel)
theorem kw194 : Cond.fieldLink RX4 169 RX1 "r1" "I" ∈ gG := inG 107 (by decide +kernel) (by decide +kernel)
theorem kw195 : Cond.code yX4_followWord cX4_followWord 4 (some .boolean) ∈ gG := inG 476 (by decide +kernel) (by decide +kernel)
theorem kw196 : Cond.methodLink RX4 174 yX4_followWord ∈ gG := inG 473 (by decide +kernel) (by decide +kernel)
theorem kw197 : Cond.instanceMethod yX4_followWord ∈ gG := inG 475 (by decide +kernel) (by decide +kernel)
theorem kw198 : Cond.selects RX4 yX4_followWord yX4_followWord ∈ gG := inG 11 (by decide +kernel) (by decide +kernel)
theorem kw199 : Cond.constantLong RX4 178 1048576 ∈ gG := inG 477 (by decide +kernel) (by decide +kernel)
theorem kw200 : Cond.code yX4_performWithoutAddress cX4_performWithoutAddress 2 (some .int) ∈ gG := inG 438 (by decide +kernel) (by decide +kernel)
theorem kw201 : Cond.methodLink RX4 140 yX4_performWithoutAddress ∈ gG := inG 435 (by decide +kernel) (by decide +kernel)
theorem kw202 : Cond.instanceMethod yX4_performWithoutAddress ∈ gG := inG 437 (by decide +kernel) (by decide +kernel)
theorem kw203 : Cond.selects RX4 yX4_performWithoutAddress yX4_performWithoutAddress ∈ gG := inG 4 (by decide +kernel) (by decide +kernel)
theorem kw204 : Cond.code yX4_startAddress cX4_startAddress 5 none ∈ gG := inG 463 (by decide +kernel) (by decide +kernel)
theorem kw205 : Cond.methodLink RX4 143 yX4_startAddress ∈ gG := inG 460 (by decide +kernel) (by decide +kernel)
theorem kw206 : Cond.instanceMethod yX4_startAddress ∈ gG := inG 462 (by decide +kernel) (by decide +kernel)
theorem kw207 : Cond.selects RX4 yX4_startAddress yX4_startAddress ∈ gG := inG 9 (by decide +kernel) (by decide +kernel)
theorem kw208 : Cond.constantLong RX4 146 67108864 ∈ gG := inG 468 (by decide +kernel) (by decide +kernel)
theorem kw209 : Cond.code yX4_performAtAddress cX4_performAtAddress 3 (some .int) ∈ gG := inG 481 (by decide +kernel) (by decide +kernel)
theorem kw210 : Cond.methodLink RX4 151 yX4_performAtAddress ∈ gG := inG 478 (by decide +kernel) (by decide +kernel)
theorem kw211 : Cond.instanceMethod yX4_performAtAddress ∈ gG := inG 480 (by decide +kernel) (by decide +kernel)
theorem kw212 : Cond.selects RX4 yX4_performAtAddress yX4_performAtAddress ∈ gG := inG 12 (by decide +kernel) (by decide +kernel)
theorem kw213 : Cond.code yX4_followChain cX4_followChain 4 (some .int) ∈ gG := inG 472 (by decide +kernel) (by decide +kernel)
theorem kw214 : Cond.methodLink RX4 148 yX4_followChain ∈ gG := inG 469 (by decide +kernel) (by decide +kernel)
theorem kw215 : Cond.instanceMethod yX4_followChain ∈ gG := inG 471 (by decide +kernel) (by decide +kernel)
theorem kw216 : Cond.selects RX4 yX4_followChain yX4_followChain ∈ gG := inG 10 (by decide +kernel) (by decide +kernel)
theorem hdX4_followWord : yX4_followWord.cls ≠ "java/lang/invoke/MethodHandle" ∧ yX4_followWord.cls ≠ "java/lang/invoke/VarHandle" ∧ (parseMethodDescriptor yX4_followWord.desc).map (fun d => d.parameters.length) = some 1 := by decide +kernel
theorem hdX4_performWithoutAddress : yX4_performWithoutAddress.cls ≠ "java/lang/invoke/MethodHandle" ∧ yX4_performWithoutAddress.cls ≠ "java/lang/invoke/VarHandle" ∧ (parseMethodDescriptor yX4_performWithoutAddress.desc).map (fun d => d.parameters.length) = some 1 := by decide +kernel
theorem hdX4_startAddress : yX4_startAddress.cls ≠ "java/lang/invoke/MethodHandle" ∧ yX4_startAddress.cls ≠ "java/lang/invoke/VarHandle" ∧ (parseMethodDescriptor yX4_startAddress.desc).map (fun d => d.parameters.length) = some 1 := by decide +kernel
theorem hdX4_performAtAddress : yX4_performAtAddress.cls ≠ "java/lang/invoke/MethodHandle" ∧ yX4_performAtAddress.cls ≠ "java/lang/invoke/VarHandle" ∧ (parseMethodDescriptor yX4_performAtAddress.desc).map (fun d => d.parameters.length) = some 1 := by decide +kernel
theorem hdX4_followChain : yX4_followChain.cls ≠ "java/lang/invoke/MethodHandle" ∧ yX4_followChain.cls ≠ "java/lang/invoke/VarHandle" ∧ (parseMethodDescriptor yX4_followChain.desc).map (fun d => d.parameters.length) = some 0 := by decide +kernel
