theorem dX4_advance_0 : decode cX4_advance 0 = .ok (.aload_n 0, 1) := by decide +kernel
theorem dX4_advance_1 : decode cX4_advance 1 = .ok (.getfield 27, 3) := by decide +kernel
theorem dX4_advance_4 : decode cX4_advance 4 = .ok (.aload_n 0, 1) := by decide +kernel
theorem dX4_advance_5 : decode cX4_advance 5 = .ok (.getfield 27, 3) := by decide +kernel
theorem dX4_advance_8 : decode cX4_advance 8 = .ok (.getfield 122, 3) := by decide +kernel
theorem dX4_advance_11 : decode cX4_advance 11 = .ok (.iconst 1, 1) := by decide +kernel
theorem dX4_advance_12 : decode cX4_advance 12 = .ok (.invokestatic 156, 3) := by decide +kernel
theorem dX4_advance_15 : decode cX4_advance 15 = .ok (.putfield 122, 3) := by decide +kernel
theorem dX4_advance_18 : decode cX4_advance 18 = .ok (.iconst 0, 1) := by decide +kernel
theorem dX4_advance_19 : decode cX4_advance 19 = .ok (.ireturn, 1) := by decide +kernel
theorem dX4_exchange_0 : decode cX4_exchange 0 = .ok (.aload_n 0, 1) := by decide +kernel
theorem dX4_exchange_1 : decode cX4_exchange 1 = .ok (.getfield 46, 3) := by decide +kernel
theorem dX4_exchange_4 : decode cX4_exchange 4 = .ok (.lstore_n 1, 1) := by decide +kernel
theorem dX4_exchange_5 : decode cX4_exchange 5 = .ok (.aload_n 0, 1) := by decide +kernel
theorem dX4_exchange_6 : decode cX4_exchange 6 = .ok (.aload_n 0, 1) := by decide +kernel
theorem dX4_exchange_7 : decode cX4_exchange 7 = .ok (.getfield 50, 3) := by decide +kernel
theorem dX4_exchange_10 : decode cX4_exchange 10 = .ok (.putfield 46, 3) := by decide +kernel
theorem dX4_exchange_13 : decode cX4_exchange 13 = .ok (.aload_n 0, 1) := by decide +kernel
theorem dX4_exchange_14 : decode cX4_exchange 14 = .ok (.lload_n 1, 1) := by decide +kernel
theorem dX4_exchange_15 : decode cX4_exchange 15 = .ok (.putfield 50, 3) := by decide +kernel
theorem dX4_exchange_18 : decode cX4_exchange 18 = .ok (.aload_n 0, 1) := by decide +kernel
theorem dX4_exchange_19 : decode cX4_exchange 19 = .ok (.invokevirtual 180, 3) := by decide +kernel
theorem dX4_exchange_22 : decode cX4_exchange 22 = .ok (.ireturn, 1) := by decide +kernel
theorem dX4_goBack_0 : decode cX4_goBack 0 = .ok (.aload_n 0, 1) := by decide +kernel
theorem dX4_goBack_1 : decode cX4_goBack 1 = .ok (.getfield 83, 3) := by decide +kernel
theorem dX4_goBack_4 : decode cX4_goBack 4 = .ok (.ifCond .ne 6, 3) := by decide +kernel
theorem dX4_goBack_7 : decode cX4_goBack 7 = .ok (.bipush 6, 2) := by decide +kernel
theorem dX4_goBack_9 : decode cX4_goBack 9 = .ok (.ireturn, 1) := by decide +kernel
theorem dX4_goBack_10 : decode cX4_goBack 10 = .ok (.aload_n 0, 1) := by decide +kernel
theorem dX4_goBack_11 : decode cX4_goBack 11 = .ok (.iconst 0, 1) := by decide +kernel
theorem dX4_goBack_12 : decode cX4_goBack 12 = .ok (.putfield 83, 3) := by decide +kernel
theorem dX4_goBack_15 : decode cX4_goBack 15 = .ok (.aload_n 0, 1) := by decide +kernel
theorem dX4_goBack_16 : decode cX4_goBack 16 = .ok (.getfield 27, 3) := by decide +kernel
theorem dX4_goBack_19 : decode cX4_goBack 19 = .ok (.aload_n 0, 1) := by decide +kernel
theorem dX4_goBack_20 : decode cX4_goBack 20 = .ok (.getfield 34, 3) := by decide +kernel
theorem dX4_goBack_23 : decode cX4_goBack 23 = .ok (.invokevirtual 125, 3) := by decide +kernel
theorem dX4_goBack_26 : decode cX4_goBack 26 = .ok (.iconst 0, 1) := by decide +kernel
theorem dX4_goBack_27 : decode cX4_goBack 27 = .ok (.ireturn, 1) := by decide +kernel
theorem dX4_performInRing0_0 : decode cX4_performInRing0 0 = .ok (.iload_n 1, 1) := by decide +kernel
theorem dX4_performInRing0_1 : decode cX4_performInRing0 1 = .ok (.bipush 37, 2) := by decide +kernel
theorem dX4_performInRing0_3 : decode cX4_performInRing0 3 = .ok (.if_icmp .ne 8, 3) := by decide +kernel
theorem dX4_performInRing0_6 : decode cX4_performInRing0 6 = .ok (.aload_n 0, 1) := by decide +kernel
theorem dX4_performInRing0_7 : decode cX4_performInRing0 7 = .ok (.invokevirtual 189, 3) := by decide +kernel
theorem dX4_performInRing0_10 : decode cX4_performInRing0 10 = .ok (.ireturn, 1) := by decide +kernel
theorem dX4_performInRing0_11 : decode cX4_performInRing0 11 = .ok (.iload_n 1, 1) := by decide +kernel
theorem dX4_performInRing0_12 : decode cX4_performInRing0 12 = .ok (.bipush 36, 2) := by decide +kernel
theorem dX4_performInRing0_14 : decode cX4_performInRing0 14 = .ok (.if_icmp .ne 26, 3) := by decide +kernel
theorem dX4_performInRing0_17 : decode cX4_performInRing0 17 = .ok (.aload_n 0, 1) := by decide +kernel
theorem dX4_performInRing0_18 : decode cX4_performInRing0 18 = .ok (.getfield 10, 3) := by decide +kernel
theorem dX4_performInRing0_21 : decode cX4_performInRing0 21 = .ok (.getfield 102, 3) := by decide +kernel
theorem dX4_performInRing0_24 : decode cX4_performInRing0 24 = .ok (.invokevirtual 192, 3) := by decide +kernel
theorem dX4_performInRing0_27 : decode cX4_performInRing0 27 = .ok (.aload_n 0, 1) := by decide +kernel
theorem dX4_performInRing0_28 : decode cX4_performInRing0 28 = .ok (.getfield 10, 3) := by decide +kernel
theorem dX4_performInRing0_31 : decode cX4_performInRing0 31 = .ok (.getfield 112, 3) := by decide +kernel
theorem dX4_performInRing0_34 : decode cX4_performInRing0 34 = .ok (.invokevirtual 192, 3) := by decide +kernel
theorem dX4_performInRing0_37 : decode cX4_performInRing0 37 = .ok (.goto 8, 3) := by decide +kernel
theorem dX4_performInRing0_40 : decode cX4_performInRing0 40 = .ok (.aload_n 0, 1) := by decide +kernel
theorem dX4_performInRing0_41 : decode cX4_performInRing0 41 = .ok (.iconst 1, 1) := by decide +kernel
theorem dX4_performInRing0_42 : decode cX4_performInRing0 42 = .ok (.putfield 68, 3) := by decide +kernel
theorem dX4_performInRing0_45 : decode cX4_performInRing0 45 = .ok (.aload_n 0, 1) := by decide +kernel
theorem dX4_performInRing0_46 : decode cX4_performInRing0 46 = .ok (.invokevirtual 180, 3) := by decide +kernel
theorem dX4_performInRing0_49 : decode cX4_performInRing0 49 = .ok (.ireturn, 1) := by decide +kernel
theorem dX4_performWithoutAddress_0 : decode cX4_performWithoutAddress 0 = .ok (.iload_n 1, 1) := by decide +kernel
theorem dX4_performWithoutAddress_1 : decode cX4_performWithoutAddress 1 = .ok (.lookupswitch 82 #[(0, 51), (33, 56), (36, 61), (37, 61), (38, 61)], 51) := by decide +kernel
theorem dX4_performWithoutAddress_52 : decode cX4_performWithoutAddress 52 = .ok (.aload_n 0, 1) := by decide +kernel
theorem dX4_performWithoutAddress_53 : decode cX4_performWithoutAddress 53 = .ok (.invokevirtual 180, 3) := by decide +kernel
theorem dX4_performWithoutAddress_56 : decode cX4_performWithoutAddress 56 = .ok (.ireturn, 1) := by decide +kernel
theorem dX4_performWithoutAddress_57 : decode cX4_performWithoutAddress 57 = .ok (.aload_n 0, 1) := by decide +kernel
theorem dX4_performWithoutAddress_58 : decode cX4_performWithoutAddress 58 = .ok (.invokevirtual 183, 3) := by decide +kernel
theorem dX4_performWithoutAddress_61 : decode cX4_performWithoutAddress 61 = .ok (.ireturn, 1) := by decide +kernel
theorem dX4_performWithoutAddress_62 : decode cX4_performWithoutAddress 62 = .ok (.aload_n 0, 1) := by decide +kernel
theorem dX4_performWithoutAddress_63 : decode cX4_performWithoutAddress 63 = .ok (.getfield 27, 3) := by decide +kernel
theorem dX4_performWithoutAddress_66 : decode cX4_performWithoutAddress 66 = .ok (.getfield 129, 3) := by decide +kernel
theorem dX4_performWithoutAddress_69 : decode cX4_performWithoutAddress 69 = .ok (.ifCond .ne 11, 3) := by decide +kernel
theorem dX4_performWithoutAddress_72 : decode cX4_performWithoutAddress 72 = .ok (.aload_n 0, 1) := by decide +kernel
theorem dX4_performWithoutAddress_73 : decode cX4_performWithoutAddress 73 = .ok (.iload_n 1, 1) := by decide +kernel
theorem dX4_performWithoutAddress_74 : decode cX4_performWithoutAddress 74 = .ok (.invokevirtual 186, 3) := by decide +kernel
theorem dX4_performWithoutAddress_77 : decode cX4_performWithoutAddress 77 = .ok (.goto 5, 3) := by decide +kernel
theorem dX4_performWithoutAddress_80 : decode cX4_performWithoutAddress 80 = .ok (.bipush 7, 2) := by decide +kernel
theorem dX4_performWithoutAddress_82 : decode cX4_performWithoutAddress 82 = .ok (.ireturn, 1) := by decide +kernel
theorem dX4_performWithoutAddress_83 : decode cX4_performWithoutAddress 83 = .ok (.bipush 6, 2) := by decide +kernel
theorem dX4_performWithoutAddress_85 : decode cX4_performWithoutAddress 85 = .ok (.ireturn, 1) := by decide +kernel
theorem dX4_combined_0 : decode cX4_combined 0 = .ok (.iload_n 1, 1) := by decide +kernel
theorem dX4_combined_1 : decode cX4_combined 1 = .ok (.tableswitch 81 3 8 #[39, 46, 53, 60, 67, 74], 39) := by decide +kernel
theorem dX4_combined_40 : decode cX4_combined 40 = .ok (.aload_n 0, 1) := by decide +kernel
theorem dX4_combined_41 : decode cX4_combined 41 = .ok (.getfield 46, 3) := by decide +kernel
theorem dX4_combined_44 : decode cX4_combined 44 = .ok (.lload_n 2, 1) := by decide +kernel
theorem dX4_combined_45 : decode cX4_combined 45 = .ok (.ladd, 1) := by decide +kernel
theorem dX4_combined_46 : decode cX4_combined 46 = .ok (.lreturn, 1) := by decide +kernel
theorem dX4_combined_47 : decode cX4_combined 47 = .ok (.aload_n 0, 1) := by decide +kernel
theorem dX4_combined_48 : decode cX4_combined 48 = .ok (.getfield 46, 3) := by decide +kernel
theorem dX4_combined_51 : decode cX4_combined 51 = .ok (.lload_n 2, 1) := by decide +kernel
theorem dX4_combined_52 : decode cX4_combined 52 = .ok (.lsub, 1) := by decide +kernel
theorem dX4_combined_53 : decode cX4_combined 53 = .ok (.lreturn, 1) := by decide +kernel
theorem dX4_combined_54 : decode cX4_combined 54 = .ok (.aload_n 0, 1) := by decide +kernel
theorem dX4_combined_55 : decode cX4_combined 55 = .ok (.getfield 46, 3) := by decide +kernel
theorem dX4_combined_58 : decode cX4_combined 58 = .ok (.lload_n 2, 1) := by decide +kernel
theorem dX4_combined_59 : decode cX4_combined 59 = .ok (.lmul, 1) := by decide +kernel
theorem dX4_combined_60 : decode cX4_combined 60 = .ok (.lreturn, 1) := by decide +kernel
theorem dX4_combined_61 : decode cX4_combined 61 = .ok (.aload_n 0, 1) := by decide +kernel
theorem dX4_combined_62 : decode cX4_combined 62 = .ok (.getfield 46, 3) := by decide +kernel
theorem dX4_combined_65 : decode cX4_combined 65 = .ok (.lload_n 2, 1) := by decide +kernel
theorem dX4_combined_66 : decode cX4_combined 66 = .ok (.land, 1) := by decide +kernel
theorem dX4_combined_67 : decode cX4_combined 67 = .ok (.lreturn, 1) := by decide +kernel
theorem dX4_combined_68 : decode cX4_combined 68 = .ok (.aload_n 0, 1) := by decide +kernel
theorem dX4_combined_69 : decode cX4_combined 69 = .ok (.getfield 46, 3) := by decide +kernel
theorem dX4_combined_72 : decode cX4_combined 72 = .ok (.lload_n 2, 1) := by decide +kernel
theorem dX4_combined_73 : decode cX4_combined 73 = .ok (.lor, 1) := by decide +kernel
theorem dX4_combined_74 : decode cX4_combined 74 = .ok (.lreturn, 1) := by decide +kernel
theorem dX4_combined_75 : decode cX4_combined 75 = .ok (.aload_n 0, 1) := by decide +kernel
theorem dX4_combined_76 : decode cX4_combined 76 = .ok (.getfield 46, 3) := by decide +kernel
theorem dX4_combined_79 : decode cX4_combined 79 = .ok (.lload_n 2, 1) := by decide +kernel
theorem dX4_combined_80 : decode cX4_combined 80 = .ok (.lxor, 1) := by decide +kernel
theorem dX4_combined_81 : decode cX4_combined 81 = .ok (.lreturn, 1) := by decide +kernel
theorem dX4_combined_82 : decode cX4_combined 82 = .ok (.lload_n 2, 1) := by decide +kernel
theorem dX4_combined_83 : decode cX4_combined 83 = .ok (.lreturn, 1) := by decide +kernel
theorem dX4_load_0 : decode cX4_load 0 = .ok (.aload_n 0, 1) := by decide +kernel
theorem dX4_load_1 : decode cX4_load 1 = .ok (.getfield 10, 3) := by decide +kernel
theorem dX4_load_4 : decode cX4_load 4 = .ok (.aload_n 0, 1) := by decide +kernel
theorem dX4_load_5 : decode cX4_load 5 = .ok (.getfield 31, 3) := by decide +kernel
theorem dX4_load_8 : decode cX4_load 8 = .ok (.iconst 0, 1) := by decide +kernel
theorem dX4_load_9 : decode cX4_load 9 = .ok (.invokevirtual 132, 3) := by decide +kernel
theorem dX4_load_12 : decode cX4_load 12 = .ok (.lstore_n 2, 1) := by decide +kernel
theorem dX4_load_13 : decode cX4_load 13 = .ok (.lload_n 2, 1) := by decide +kernel
theorem dX4_load_14 : decode cX4_load 14 = .ok (.lconst 0, 1) := by decide +kernel
theorem dX4_load_15 : decode cX4_load 15 = .ok (.lcmp, 1) := by decide +kernel
theorem dX4_load_16 : decode cX4_load 16 = .ok (.ifCond .ge 8, 3) := by decide +kernel
theorem dX4_load_19 : decode cX4_load 19 = .ok (.lload_n 2, 1) := by decide +kernel
theorem dX4_load_20 : decode cX4_load 20 = .ok (.invokestatic 136, 3) := by decide +kernel
theorem dX4_load_23 : decode cX4_load 23 = .ok (.ireturn, 1) := by decide +kernel
theorem dX4_load_24 : decode cX4_load 24 = .ok (.iload_n 1, 1) := by decide +kernel
theorem dX4_load_25 : decode cX4_load 25 = .ok (.tableswitch 69 9 15 #[61, 69, 69, 43, 43, 43, 43], 43) := by decide +kernel
theorem dX4_load_68 : decode cX4_load 68 = .ok (.aload_n 0, 1) := by decide +kernel
theorem dX4_load_69 : decode cX4_load 69 = .ok (.getfield 16, 3) := by decide +kernel
theorem dX4_load_72 : decode cX4_load 72 = .ok (.iload_n 1, 1) := by decide +kernel
theorem dX4_load_73 : decode cX4_load 73 = .ok (.iconst 3, 1) := by decide +kernel
theorem dX4_load_74 : decode cX4_load 74 = .ok (.iand, 1) := by decide +kernel
theorem dX4_load_75 : decode cX4_load 75 = .ok (.lload_n 2, 1) := by decide +kernel
theorem dX4_load_76 : decode cX4_load 76 = .ok (.iconst 0, 1) := by decide +kernel
theorem dX4_load_77 : decode cX4_load 77 = .ok (.bipush 12, 2) := by decide +kernel
theorem dX4_load_79 : decode cX4_load 79 = .ok (.invokestatic 53, 3) := by decide +kernel
theorem dX4_load_82 : decode cX4_load 82 = .ok (.iastore, 1) := by decide +kernel
theorem dX4_load_83 : decode cX4_load 83 = .ok (.goto 25, 3) := by decide +kernel
theorem dX4_load_86 : decode cX4_load 86 = .ok (.aload_n 0, 1) := by decide +kernel
theorem dX4_load_87 : decode cX4_load 87 = .ok (.lload_n 2, 1) := by decide +kernel
theorem dX4_load_88 : decode cX4_load 88 = .ok (.putfield 50, 3) := by decide +kernel
theorem dX4_load_91 : decode cX4_load 91 = .ok (.goto 17, 3) := by decide +kernel
theorem dX4_load_94 : decode cX4_load 94 = .ok (.aload_n 0, 1) := by decide +kernel
theorem dX4_load_95 : decode cX4_load 95 = .ok (.aload_n 0, 1) := by decide +kernel
theorem dX4_load_96 : decode cX4_load 96 = .ok (.iload_n 1, 1) := by decide +kernel
theorem dX4_load_97 : decode cX4_load 97 = .ok (.lload_n 2, 1) := by decide +kernel
theorem dX4_load_98 : decode cX4_load 98 = .ok (.invokevirtual 216, 3) := by decide +kernel
theorem dX4_load_101 : decode cX4_load 101 = .ok (.ldc2_w 44, 3) := by decide +kernel
theorem dX4_load_104 : decode cX4_load 104 = .ok (.land, 1) := by decide +kernel
theorem dX4_load_105 : decode cX4_load 105 = .ok (.putfield 46, 3) := by decide +kernel
theorem dX4_load_108 : decode cX4_load 108 = .ok (.aload_n 0, 1) := by decide +kernel
theorem dX4_load_109 : decode cX4_load 109 = .ok (.invokevirtual 180, 3) := by decide +kernel
theorem dX4_load_112 : decode cX4_load 112 = .ok (.ireturn, 1) := by decide +kernel
theorem dX4_addOne_0 : decode cX4_addOne 0 = .ok (.aload_n 0, 1) := by decide +kernel
theorem dX4_addOne_1 : decode cX4_addOne 1 = .ok (.getfield 10, 3) := by decide +kernel
theorem dX4_addOne_4 : decode cX4_addOne 4 = .ok (.aload_n 0, 1) := by decide +kernel
theorem dX4_addOne_5 : decode cX4_addOne 5 = .ok (.getfield 31, 3) := by decide +kernel
theorem dX4_addOne_8 : decode cX4_addOne 8 = .ok (.iconst 0, 1) := by decide +kernel
theorem dX4_addOne_9 : decode cX4_addOne 9 = .ok (.invokevirtual 132, 3) := by decide +kernel
theorem dX4_addOne_12 : decode cX4_addOne 12 = .ok (.lstore_n 1, 1) := by decide +kernel
theorem dX4_addOne_13 : decode cX4_addOne 13 = .ok (.lload_n 1, 1) := by decide +kernel
theorem dX4_addOne_14 : decode cX4_addOne 14 = .ok (.lconst 0, 1) := by decide +kernel
theorem dX4_addOne_15 : decode cX4_addOne 15 = .ok (.lcmp, 1) := by decide +kernel
theorem dX4_addOne_16 : decode cX4_addOne 16 = .ok (.ifCond .ge 8, 3) := by decide +kernel
theorem dX4_addOne_19 : decode cX4_addOne 19 = .ok (.lload_n 1, 1) := by decide +kernel
theorem dX4_addOne_20 : decode cX4_addOne 20 = .ok (.invokestatic 136, 3) := by decide +kernel
theorem dX4_addOne_23 : decode cX4_addOne 23 = .ok (.ireturn, 1) := by decide +kernel
theorem dX4_addOne_24 : decode cX4_addOne 24 = .ok (.aload_n 0, 1) := by decide +kernel
theorem dX4_addOne_25 : decode cX4_addOne 25 = .ok (.getfield 10, 3) := by decide +kernel
theorem dX4_addOne_28 : decode cX4_addOne 28 = .ok (.aload_n 0, 1) := by decide +kernel
theorem dX4_addOne_29 : decode cX4_addOne 29 = .ok (.getfield 31, 3) := by decide +kernel
theorem dX4_addOne_32 : decode cX4_addOne 32 = .ok (.lload_n 1, 1) := by decide +kernel
theorem dX4_addOne_33 : decode cX4_addOne 33 = .ok (.lconst 1, 1) := by decide +kernel
theorem dX4_addOne_34 : decode cX4_addOne 34 = .ok (.ladd, 1) := by decide +kernel
theorem dX4_addOne_35 : decode cX4_addOne 35 = .ok (.ldc2_w 44, 3) := by decide +kernel
theorem dX4_addOne_38 : decode cX4_addOne 38 = .ok (.land, 1) := by decide +kernel
theorem dX4_addOne_39 : decode cX4_addOne 39 = .ok (.invokevirtual 220, 3) := by decide +kernel
theorem dX4_addOne_42 : decode cX4_addOne 42 = .ok (.istore_n 3, 1) := by decide +kernel
theorem dX4_addOne_43 : decode cX4_addOne 43 = .ok (.iload_n 3, 1) := by decide +kernel
theorem dX4_addOne_44 : decode cX4_addOne 44 = .ok (.ifCond .ne 10, 3) := by decide +kernel
theorem dX4_addOne_47 : decode cX4_addOne 47 = .ok (.aload_n 0, 1) := by decide +kernel
theorem dX4_addOne_48 : decode cX4_addOne 48 = .ok (.invokevirtual 180, 3) := by decide +kernel
theorem dX4_addOne_51 : decode cX4_addOne 51 = .ok (.goto 4, 3) := by decide +kernel
theorem dX4_addOne_54 : decode cX4_addOne 54 = .ok (.iload_n 3, 1) := by decide +kernel
theorem dX4_addOne_55 : decode cX4_addOne 55 = .ok (.ireturn, 1) := by decide +kernel
theorem dX4_put_0 : decode cX4_put 0 = .ok (.aload_n 0, 1) := by decide +kernel
theorem dX4_put_1 : decode cX4_put 1 = .ok (.getfield 10, 3) := by decide +kernel
theorem dX4_put_4 : decode cX4_put 4 = .ok (.aload_n 0, 1) := by decide +kernel
theorem dX4_put_5 : decode cX4_put 5 = .ok (.getfield 31, 3) := by decide +kernel
theorem dX4_put_8 : decode cX4_put 8 = .ok (.lload_n 1, 1) := by decide +kernel
theorem dX4_put_9 : decode cX4_put 9 = .ok (.invokevirtual 220, 3) := by decide +kernel
theorem dX4_put_12 : decode cX4_put 12 = .ok (.istore_n 3, 1) := by decide +kernel
theorem dX4_put_13 : decode cX4_put 13 = .ok (.iload_n 3, 1) := by decide +kernel
theorem dX4_put_14 : decode cX4_put 14 = .ok (.ifCond .ne 10, 3) := by decide +kernel
theorem dX4_put_17 : decode cX4_put 17 = .ok (.aload_n 0, 1) := by decide +kernel
theorem dX4_put_18 : decode cX4_put 18 = .ok (.invokevirtual 180, 3) := by decide +kernel
theorem dX4_put_21 : decode cX4_put 21 = .ok (.goto 4, 3) := by decide +kernel
theorem dX4_put_24 : decode cX4_put 24 = .ok (.iload_n 3, 1) := by decide +kernel
theorem dX4_put_25 : decode cX4_put 25 = .ok (.ireturn, 1) := by decide +kernel
theorem dX4_transfer_0 : decode cX4_transfer 0 = .ok (.iload_n 1, 1) := by decide +kernel
theorem dX4_transfer_1 : decode cX4_transfer 1 = .ok (.ifCond .ne 8, 3) := by decide +kernel
theorem dX4_transfer_4 : decode cX4_transfer 4 = .ok (.aload_n 0, 1) := by decide +kernel
theorem dX4_transfer_5 : decode cX4_transfer 5 = .ok (.invokevirtual 180, 3) := by decide +kernel
theorem dX4_transfer_8 : decode cX4_transfer 8 = .ok (.ireturn, 1) := by decide +kernel
theorem dX4_transfer_9 : decode cX4_transfer 9 = .ok (.aload_n 0, 1) := by decide +kernel
theorem dX4_transfer_10 : decode cX4_transfer 10 = .ok (.getfield 31, 3) := by decide +kernel
theorem dX4_transfer_13 : decode cX4_transfer 13 = .ok (.getfield 129, 3) := by decide +kernel
theorem dX4_transfer_16 : decode cX4_transfer 16 = .ok (.aload_n 0, 1) := by decide +kernel
theorem dX4_transfer_17 : decode cX4_transfer 17 = .ok (.getfield 27, 3) := by decide +kernel
theorem dX4_transfer_20 : decode cX4_transfer 20 = .ok (.getfield 129, 3) := by decide +kernel
theorem dX4_transfer_23 : decode cX4_transfer 23 = .ok (.if_icmp .eq 5, 3) := by decide +kernel
theorem dX4_transfer_26 : decode cX4_transfer 26 = .ok (.iconst 5, 1) := by decide +kernel
theorem dX4_transfer_27 : decode cX4_transfer 27 = .ok (.ireturn, 1) := by decide +kernel
theorem dX4_transfer_28 : decode cX4_transfer 28 = .ok (.aload_n 0, 1) := by decide +kernel
theorem dX4_transfer_29 : decode cX4_transfer 29 = .ok (.getfield 27, 3) := by decide +kernel
theorem dX4_transfer_32 : decode cX4_transfer 32 = .ok (.aload_n 0, 1) := by decide +kernel
theorem dX4_transfer_33 : decode cX4_transfer 33 = .ok (.getfield 31, 3) := by decide +kernel
theorem dX4_transfer_36 : decode cX4_transfer 36 = .ok (.invokevirtual 125, 3) := by decide +kernel
theorem dX4_transfer_39 : decode cX4_transfer 39 = .ok (.iconst 0, 1) := by decide +kernel
theorem dX4_transfer_40 : decode cX4_transfer 40 = .ok (.ireturn, 1) := by decide +kernel
theorem dX4_callAddress_0 : decode cX4_callAddress 0 = .ok (.aload_n 0, 1) := by decide +kernel
theorem dX4_callAddress_1 : decode cX4_callAddress 1 = .ok (.getfield 10, 3) := by decide +kernel
theorem dX4_callAddress_4 : decode cX4_callAddress 4 = .ok (.aload_n 0, 1) := by decide +kernel
theorem dX4_callAddress_5 : decode cX4_callAddress 5 = .ok (.getfield 31, 3) := by decide +kernel
theorem dX4_callAddress_8 : decode cX4_callAddress 8 = .ok (.getfield 119, 3) := by decide +kernel
theorem dX4_callAddress_11 : decode cX4_callAddress 11 = .ok (.iconst 1, 1) := by decide +kernel
theorem dX4_callAddress_12 : decode cX4_callAddress 12 = .ok (.invokevirtual 224, 3) := by decide +kernel
theorem dX4_callAddress_15 : decode cX4_callAddress 15 = .ok (.astore_n 1, 1) := by decide +kernel
theorem dX4_callAddress_16 : decode cX4_callAddress 16 = .ok (.aload_n 1, 1) := by decide +kernel
theorem dX4_callAddress_17 : decode cX4_callAddress 17 = .ok (.getfield 228, 3) := by decide +kernel
theorem dX4_callAddress_20 : decode cX4_callAddress 20 = .ok (.ifCond .ne 5, 3) := by decide +kernel
theorem dX4_callAddress_23 : decode cX4_callAddress 23 = .ok (.iconst 1, 1) := by decide +kernel
theorem dX4_callAddress_24 : decode cX4_callAddress 24 = .ok (.ireturn, 1) := by decide +kernel
theorem dX4_callAddress_25 : decode cX4_callAddress 25 = .ok (.aload_n 1, 1) := by decide +kernel
theorem dX4_callAddress_26 : decode cX4_callAddress 26 = .ok (.getfield 231, 3) := by decide +kernel
theorem dX4_callAddress_29 : decode cX4_callAddress 29 = .ok (.ifCond .ne 5, 3) := by decide +kernel
theorem dX4_callAddress_32 : decode cX4_callAddress 32 = .ok (.iconst 4, 1) := by decide +kernel
theorem dX4_callAddress_33 : decode cX4_callAddress 33 = .ok (.ireturn, 1) := by decide +kernel
theorem dX4_callAddress_34 : decode cX4_callAddress 34 = .ok (.aload_n 1, 1) := by decide +kernel
theorem dX4_callAddress_35 : decode cX4_callAddress 35 = .ok (.aload_n 0, 1) := by decide +kernel
theorem dX4_callAddress_36 : decode cX4_callAddress 36 = .ok (.getfield 31, 3) := by decide +kernel
theorem dX4_callAddress_39 : decode cX4_callAddress 39 = .ok (.getfield 122, 3) := by decide +kernel
theorem dX4_callAddress_42 : decode cX4_callAddress 42 = .ok (.aload_n 0, 1) := by decide +kernel
theorem dX4_callAddress_43 : decode cX4_callAddress 43 = .ok (.getfield 31, 3) := by decide +kernel
theorem dX4_callAddress_46 : decode cX4_callAddress 46 = .ok (.getfield 129, 3) := by decide +kernel
theorem dX4_callAddress_49 : decode cX4_callAddress 49 = .ok (.invokevirtual 234, 3) := by decide +kernel
theorem dX4_callAddress_52 : decode cX4_callAddress 52 = .ok (.istore_n 2, 1) := by decide +kernel
theorem dX4_callAddress_53 : decode cX4_callAddress 53 = .ok (.iload_n 2, 1) := by decide +kernel
theorem dX4_callAddress_54 : decode cX4_callAddress 54 = .ok (.iconst (-1), 1) := by decide +kernel
theorem dX4_callAddress_55 : decode cX4_callAddress 55 = .ok (.if_icmp .ne 5, 3) := by decide +kernel
theorem dX4_callAddress_58 : decode cX4_callAddress 58 = .ok (.iconst 5, 1) := by decide +kernel
theorem dX4_callAddress_59 : decode cX4_callAddress 59 = .ok (.ireturn, 1) := by decide +kernel
theorem dX4_callAddress_60 : decode cX4_callAddress 60 = .ok (.aload_n 0, 1) := by decide +kernel
theorem dX4_callAddress_61 : decode cX4_callAddress 61 = .ok (.invokevirtual 180, 3) := by decide +kernel
theorem dX4_callAddress_64 : decode cX4_callAddress 64 = .ok (.pop, 1) := by decide +kernel
theorem dX4_callAddress_65 : decode cX4_callAddress 65 = .ok (.aload_n 0, 1) := by decide +kernel
theorem dX4_callAddress_66 : decode cX4_callAddress 66 = .ok (.getfield 23, 3) := by decide +kernel
theorem dX4_callAddress_69 : decode cX4_callAddress 69 = .ok (.iconst 0, 1) := by decide +kernel
theorem dX4_callAddress_70 : decode cX4_callAddress 70 = .ok (.aaload, 1) := by decide +kernel
theorem dX4_callAddress_71 : decode cX4_callAddress 71 = .ok (.aload_n 0, 1) := by decide +kernel
theorem dX4_callAddress_72 : decode cX4_callAddress 72 = .ok (.getfield 27, 3) := by decide +kernel
theorem dX4_callAddress_75 : decode cX4_callAddress 75 = .ok (.invokevirtual 125, 3) := by decide +kernel
theorem dX4_callAddress_78 : decode cX4_callAddress 78 = .ok (.aload_n 0, 1) := by decide +kernel
theorem dX4_callAddress_79 : decode cX4_callAddress 79 = .ok (.getfield 27, 3) := by decide +kernel
theorem dX4_callAddress_82 : decode cX4_callAddress 82 = .ok (.aload_n 0, 1) := by decide +kernel
theorem dX4_callAddress_83 : decode cX4_callAddress 83 = .ok (.getfield 31, 3) := by decide +kernel
theorem dX4_callAddress_86 : decode cX4_callAddress 86 = .ok (.invokevirtual 125, 3) := by decide +kernel
theorem dX4_callAddress_89 : decode cX4_callAddress 89 = .ok (.aload_n 0, 1) := by decide +kernel
theorem dX4_callAddress_90 : decode cX4_callAddress 90 = .ok (.getfield 27, 3) := by decide +kernel
theorem dX4_callAddress_93 : decode cX4_callAddress 93 = .ok (.iload_n 2, 1) := by decide +kernel
theorem dX4_callAddress_94 : decode cX4_callAddress 94 = .ok (.putfield 129, 3) := by decide +kernel
theorem dX4_callAddress_97 : decode cX4_callAddress 97 = .ok (.iconst 0, 1) := by decide +kernel
theorem dX4_callAddress_98 : decode cX4_callAddress 98 = .ok (.ireturn, 1) := by decide +kernel
theorem dX4_returnByWord_0 : decode cX4_returnByWord 0 = .ok (.aload_n 0, 1) := by decide +kernel
theorem dX4_returnByWord_1 : decode cX4_returnByWord 1 = .ok (.getfield 10, 3) := by decide +kernel
theorem dX4_returnByWord_4 : decode cX4_returnByWord 4 = .ok (.aload_n 0, 1) := by decide +kernel
theorem dX4_returnByWord_5 : decode cX4_returnByWord 5 = .ok (.getfield 31, 3) := by decide +kernel
theorem dX4_returnByWord_8 : decode cX4_returnByWord 8 = .ok (.iconst 0, 1) := by decide +kernel
theorem dX4_returnByWord_9 : decode cX4_returnByWord 9 = .ok (.invokevirtual 132, 3) := by decide +kernel
theorem dX4_returnByWord_12 : decode cX4_returnByWord 12 = .ok (.lstore_n 1, 1) := by decide +kernel
theorem dX4_returnByWord_13 : decode cX4_returnByWord 13 = .ok (.lload_n 1, 1) := by decide +kernel
theorem dX4_returnByWord_14 : decode cX4_returnByWord 14 = .ok (.lconst 0, 1) := by decide +kernel
theorem dX4_returnByWord_15 : decode cX4_returnByWord 15 = .ok (.lcmp, 1) := by decide +kernel
theorem dX4_returnByWord_16 : decode cX4_returnByWord 16 = .ok (.ifCond .ge 8, 3) := by decide +kernel
theorem dX4_returnByWord_19 : decode cX4_returnByWord 19 = .ok (.lload_n 1, 1) := by decide +kernel
theorem dX4_returnByWord_20 : decode cX4_returnByWord 20 = .ok (.invokestatic 136, 3) := by decide +kernel
theorem dX4_returnByWord_23 : decode cX4_returnByWord 23 = .ok (.ireturn, 1) := by decide +kernel
theorem dX4_returnByWord_24 : decode cX4_returnByWord 24 = .ok (.lload_n 1, 1) := by decide +kernel
theorem dX4_returnByWord_25 : decode cX4_returnByWord 25 = .ok (.bipush 33, 2) := by decide +kernel
theorem dX4_returnByWord_27 : decode cX4_returnByWord 27 = .ok (.iconst 3, 1) := by decide +kernel
theorem dX4_returnByWord_28 : decode cX4_returnByWord 28 = .ok (.invokestatic 53, 3) := by decide +kernel
theorem dX4_returnByWord_31 : decode cX4_returnByWord 31 = .ok (.iconst 1, 1) := by decide +kernel
theorem dX4_returnByWord_32 : decode cX4_returnByWord 32 = .ok (.if_icmp .eq 6, 3) := by decide +kernel
theorem dX4_returnByWord_35 : decode cX4_returnByWord 35 = .ok (.bipush 6, 2) := by decide +kernel
theorem dX4_returnByWord_37 : decode cX4_returnByWord 37 = .ok (.ireturn, 1) := by decide +kernel
theorem dX4_returnByWord_38 : decode cX4_returnByWord 38 = .ok (.aload_n 0, 1) := by decide +kernel
theorem dX4_returnByWord_39 : decode cX4_returnByWord 39 = .ok (.getfield 27, 3) := by decide +kernel
theorem dX4_returnByWord_42 : decode cX4_returnByWord 42 = .ok (.getfield 129, 3) := by decide +kernel
theorem dX4_returnByWord_45 : decode cX4_returnByWord 45 = .ok (.aload_n 0, 1) := by decide +kernel
theorem dX4_returnByWord_46 : decode cX4_returnByWord 46 = .ok (.getfield 31, 3) := by decide +kernel
theorem dX4_returnByWord_49 : decode cX4_returnByWord 49 = .ok (.getfield 129, 3) := by decide +kernel
theorem dX4_returnByWord_52 : decode cX4_returnByWord 52 = .ok (.invokestatic 160, 3) := by decide +kernel
theorem dX4_returnByWord_55 : decode cX4_returnByWord 55 = .ok (.istore_n 3, 1) := by decide +kernel
theorem dX4_returnByWord_56 : decode cX4_returnByWord 56 = .ok (.aload_n 0, 1) := by decide +kernel
theorem dX4_returnByWord_57 : decode cX4_returnByWord 57 = .ok (.getfield 27, 3) := by decide +kernel
theorem dX4_returnByWord_60 : decode cX4_returnByWord 60 = .ok (.lload_n 1, 1) := by decide +kernel
theorem dX4_returnByWord_61 : decode cX4_returnByWord 61 = .ok (.invokevirtual 57, 3) := by decide +kernel
theorem dX4_returnByWord_64 : decode cX4_returnByWord 64 = .ok (.aload_n 0, 1) := by decide +kernel
theorem dX4_returnByWord_65 : decode cX4_returnByWord 65 = .ok (.getfield 27, 3) := by decide +kernel
theorem dX4_returnByWord_68 : decode cX4_returnByWord 68 = .ok (.iload_n 3, 1) := by decide +kernel
theorem dX4_returnByWord_69 : decode cX4_returnByWord 69 = .ok (.aload_n 0, 1) := by decide +kernel
theorem dX4_returnByWord_70 : decode cX4_returnByWord 70 = .ok (.getfield 27, 3) := by decide +kernel
theorem dX4_returnByWord_73 : decode cX4_returnByWord 73 = .ok (.getfield 129, 3) := by decide +kernel
theorem dX4_returnByWord_76 : decode cX4_returnByWord 76 = .ok (.invokestatic 160, 3) := by decide +kernel
theorem dX4_returnByWord_79 : decode cX4_returnByWord 79 = .ok (.putfield 129, 3) := by decide +kernel
theorem dX4_returnByWord_82 : decode cX4_returnByWord 82 = .ok (.iconst 0, 1) := by decide +kernel
theorem dX4_returnByWord_83 : decode cX4_returnByWord 83 = .ok (.ireturn, 1) := by decide +kernel
theorem kw87 : Cond.fieldLink RX4 27 RX4 "counter" "LRingProcessor$Pointer;" ∈ gG := inG 183 (by decide +kernel) (by decide +kernel)
theorem kw88 : Cond.fieldLink RX4 122 RX2 "word" "I" ∈ gG := inG 167 (by decide +kernel) (by decide +kernel)
theorem kw89 : Cond.methodLink RX4 156 yX4_sum ∈ gG := inG 443 (by decide +kernel) (by decide +kernel)
theorem kw90 : Cond.fieldLink RX4 46 RX4 "a" "J" ∈ gG := inG 179 (by decide +kernel) (by decide +kernel)
theorem kw91 : Cond.fieldLink RX4 50 RX4 "q" "J" ∈ gG := inG 180 (by decide +kernel) (by decide +kernel)
theorem kw92 : Cond.code yX4_advance cX4_advance 1 (some .int) ∈ gG := inG 442 (by decide +kernel) (by decide +kernel)
theorem kw93 : Cond.methodLink RX4 180 yX4_advance ∈ gG := inG 439 (by decide +kernel) (by decide +kernel)
theorem kw94 : Cond.instanceMethod yX4_advance ∈ gG := inG 441 (by decide +kernel) (by decide +kernel)
theorem kw95 : Cond.selects RX4 yX4_advance yX4_advance ∈ gG := inG 5 (by decide +kernel) (by decide +kernel)
theorem kw96 : Cond.fieldLink RX4 83 RX4 "handles" "Z" ∈ gG := inG 187 (by decide +kernel) (by decide +kernel)
theorem kw97 : Cond.fieldLink RX4 34 RX4 "savedCounter" "LRingProcessor$Pointer;" ∈ gG := inG 185 (by decide +kernel) (by decide +kernel)
theorem kw98 : Cond.code yX2_become cX2_become 2 none ∈ gG := inG 383 (by decide +kernel) (by decide +kernel)
theorem kw99 : Cond.initialized RX2 ∈ gG := inG 47 (by decide +kernel) (by decide +kernel)
theorem kw100 : Cond.methodLink RX4 125 yX2_become ∈ gG := inG 380 (by decide +kernel) (by decide +kernel)
theorem kw101 : Cond.instanceMethod yX2_become ∈ gG := inG 381 (by decide +kernel) (by decide +kernel)
theorem kw102 : Cond.selects RX2 yX2_become yX2_become ∈ gG := inG 382 (by decide +kernel) (by decide +kernel)
theorem kw103 : Cond.fieldLink RX4 68 RX4 "stopped" "Z" ∈ gG := inG 188 (by decide +kernel) (by decide +kernel)
theorem kw104 : Cond.fieldLink RX4 10 RX4 "store" "LRingProcessor$Store;" ∈ gG := inG 178 (by decide +kernel) (by decide +kernel)
theorem kw105 : Cond.fieldLink RX4 102 RX3 "descriptors" "LRingProcessor$Copies;" ∈ gG := inG 141 (by decide +kernel) (by decide +kernel)
theorem kw106 : Cond.code yX0_clear cX0_clear 1 none ∈ gG := inG 459 (by decide +kernel) (by decide +kernel)
theorem kw107 : Cond.methodLink RX4 192 yX0_clear ∈ gG := inG 456 (by decide +kernel) (by decide +kernel)
theorem kw108 : Cond.instanceMethod yX0_clear ∈ gG := inG 457 (by decide +kernel) (by decide +kernel)
theorem kw109 : Cond.selects RX0 yX0_clear yX0_clear ∈ gG := inG 458 (by decide +kernel) (by decide +kernel)
theorem kw110 : Cond.fieldLink RX4 112 RX3 "pages" "LRingProcessor$Copies;" ∈ gG := inG 143 (by decide +kernel) (by decide +kernel)
theorem kw111 : Cond.code yX4_goBack cX4_goBack 1 (some .int) ∈ gG := inG 455 (by decide +kernel) (by decide +kernel)
theorem kw112 : Cond.methodLink RX4 189 yX4_goBack ∈ gG := inG 452 (by decide +kernel) (by decide +kernel)
theorem kw113 : Cond.instanceMethod yX4_goBack ∈ gG := inG 454 (by decide +kernel) (by decide +kernel)
theorem kw114 : Cond.selects RX4 yX4_goBack yX4_goBack ∈ gG := inG 8 (by decide +kernel) (by decide +kernel)
theorem kw115 : Cond.code yX4_exchange cX4_exchange 3 (some .int) ∈ gG := inG 447 (by decide +kernel) (by decide +kernel)
theorem kw116 : Cond.methodLink RX4 183 yX4_exchange ∈ gG := inG 444 (by decide +kernel) (by decide +kernel)
theorem kw117 : Cond.instanceMethod yX4_exchange ∈ gG := inG 446 (by decide +kernel) (by decide +kernel)
theorem kw118 : Cond.selects RX4 yX4_exchange yX4_exchange ∈ gG := inG 6 (by decide +kernel) (by decide +kernel)
theorem kw119 : Cond.fieldLink RX4 129 RX2 "ring" "I" ∈ gG := inG 170 (by decide +kernel) (by decide +kernel)
theorem kw120 : Cond.code yX4_performInRing0 cX4_performInRing0 2 (some .int) ∈ gG := inG 451 (by decide +kernel) (by decide +kernel)
theorem kw121 : Cond.methodLink RX4 186 yX4_performInRing0 ∈ gG := inG 448 (by decide +kernel) (by decide +kernel)
theorem kw122 : Cond.instanceMethod yX4_performInRing0 ∈ gG := inG 450 (by decide +kernel) (by decide +kernel)
theorem kw123 : Cond.selects RX4 yX4_performInRing0 yX4_performInRing0 ∈ gG := inG 7 (by decide +kernel) (by decide +kernel)
theorem kw124 : Cond.fieldLink RX4 31 RX4 "target" "LRingProcessor$Pointer;" ∈ gG := inG 184 (by decide +kernel) (by decide +kernel)
theorem kw125 : Cond.code yX3_read cX3_read 4 (some .long) ∈ gG := inG 387 (by decide +kernel) (by decide +kernel)
theorem kw126 : Cond.methodLink RX4 132 yX3_read ∈ gG := inG 384 (by decide +kernel) (by decide +kernel)
theorem kw127 : Cond.instanceMethod yX3_read ∈ gG := inG 385 (by decide +kernel) (by decide +kernel)
theorem kw128 : Cond.selects RX3 yX3_read yX3_read ∈ gG := inG 386 (by decide +kernel) (by decide +kernel)
theorem kw129 : Cond.code yX4_combined cX4_combined 4 (some .long) ∈ gG := inG 525 (by decide +kernel) (by decide +kernel)
theorem kw130 : Cond.methodLink RX4 216 yX4_combined ∈ gG := inG 522 (by decide +kernel) (by decide +kernel)
theorem kw131 : Cond.instanceMethod yX4_combined ∈ gG := inG 524 (by decide +kernel) (by decide +kernel)
theorem kw132 : Cond.selects RX4 yX4_combined yX4_combined ∈ gG := inG 20 (by decide +kernel) (by decide +kernel)
theorem kw133 : Cond.constantLong RX4 44 68719476735 ∈ gG := inG 319 (by decide +kernel) (by decide +kernel)
theorem kw134 : Cond.fieldLink RX4 16 RX4 "indexes" "[I" ∈ gG := inG 181 (by decide +kernel) (by decide +kernel)
theorem kw135 : Cond.methodLink RX4 53 yX4_field ∈ gG := inG 334 (by decide +kernel) (by decide +kernel)
theorem kw136 : Cond.methodLink RX4 136 yX4_faultOf ∈ gG := inG 431 (by decide +kernel) (by decide +kernel)
theorem kw137 : Cond.code yX3_write cX3_write 5 (some .int) ∈ gG := inG 489 (by decide +kernel) (by decide +kernel)
theorem kw138 : Cond.methodLink RX4 220 yX3_write ∈ gG := inG 486 (by decide +kernel) (by decide +kernel)
theorem kw139 : Cond.instanceMethod yX3_write ∈ gG := inG 487 (by decide +kernel) (by decide +kernel)
theorem kw140 : Cond.selects RX3 yX3_write yX3_write ∈ gG := inG 488 (by decide +kernel) (by decide +kernel)
theorem kw141 : Cond.fieldLink RX4 119 RX2 "segment" "I" ∈ gG := inG 164 (by decide +kernel) (by decide +kernel)
theorem kw142 : Cond.methodLink RX4 224 yX3_lookForDescriptor ∈ gG := inG 509 (by decide +kernel) (by decide +kernel)
theorem kw143 : Cond.fieldLink RX4 228 RX1 "isThere" "Z" ∈ gG := inG 100 (by decide +kernel) (by decide +kernel)
theorem kw144 : Cond.fieldLink RX4 231 RX1 "mayBeExecuted" "Z" ∈ gG := inG 113 (by decide +kernel) (by decide +kernel)
theorem kw145 : Cond.code yX1_ringOfCall cX1_ringOfCall 3 (some .int) ∈ gG := inG 513 (by decide +kernel) (by decide +kernel)
theorem kw146 : Cond.methodLink RX4 234 yX1_ringOfCall ∈ gG := inG 510 (by decide +kernel) (by decide +kernel)
theorem kw147 : Cond.instanceMethod yX1_ringOfCall ∈ gG := inG 511 (by decide +kernel) (by decide +kernel)
theorem kw148 : Cond.selects RX1 yX1_ringOfCall yX1_ringOfCall ∈ gG := inG 512 (by decide +kernel) (by decide +kernel)
theorem kw149 : Cond.fieldLink RX4 23 RX4 "pointers" "[LRingProcessor$Pointer;" ∈ gG := inG 182 (by decide +kernel) (by decide +kernel)
theorem kw150 : Cond.methodLink RX4 160 Lib.Math.max.name ∈ gG := inG 465 (by decide +kernel) (by decide +kernel)
theorem kw151 : Cond.static Lib.Math.max.name ∈ gG := inG 466 (by decide +kernel) (by decide +kernel)
theorem kw152 : Cond.initialized "java/lang/Math" ∈ gG := inG 54 (by decide +kernel) (by decide +kernel)
theorem kw153 : Cond.code Lib.Math.max.name Lib.Math.max.code 2 (some .int) ∈ gG := inG 467 (by decide +kernel) (by decide +kernel)
theorem kw154 : Cond.code yX2_takeFrom cX2_takeFrom 3 none ∈ gG := inG 340 (by decide +kernel) (by decide +kernel)
theorem kw155 : Cond.methodLink RX4 57 yX2_takeFrom ∈ gG := inG 337 (by decide +kernel) (by decide +kernel)
theorem kw156 : Cond.instanceMethod yX2_takeFrom ∈ gG := inG 338 (by decide +kernel) (by decide +kernel)
theorem kw157 : Cond.selects RX2 yX2_takeFrom yX2_takeFrom ∈ gG := inG 339 (by decide +kernel) (by decide +kernel)
theorem hdX4_advance : yX4_advance.cls ≠ "java/lang/invoke/MethodHandle" ∧ yX4_advance.cls ≠ "java/lang/invoke/VarHandle" ∧ (parseMethodDescriptor yX4_advance.desc).map (fun d => d.parameters.length) = some 0 := by decide +kernel
theorem hdX2_become : yX2_become.cls ≠ "java/lang/invoke/MethodHandle" ∧ yX2_become.cls ≠ "java/lang/invoke/VarHandle" ∧ (parseMethodDescriptor yX2_become.desc).map (fun d => d.parameters.length) = some 1 := by decide +kernel
theorem hdX0_clear : yX0_clear.cls ≠ "java/lang/invoke/MethodHandle" ∧ yX0_clear.cls ≠ "java/lang/invoke/VarHandle" ∧ (parseMethodDescriptor yX0_clear.desc).map (fun d => d.parameters.length) = some 0 := by decide +kernel
theorem hdX4_goBack : yX4_goBack.cls ≠ "java/lang/invoke/MethodHandle" ∧ yX4_goBack.cls ≠ "java/lang/invoke/VarHandle" ∧ (parseMethodDescriptor yX4_goBack.desc).map (fun d => d.parameters.length) = some 0 := by decide +kernel
theorem hdX4_exchange : yX4_exchange.cls ≠ "java/lang/invoke/MethodHandle" ∧ yX4_exchange.cls ≠ "java/lang/invoke/VarHandle" ∧ (parseMethodDescriptor yX4_exchange.desc).map (fun d => d.parameters.length) = some 0 := by decide +kernel
theorem hdX4_performInRing0 : yX4_performInRing0.cls ≠ "java/lang/invoke/MethodHandle" ∧ yX4_performInRing0.cls ≠ "java/lang/invoke/VarHandle" ∧ (parseMethodDescriptor yX4_performInRing0.desc).map (fun d => d.parameters.length) = some 1 := by decide +kernel
theorem hdX3_read : yX3_read.cls ≠ "java/lang/invoke/MethodHandle" ∧ yX3_read.cls ≠ "java/lang/invoke/VarHandle" ∧ (parseMethodDescriptor yX3_read.desc).map (fun d => d.parameters.length) = some 2 := by decide +kernel
theorem hdX4_combined : yX4_combined.cls ≠ "java/lang/invoke/MethodHandle" ∧ yX4_combined.cls ≠ "java/lang/invoke/VarHandle" ∧ (parseMethodDescriptor yX4_combined.desc).map (fun d => d.parameters.length) = some 2 := by decide +kernel
theorem hdX3_write : yX3_write.cls ≠ "java/lang/invoke/MethodHandle" ∧ yX3_write.cls ≠ "java/lang/invoke/VarHandle" ∧ (parseMethodDescriptor yX3_write.desc).map (fun d => d.parameters.length) = some 2 := by decide +kernel
theorem hdX1_ringOfCall : yX1_ringOfCall.cls ≠ "java/lang/invoke/MethodHandle" ∧ yX1_ringOfCall.cls ≠ "java/lang/invoke/VarHandle" ∧ (parseMethodDescriptor yX1_ringOfCall.desc).map (fun d => d.parameters.length) = some 2 := by decide +kernel
theorem hdX2_takeFrom : yX2_takeFrom.cls ≠ "java/lang/invoke/MethodHandle" ∧ yX2_takeFrom.cls ≠ "java/lang/invoke/VarHandle" ∧ (parseMethodDescriptor yX2_takeFrom.desc).map (fun d => d.parameters.length) = some 1 := by decide +kernel
