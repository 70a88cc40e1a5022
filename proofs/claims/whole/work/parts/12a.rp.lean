theorem dX4_followWord_0 : decode cX4_followWord 0 = .ok (.aload_n 0, 1) := by decide +kernel
theorem dX4_followWord_1 : decode cX4_followWord 1 = .ok (.getfield 31, 3) := by decide +kernel
theorem dX4_followWord_4 : decode cX4_followWord 4 = .ok (.getfield 129, 3) := by decide +kernel
theorem dX4_followWord_7 : decode cX4_followWord 7 = .ok (.istore_n 3, 1) := by decide +kernel
theorem dX4_followWord_8 : decode cX4_followWord 8 = .ok (.lload_n 1, 1) := by decide +kernel
theorem dX4_followWord_9 : decode cX4_followWord 9 = .ok (.bipush 33, 2) := by decide +kernel
theorem dX4_followWord_11 : decode cX4_followWord 11 = .ok (.iconst 3, 1) := by decide +kernel
theorem dX4_followWord_12 : decode cX4_followWord 12 = .ok (.invokestatic 53, 3) := by decide +kernel
theorem dX4_followWord_15 : decode cX4_followWord 15 = .ok (.tableswitch 98 0 2 #[25, 41, 52], 25) := by decide +kernel
theorem dX4_followWord_40 : decode cX4_followWord 40 = .ok (.aload_n 0, 1) := by decide +kernel
theorem dX4_followWord_41 : decode cX4_followWord 41 = .ok (.getfield 31, 3) := by decide +kernel
theorem dX4_followWord_44 : decode cX4_followWord 44 = .ok (.lload_n 1, 1) := by decide +kernel
theorem dX4_followWord_45 : decode cX4_followWord 45 = .ok (.iconst 0, 1) := by decide +kernel
theorem dX4_followWord_46 : decode cX4_followWord 46 = .ok (.bipush 12, 2) := by decide +kernel
theorem dX4_followWord_48 : decode cX4_followWord 48 = .ok (.invokestatic 53, 3) := by decide +kernel
theorem dX4_followWord_51 : decode cX4_followWord 51 = .ok (.putfield 122, 3) := by decide +kernel
theorem dX4_followWord_54 : decode cX4_followWord 54 = .ok (.iconst 1, 1) := by decide +kernel
theorem dX4_followWord_55 : decode cX4_followWord 55 = .ok (.ireturn, 1) := by decide +kernel
theorem dX4_followWord_56 : decode cX4_followWord 56 = .ok (.aload_n 0, 1) := by decide +kernel
theorem dX4_followWord_57 : decode cX4_followWord 57 = .ok (.getfield 31, 3) := by decide +kernel
theorem dX4_followWord_60 : decode cX4_followWord 60 = .ok (.lload_n 1, 1) := by decide +kernel
theorem dX4_followWord_61 : decode cX4_followWord 61 = .ok (.invokevirtual 57, 3) := by decide +kernel
theorem dX4_followWord_64 : decode cX4_followWord 64 = .ok (.goto 51, 3) := by decide +kernel
theorem dX4_followWord_67 : decode cX4_followWord 67 = .ok (.aload_n 0, 1) := by decide +kernel
theorem dX4_followWord_68 : decode cX4_followWord 68 = .ok (.getfield 31, 3) := by decide +kernel
theorem dX4_followWord_71 : decode cX4_followWord 71 = .ok (.aload_n 0, 1) := by decide +kernel
theorem dX4_followWord_72 : decode cX4_followWord 72 = .ok (.getfield 23, 3) := by decide +kernel
theorem dX4_followWord_75 : decode cX4_followWord 75 = .ok (.lload_n 1, 1) := by decide +kernel
theorem dX4_followWord_76 : decode cX4_followWord 76 = .ok (.bipush 18, 2) := by decide +kernel
theorem dX4_followWord_78 : decode cX4_followWord 78 = .ok (.iconst 2, 1) := by decide +kernel
theorem dX4_followWord_79 : decode cX4_followWord 79 = .ok (.invokestatic 53, 3) := by decide +kernel
theorem dX4_followWord_82 : decode cX4_followWord 82 = .ok (.aaload, 1) := by decide +kernel
theorem dX4_followWord_83 : decode cX4_followWord 83 = .ok (.invokevirtual 125, 3) := by decide +kernel
theorem dX4_followWord_86 : decode cX4_followWord 86 = .ok (.aload_n 0, 1) := by decide +kernel
theorem dX4_followWord_87 : decode cX4_followWord 87 = .ok (.getfield 31, 3) := by decide +kernel
theorem dX4_followWord_90 : decode cX4_followWord 90 = .ok (.aload_n 0, 1) := by decide +kernel
theorem dX4_followWord_91 : decode cX4_followWord 91 = .ok (.getfield 31, 3) := by decide +kernel
theorem dX4_followWord_94 : decode cX4_followWord 94 = .ok (.getfield 122, 3) := by decide +kernel
theorem dX4_followWord_97 : decode cX4_followWord 97 = .ok (.lload_n 1, 1) := by decide +kernel
theorem dX4_followWord_98 : decode cX4_followWord 98 = .ok (.iconst 0, 1) := by decide +kernel
theorem dX4_followWord_99 : decode cX4_followWord 99 = .ok (.bipush 12, 2) := by decide +kernel
theorem dX4_followWord_101 : decode cX4_followWord 101 = .ok (.invokestatic 53, 3) := by decide +kernel
theorem dX4_followWord_104 : decode cX4_followWord 104 = .ok (.invokestatic 156, 3) := by decide +kernel
theorem dX4_followWord_107 : decode cX4_followWord 107 = .ok (.putfield 122, 3) := by decide +kernel
theorem dX4_followWord_110 : decode cX4_followWord 110 = .ok (.goto 5, 3) := by decide +kernel
theorem dX4_followWord_113 : decode cX4_followWord 113 = .ok (.iconst 0, 1) := by decide +kernel
theorem dX4_followWord_114 : decode cX4_followWord 114 = .ok (.ireturn, 1) := by decide +kernel
theorem dX4_followWord_115 : decode cX4_followWord 115 = .ok (.aload_n 0, 1) := by decide +kernel
theorem dX4_followWord_116 : decode cX4_followWord 116 = .ok (.getfield 31, 3) := by decide +kernel
theorem dX4_followWord_119 : decode cX4_followWord 119 = .ok (.iload_n 3, 1) := by decide +kernel
theorem dX4_followWord_120 : decode cX4_followWord 120 = .ok (.aload_n 0, 1) := by decide +kernel
theorem dX4_followWord_121 : decode cX4_followWord 121 = .ok (.getfield 31, 3) := by decide +kernel
theorem dX4_followWord_124 : decode cX4_followWord 124 = .ok (.getfield 129, 3) := by decide +kernel
theorem dX4_followWord_127 : decode cX4_followWord 127 = .ok (.invokestatic 160, 3) := by decide +kernel
theorem dX4_followWord_130 : decode cX4_followWord 130 = .ok (.putfield 129, 3) := by decide +kernel
theorem dX4_followWord_133 : decode cX4_followWord 133 = .ok (.iconst 1, 1) := by decide +kernel
theorem dX4_followWord_134 : decode cX4_followWord 134 = .ok (.ireturn, 1) := by decide +kernel
theorem dX4_startAddress_0 : decode cX4_startAddress 0 = .ok (.lload_n 1, 1) := by decide +kernel
theorem dX4_startAddress_1 : decode cX4_startAddress 1 = .ok (.iconst 0, 1) := by decide +kernel
theorem dX4_startAddress_2 : decode cX4_startAddress 2 = .ok (.bipush 12, 2) := by decide +kernel
theorem dX4_startAddress_4 : decode cX4_startAddress 4 = .ok (.invokestatic 53, 3) := by decide +kernel
theorem dX4_startAddress_7 : decode cX4_startAddress 7 = .ok (.istore_n 3, 1) := by decide +kernel
theorem dX4_startAddress_8 : decode cX4_startAddress 8 = .ok (.lload_n 1, 1) := by decide +kernel
theorem dX4_startAddress_9 : decode cX4_startAddress 9 = .ok (.ldc2_w 154, 3) := by decide +kernel
theorem dX4_startAddress_12 : decode cX4_startAddress 12 = .ok (.land, 1) := by decide +kernel
theorem dX4_startAddress_13 : decode cX4_startAddress 13 = .ok (.lconst 0, 1) := by decide +kernel
theorem dX4_startAddress_14 : decode cX4_startAddress 14 = .ok (.lcmp, 1) := by decide +kernel
theorem dX4_startAddress_15 : decode cX4_startAddress 15 = .ok (.ifCond .eq 70, 3) := by decide +kernel
theorem dX4_startAddress_18 : decode cX4_startAddress 18 = .ok (.aload_n 0, 1) := by decide +kernel
theorem dX4_startAddress_19 : decode cX4_startAddress 19 = .ok (.getfield 23, 3) := by decide +kernel
theorem dX4_startAddress_22 : decode cX4_startAddress 22 = .ok (.lload_n 1, 1) := by decide +kernel
theorem dX4_startAddress_23 : decode cX4_startAddress 23 = .ok (.bipush 27, 2) := by decide +kernel
theorem dX4_startAddress_25 : decode cX4_startAddress 25 = .ok (.iconst 2, 1) := by decide +kernel
theorem dX4_startAddress_26 : decode cX4_startAddress 26 = .ok (.invokestatic 53, 3) := by decide +kernel
theorem dX4_startAddress_29 : decode cX4_startAddress 29 = .ok (.aaload, 1) := by decide +kernel
theorem dX4_startAddress_30 : decode cX4_startAddress 30 = .ok (.astore 4, 2) := by decide +kernel
theorem dX4_startAddress_32 : decode cX4_startAddress 32 = .ok (.aload_n 0, 1) := by decide +kernel
theorem dX4_startAddress_33 : decode cX4_startAddress 33 = .ok (.getfield 31, 3) := by decide +kernel
theorem dX4_startAddress_36 : decode cX4_startAddress 36 = .ok (.aload 4, 2) := by decide +kernel
theorem dX4_startAddress_38 : decode cX4_startAddress 38 = .ok (.getfield 119, 3) := by decide +kernel
theorem dX4_startAddress_41 : decode cX4_startAddress 41 = .ok (.putfield 119, 3) := by decide +kernel
theorem dX4_startAddress_44 : decode cX4_startAddress 44 = .ok (.aload_n 0, 1) := by decide +kernel
theorem dX4_startAddress_45 : decode cX4_startAddress 45 = .ok (.getfield 31, 3) := by decide +kernel
theorem dX4_startAddress_48 : decode cX4_startAddress 48 = .ok (.aload 4, 2) := by decide +kernel
theorem dX4_startAddress_50 : decode cX4_startAddress 50 = .ok (.getfield 122, 3) := by decide +kernel
theorem dX4_startAddress_53 : decode cX4_startAddress 53 = .ok (.iload_n 3, 1) := by decide +kernel
theorem dX4_startAddress_54 : decode cX4_startAddress 54 = .ok (.invokestatic 156, 3) := by decide +kernel
theorem dX4_startAddress_57 : decode cX4_startAddress 57 = .ok (.putfield 122, 3) := by decide +kernel
theorem dX4_startAddress_60 : decode cX4_startAddress 60 = .ok (.aload_n 0, 1) := by decide +kernel
theorem dX4_startAddress_61 : decode cX4_startAddress 61 = .ok (.getfield 31, 3) := by decide +kernel
theorem dX4_startAddress_64 : decode cX4_startAddress 64 = .ok (.aload_n 0, 1) := by decide +kernel
theorem dX4_startAddress_65 : decode cX4_startAddress 65 = .ok (.getfield 27, 3) := by decide +kernel
theorem dX4_startAddress_68 : decode cX4_startAddress 68 = .ok (.getfield 129, 3) := by decide +kernel
theorem dX4_startAddress_71 : decode cX4_startAddress 71 = .ok (.aload 4, 2) := by decide +kernel
theorem dX4_startAddress_73 : decode cX4_startAddress 73 = .ok (.getfield 129, 3) := by decide +kernel
theorem dX4_startAddress_76 : decode cX4_startAddress 76 = .ok (.invokestatic 160, 3) := by decide +kernel
theorem dX4_startAddress_79 : decode cX4_startAddress 79 = .ok (.putfield 129, 3) := by decide +kernel
theorem dX4_startAddress_82 : decode cX4_startAddress 82 = .ok (.goto 39, 3) := by decide +kernel
theorem dX4_startAddress_85 : decode cX4_startAddress 85 = .ok (.aload_n 0, 1) := by decide +kernel
theorem dX4_startAddress_86 : decode cX4_startAddress 86 = .ok (.getfield 31, 3) := by decide +kernel
theorem dX4_startAddress_89 : decode cX4_startAddress 89 = .ok (.aload_n 0, 1) := by decide +kernel
theorem dX4_startAddress_90 : decode cX4_startAddress 90 = .ok (.getfield 27, 3) := by decide +kernel
theorem dX4_startAddress_93 : decode cX4_startAddress 93 = .ok (.getfield 119, 3) := by decide +kernel
theorem dX4_startAddress_96 : decode cX4_startAddress 96 = .ok (.putfield 119, 3) := by decide +kernel
theorem dX4_startAddress_99 : decode cX4_startAddress 99 = .ok (.aload_n 0, 1) := by decide +kernel
theorem dX4_startAddress_100 : decode cX4_startAddress 100 = .ok (.getfield 31, 3) := by decide +kernel
theorem dX4_startAddress_103 : decode cX4_startAddress 103 = .ok (.iload_n 3, 1) := by decide +kernel
theorem dX4_startAddress_104 : decode cX4_startAddress 104 = .ok (.putfield 122, 3) := by decide +kernel
theorem dX4_startAddress_107 : decode cX4_startAddress 107 = .ok (.aload_n 0, 1) := by decide +kernel
theorem dX4_startAddress_108 : decode cX4_startAddress 108 = .ok (.getfield 31, 3) := by decide +kernel
theorem dX4_startAddress_111 : decode cX4_startAddress 111 = .ok (.aload_n 0, 1) := by decide +kernel
theorem dX4_startAddress_112 : decode cX4_startAddress 112 = .ok (.getfield 27, 3) := by decide +kernel
theorem dX4_startAddress_115 : decode cX4_startAddress 115 = .ok (.getfield 129, 3) := by decide +kernel
theorem dX4_startAddress_118 : decode cX4_startAddress 118 = .ok (.putfield 129, 3) := by decide +kernel
theorem dX4_startAddress_121 : decode cX4_startAddress 121 = .ok (.lload_n 1, 1) := by decide +kernel
theorem dX4_startAddress_122 : decode cX4_startAddress 122 = .ok (.bipush 24, 2) := by decide +kernel
theorem dX4_startAddress_124 : decode cX4_startAddress 124 = .ok (.iconst 2, 1) := by decide +kernel
theorem dX4_startAddress_125 : decode cX4_startAddress 125 = .ok (.invokestatic 53, 3) := by decide +kernel
theorem dX4_startAddress_128 : decode cX4_startAddress 128 = .ok (.istore 4, 2) := by decide +kernel
theorem dX4_startAddress_130 : decode cX4_startAddress 130 = .ok (.iload 4, 2) := by decide +kernel
theorem dX4_startAddress_132 : decode cX4_startAddress 132 = .ok (.ifCond .eq 27, 3) := by decide +kernel
theorem dX4_startAddress_135 : decode cX4_startAddress 135 = .ok (.aload_n 0, 1) := by decide +kernel
theorem dX4_startAddress_136 : decode cX4_startAddress 136 = .ok (.getfield 31, 3) := by decide +kernel
theorem dX4_startAddress_139 : decode cX4_startAddress 139 = .ok (.aload_n 0, 1) := by decide +kernel
theorem dX4_startAddress_140 : decode cX4_startAddress 140 = .ok (.getfield 31, 3) := by decide +kernel
theorem dX4_startAddress_143 : decode cX4_startAddress 143 = .ok (.getfield 122, 3) := by decide +kernel
theorem dX4_startAddress_146 : decode cX4_startAddress 146 = .ok (.aload_n 0, 1) := by decide +kernel
theorem dX4_startAddress_147 : decode cX4_startAddress 147 = .ok (.getfield 16, 3) := by decide +kernel
theorem dX4_startAddress_150 : decode cX4_startAddress 150 = .ok (.iload 4, 2) := by decide +kernel
theorem dX4_startAddress_152 : decode cX4_startAddress 152 = .ok (.iaload, 1) := by decide +kernel
theorem dX4_startAddress_153 : decode cX4_startAddress 153 = .ok (.invokestatic 156, 3) := by decide +kernel
theorem dX4_startAddress_156 : decode cX4_startAddress 156 = .ok (.putfield 122, 3) := by decide +kernel
theorem dX4_startAddress_159 : decode cX4_startAddress 159 = .ok (.return_, 1) := by decide +kernel
theorem dX4_takeInterrupt_0 : decode cX4_takeInterrupt 0 = .ok (.aload_n 0, 1) := by decide +kernel
theorem dX4_takeInterrupt_1 : decode cX4_takeInterrupt 1 = .ok (.getfield 83, 3) := by decide +kernel
theorem dX4_takeInterrupt_4 : decode cX4_takeInterrupt 4 = .ok (.ifCond .ne 10, 3) := by decide +kernel
theorem dX4_takeInterrupt_7 : decode cX4_takeInterrupt 7 = .ok (.aload_n 0, 1) := by decide +kernel
theorem dX4_takeInterrupt_8 : decode cX4_takeInterrupt 8 = .ok (.getfield 86, 3) := by decide +kernel
theorem dX4_takeInterrupt_11 : decode cX4_takeInterrupt 11 = .ok (.ifCond .ne 5, 3) := by decide +kernel
theorem dX4_takeInterrupt_14 : decode cX4_takeInterrupt 14 = .ok (.iconst 0, 1) := by decide +kernel
theorem dX4_takeInterrupt_15 : decode cX4_takeInterrupt 15 = .ok (.ireturn, 1) := by decide +kernel
theorem dX4_takeInterrupt_16 : decode cX4_takeInterrupt 16 = .ok (.iconst 0, 1) := by decide +kernel
theorem dX4_takeInterrupt_17 : decode cX4_takeInterrupt 17 = .ok (.istore_n 1, 1) := by decide +kernel
theorem dX4_takeInterrupt_18 : decode cX4_takeInterrupt 18 = .ok (.iload_n 1, 1) := by decide +kernel
theorem dX4_takeInterrupt_19 : decode cX4_takeInterrupt 19 = .ok (.iconst 3, 1) := by decide +kernel
theorem dX4_takeInterrupt_20 : decode cX4_takeInterrupt 20 = .ok (.if_icmp .ge 20, 3) := by decide +kernel
theorem dX4_takeInterrupt_23 : decode cX4_takeInterrupt 23 = .ok (.aload_n 0, 1) := by decide +kernel
theorem dX4_takeInterrupt_24 : decode cX4_takeInterrupt 24 = .ok (.getfield 86, 3) := by decide +kernel
theorem dX4_takeInterrupt_27 : decode cX4_takeInterrupt 27 = .ok (.iconst 1, 1) := by decide +kernel
theorem dX4_takeInterrupt_28 : decode cX4_takeInterrupt 28 = .ok (.iload_n 1, 1) := by decide +kernel
theorem dX4_takeInterrupt_29 : decode cX4_takeInterrupt 29 = .ok (.ishl, 1) := by decide +kernel
theorem dX4_takeInterrupt_30 : decode cX4_takeInterrupt 30 = .ok (.iand, 1) := by decide +kernel
theorem dX4_takeInterrupt_31 : decode cX4_takeInterrupt 31 = .ok (.ifCond .ne 9, 3) := by decide +kernel
theorem dX4_takeInterrupt_34 : decode cX4_takeInterrupt 34 = .ok (.iinc 1 1, 3) := by decide +kernel
theorem dX4_takeInterrupt_37 : decode cX4_takeInterrupt 37 = .ok (.goto (-19), 3) := by decide +kernel
theorem dX4_takeInterrupt_40 : decode cX4_takeInterrupt 40 = .ok (.aload_n 0, 1) := by decide +kernel
theorem dX4_takeInterrupt_41 : decode cX4_takeInterrupt 41 = .ok (.dup, 1) := by decide +kernel
theorem dX4_takeInterrupt_42 : decode cX4_takeInterrupt 42 = .ok (.getfield 86, 3) := by decide +kernel
theorem dX4_takeInterrupt_45 : decode cX4_takeInterrupt 45 = .ok (.iconst 1, 1) := by decide +kernel
theorem dX4_takeInterrupt_46 : decode cX4_takeInterrupt 46 = .ok (.iload_n 1, 1) := by decide +kernel
theorem dX4_takeInterrupt_47 : decode cX4_takeInterrupt 47 = .ok (.ishl, 1) := by decide +kernel
theorem dX4_takeInterrupt_48 : decode cX4_takeInterrupt 48 = .ok (.iconst (-1), 1) := by decide +kernel
theorem dX4_takeInterrupt_49 : decode cX4_takeInterrupt 49 = .ok (.ixor, 1) := by decide +kernel
theorem dX4_takeInterrupt_50 : decode cX4_takeInterrupt 50 = .ok (.iand, 1) := by decide +kernel
theorem dX4_takeInterrupt_51 : decode cX4_takeInterrupt 51 = .ok (.putfield 86, 3) := by decide +kernel
theorem dX4_takeInterrupt_54 : decode cX4_takeInterrupt 54 = .ok (.bipush 8, 2) := by decide +kernel
theorem dX4_takeInterrupt_56 : decode cX4_takeInterrupt 56 = .ok (.iload_n 1, 1) := by decide +kernel
theorem dX4_takeInterrupt_57 : decode cX4_takeInterrupt 57 = .ok (.iadd, 1) := by decide +kernel
theorem dX4_takeInterrupt_58 : decode cX4_takeInterrupt 58 = .ok (.ireturn, 1) := by decide +kernel
theorem dX4_enter_0 : decode cX4_enter 0 = .ok (.iload_n 1, 1) := by decide +kernel
theorem dX4_enter_1 : decode cX4_enter 1 = .ok (.iconst 4, 1) := by decide +kernel
theorem dX4_enter_2 : decode cX4_enter 2 = .ok (.if_icmp .gt 10, 3) := by decide +kernel
theorem dX4_enter_5 : decode cX4_enter 5 = .ok (.aload_n 0, 1) := by decide +kernel
theorem dX4_enter_6 : decode cX4_enter 6 = .ok (.getfield 31, 3) := by decide +kernel
theorem dX4_enter_9 : decode cX4_enter 9 = .ok (.goto 7, 3) := by decide +kernel
theorem dX4_enter_12 : decode cX4_enter 12 = .ok (.aload_n 0, 1) := by decide +kernel
theorem dX4_enter_13 : decode cX4_enter 13 = .ok (.getfield 27, 3) := by decide +kernel
theorem dX4_enter_16 : decode cX4_enter 16 = .ok (.astore_n 2, 1) := by decide +kernel
theorem dX4_enter_17 : decode cX4_enter 17 = .ok (.aload_n 0, 1) := by decide +kernel
theorem dX4_enter_18 : decode cX4_enter 18 = .ok (.iload_n 1, 1) := by decide +kernel
theorem dX4_enter_19 : decode cX4_enter 19 = .ok (.putfield 90, 3) := by decide +kernel
theorem dX4_enter_22 : decode cX4_enter 22 = .ok (.aload_n 0, 1) := by decide +kernel
theorem dX4_enter_23 : decode cX4_enter 23 = .ok (.aload_n 2, 1) := by decide +kernel
theorem dX4_enter_24 : decode cX4_enter 24 = .ok (.getfield 119, 3) := by decide +kernel
theorem dX4_enter_27 : decode cX4_enter 27 = .ok (.putfield 93, 3) := by decide +kernel
theorem dX4_enter_30 : decode cX4_enter 30 = .ok (.aload_n 0, 1) := by decide +kernel
theorem dX4_enter_31 : decode cX4_enter 31 = .ok (.aload_n 2, 1) := by decide +kernel
theorem dX4_enter_32 : decode cX4_enter 32 = .ok (.getfield 122, 3) := by decide +kernel
theorem dX4_enter_35 : decode cX4_enter 35 = .ok (.putfield 96, 3) := by decide +kernel
theorem dX4_enter_38 : decode cX4_enter 38 = .ok (.aload_n 0, 1) := by decide +kernel
theorem dX4_enter_39 : decode cX4_enter 39 = .ok (.getfield 83, 3) := by decide +kernel
theorem dX4_enter_42 : decode cX4_enter 42 = .ok (.ifCond .eq 9, 3) := by decide +kernel
theorem dX4_enter_45 : decode cX4_enter 45 = .ok (.aload_n 0, 1) := by decide +kernel
theorem dX4_enter_46 : decode cX4_enter 46 = .ok (.iconst 1, 1) := by decide +kernel
theorem dX4_enter_47 : decode cX4_enter 47 = .ok (.putfield 68, 3) := by decide +kernel
theorem dX4_enter_50 : decode cX4_enter 50 = .ok (.return_, 1) := by decide +kernel
theorem dX4_enter_51 : decode cX4_enter 51 = .ok (.aload_n 0, 1) := by decide +kernel
theorem dX4_enter_52 : decode cX4_enter 52 = .ok (.getfield 34, 3) := by decide +kernel
theorem dX4_enter_55 : decode cX4_enter 55 = .ok (.aload_n 0, 1) := by decide +kernel
theorem dX4_enter_56 : decode cX4_enter 56 = .ok (.getfield 27, 3) := by decide +kernel
theorem dX4_enter_59 : decode cX4_enter 59 = .ok (.invokevirtual 125, 3) := by decide +kernel
theorem dX4_enter_62 : decode cX4_enter 62 = .ok (.aload_n 0, 1) := by decide +kernel
theorem dX4_enter_63 : decode cX4_enter 63 = .ok (.iconst 1, 1) := by decide +kernel
theorem dX4_enter_64 : decode cX4_enter 64 = .ok (.putfield 99, 3) := by decide +kernel
theorem dX4_enter_67 : decode cX4_enter 67 = .ok (.aload_n 0, 1) := by decide +kernel
theorem dX4_enter_68 : decode cX4_enter 68 = .ok (.iconst 1, 1) := by decide +kernel
theorem dX4_enter_69 : decode cX4_enter 69 = .ok (.putfield 83, 3) := by decide +kernel
theorem dX4_enter_72 : decode cX4_enter 72 = .ok (.aload_n 0, 1) := by decide +kernel
theorem dX4_enter_73 : decode cX4_enter 73 = .ok (.getfield 27, 3) := by decide +kernel
theorem dX4_enter_76 : decode cX4_enter 76 = .ok (.iconst 0, 1) := by decide +kernel
theorem dX4_enter_77 : decode cX4_enter 77 = .ok (.putfield 119, 3) := by decide +kernel
theorem dX4_enter_80 : decode cX4_enter 80 = .ok (.aload_n 0, 1) := by decide +kernel
theorem dX4_enter_81 : decode cX4_enter 81 = .ok (.getfield 27, 3) := by decide +kernel
theorem dX4_enter_84 : decode cX4_enter 84 = .ok (.bipush 16, 2) := by decide +kernel
theorem dX4_enter_86 : decode cX4_enter 86 = .ok (.iload_n 1, 1) := by decide +kernel
theorem dX4_enter_87 : decode cX4_enter 87 = .ok (.iadd, 1) := by decide +kernel
theorem dX4_enter_88 : decode cX4_enter 88 = .ok (.putfield 122, 3) := by decide +kernel
theorem dX4_enter_91 : decode cX4_enter 91 = .ok (.aload_n 0, 1) := by decide +kernel
theorem dX4_enter_92 : decode cX4_enter 92 = .ok (.getfield 27, 3) := by decide +kernel
theorem dX4_enter_95 : decode cX4_enter 95 = .ok (.iconst 0, 1) := by decide +kernel
theorem dX4_enter_96 : decode cX4_enter 96 = .ok (.putfield 129, 3) := by decide +kernel
theorem dX4_enter_99 : decode cX4_enter 99 = .ok (.return_, 1) := by decide +kernel
theorem kw158 : Cond.constantLong RX4 154 536870912 ∈ gG := inG 464 (by decide +kernel) (by decide +kernel)
theorem kw159 : Cond.fieldLink RX4 86 RX4 "asked" "I" ∈ gG := inG 192 (by decide +kernel) (by decide +kernel)
theorem kw160 : Cond.fieldLink RX4 90 RX4 "latestFault" "I" ∈ gG := inG 189 (by decide +kernel) (by decide +kernel)
theorem kw161 : Cond.fieldLink RX4 93 RX4 "faultSegment" "I" ∈ gG := inG 190 (by decide +kernel) (by decide +kernel)
theorem kw162 : Cond.fieldLink RX4 96 RX4 "faultWord" "I" ∈ gG := inG 191 (by decide +kernel) (by decide +kernel)
theorem kw163 : Cond.fieldLink RX4 99 RX4 "hasSaved" "Z" ∈ gG := inG 186 (by decide +kernel) (by decide +kernel)
