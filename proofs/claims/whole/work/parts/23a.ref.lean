theorem dX5_indirect_0 : decode cX5_indirect 0 = .ok (.lload_n 1, 1) := by decide +kernel
theorem dX5_indirect_1 : decode cX5_indirect 1 = .ok (.bipush 33, 2) := by decide +kernel
theorem dX5_indirect_3 : decode cX5_indirect 3 = .ok (.iconst 3, 1) := by decide +kernel
theorem dX5_indirect_4 : decode cX5_indirect 4 = .ok (.invokestatic 89, 3) := by decide +kernel
theorem dX5_indirect_7 : decode cX5_indirect 7 = .ok (.istore_n 3, 1) := by decide +kernel
theorem dX5_indirect_8 : decode cX5_indirect 8 = .ok (.lload_n 1, 1) := by decide +kernel
theorem dX5_indirect_9 : decode cX5_indirect 9 = .ok (.bipush 18, 2) := by decide +kernel
theorem dX5_indirect_11 : decode cX5_indirect 11 = .ok (.iconst 2, 1) := by decide +kernel
theorem dX5_indirect_12 : decode cX5_indirect 12 = .ok (.invokestatic 89, 3) := by decide +kernel
theorem dX5_indirect_15 : decode cX5_indirect 15 = .ok (.istore 4, 2) := by decide +kernel
theorem dX5_indirect_17 : decode cX5_indirect 17 = .ok (.iload_n 3, 1) := by decide +kernel
theorem dX5_indirect_18 : decode cX5_indirect 18 = .ok (.iconst 1, 1) := by decide +kernel
theorem dX5_indirect_19 : decode cX5_indirect 19 = .ok (.if_icmp .ne 46, 3) := by decide +kernel
theorem dX5_indirect_22 : decode cX5_indirect 22 = .ok (.aload_n 0, 1) := by decide +kernel
theorem dX5_indirect_23 : decode cX5_indirect 23 = .ok (.lload_n 1, 1) := by decide +kernel
theorem dX5_indirect_24 : decode cX5_indirect 24 = .ok (.bipush 24, 2) := by decide +kernel
theorem dX5_indirect_26 : decode cX5_indirect 26 = .ok (.iconst 4, 1) := by decide +kernel
theorem dX5_indirect_27 : decode cX5_indirect 27 = .ok (.invokestatic 89, 3) := by decide +kernel
theorem dX5_indirect_30 : decode cX5_indirect 30 = .ok (.putfield 109, 3) := by decide +kernel
theorem dX5_indirect_33 : decode cX5_indirect 33 = .ok (.aload_n 0, 1) := by decide +kernel
theorem dX5_indirect_34 : decode cX5_indirect 34 = .ok (.lload_n 1, 1) := by decide +kernel
theorem dX5_indirect_35 : decode cX5_indirect 35 = .ok (.iconst 0, 1) := by decide +kernel
theorem dX5_indirect_36 : decode cX5_indirect 36 = .ok (.bipush 12, 2) := by decide +kernel
theorem dX5_indirect_38 : decode cX5_indirect 38 = .ok (.invokestatic 89, 3) := by decide +kernel
theorem dX5_indirect_41 : decode cX5_indirect 41 = .ok (.putfield 112, 3) := by decide +kernel
theorem dX5_indirect_44 : decode cX5_indirect 44 = .ok (.aload_n 0, 1) := by decide +kernel
theorem dX5_indirect_45 : decode cX5_indirect 45 = .ok (.aload_n 0, 1) := by decide +kernel
theorem dX5_indirect_46 : decode cX5_indirect 46 = .ok (.getfield 115, 3) := by decide +kernel
theorem dX5_indirect_49 : decode cX5_indirect 49 = .ok (.lload_n 1, 1) := by decide +kernel
theorem dX5_indirect_50 : decode cX5_indirect 50 = .ok (.bipush 21, 2) := by decide +kernel
theorem dX5_indirect_52 : decode cX5_indirect 52 = .ok (.iconst 3, 1) := by decide +kernel
theorem dX5_indirect_53 : decode cX5_indirect 53 = .ok (.invokestatic 89, 3) := by decide +kernel
theorem dX5_indirect_56 : decode cX5_indirect 56 = .ok (.invokestatic 125, 3) := by decide +kernel
theorem dX5_indirect_59 : decode cX5_indirect 59 = .ok (.putfield 115, 3) := by decide +kernel
theorem dX5_indirect_62 : decode cX5_indirect 62 = .ok (.goto 87, 3) := by decide +kernel
theorem dX5_indirect_65 : decode cX5_indirect 65 = .ok (.iload_n 3, 1) := by decide +kernel
theorem dX5_indirect_66 : decode cX5_indirect 66 = .ok (.iconst 2, 1) := by decide +kernel
theorem dX5_indirect_67 : decode cX5_indirect 67 = .ok (.if_icmp .ne 58, 3) := by decide +kernel
theorem dX5_indirect_70 : decode cX5_indirect 70 = .ok (.aload_n 0, 1) := by decide +kernel
theorem dX5_indirect_71 : decode cX5_indirect 71 = .ok (.aload_n 0, 1) := by decide +kernel
theorem dX5_indirect_72 : decode cX5_indirect 72 = .ok (.getfield 32, 3) := by decide +kernel
theorem dX5_indirect_75 : decode cX5_indirect 75 = .ok (.iload 4, 2) := by decide +kernel
theorem dX5_indirect_77 : decode cX5_indirect 77 = .ok (.iaload, 1) := by decide +kernel
theorem dX5_indirect_78 : decode cX5_indirect 78 = .ok (.putfield 109, 3) := by decide +kernel
theorem dX5_indirect_81 : decode cX5_indirect 81 = .ok (.aload_n 0, 1) := by decide +kernel
theorem dX5_indirect_82 : decode cX5_indirect 82 = .ok (.aload_n 0, 1) := by decide +kernel
theorem dX5_indirect_83 : decode cX5_indirect 83 = .ok (.getfield 35, 3) := by decide +kernel
theorem dX5_indirect_86 : decode cX5_indirect 86 = .ok (.iload 4, 2) := by decide +kernel
theorem dX5_indirect_88 : decode cX5_indirect 88 = .ok (.iaload, 1) := by decide +kernel
theorem dX5_indirect_89 : decode cX5_indirect 89 = .ok (.lload_n 1, 1) := by decide +kernel
theorem dX5_indirect_90 : decode cX5_indirect 90 = .ok (.iconst 0, 1) := by decide +kernel
theorem dX5_indirect_91 : decode cX5_indirect 91 = .ok (.bipush 12, 2) := by decide +kernel
theorem dX5_indirect_93 : decode cX5_indirect 93 = .ok (.invokestatic 89, 3) := by decide +kernel
theorem dX5_indirect_96 : decode cX5_indirect 96 = .ok (.iadd, 1) := by decide +kernel
theorem dX5_indirect_97 : decode cX5_indirect 97 = .ok (.sipush 4095, 3) := by decide +kernel
theorem dX5_indirect_100 : decode cX5_indirect 100 = .ok (.iand, 1) := by decide +kernel
theorem dX5_indirect_101 : decode cX5_indirect 101 = .ok (.putfield 112, 3) := by decide +kernel
theorem dX5_indirect_104 : decode cX5_indirect 104 = .ok (.aload_n 0, 1) := by decide +kernel
theorem dX5_indirect_105 : decode cX5_indirect 105 = .ok (.aload_n 0, 1) := by decide +kernel
theorem dX5_indirect_106 : decode cX5_indirect 106 = .ok (.getfield 115, 3) := by decide +kernel
theorem dX5_indirect_109 : decode cX5_indirect 109 = .ok (.aload_n 0, 1) := by decide +kernel
theorem dX5_indirect_110 : decode cX5_indirect 110 = .ok (.getfield 38, 3) := by decide +kernel
theorem dX5_indirect_113 : decode cX5_indirect 113 = .ok (.iload 4, 2) := by decide +kernel
theorem dX5_indirect_115 : decode cX5_indirect 115 = .ok (.iaload, 1) := by decide +kernel
theorem dX5_indirect_116 : decode cX5_indirect 116 = .ok (.invokestatic 125, 3) := by decide +kernel
theorem dX5_indirect_119 : decode cX5_indirect 119 = .ok (.putfield 115, 3) := by decide +kernel
theorem dX5_indirect_122 : decode cX5_indirect 122 = .ok (.goto 27, 3) := by decide +kernel
theorem dX5_indirect_125 : decode cX5_indirect 125 = .ok (.iload_n 3, 1) := by decide +kernel
theorem dX5_indirect_126 : decode cX5_indirect 126 = .ok (.ifCond .ne 17, 3) := by decide +kernel
theorem dX5_indirect_129 : decode cX5_indirect 129 = .ok (.aload_n 0, 1) := by decide +kernel
theorem dX5_indirect_130 : decode cX5_indirect 130 = .ok (.lload_n 1, 1) := by decide +kernel
theorem dX5_indirect_131 : decode cX5_indirect 131 = .ok (.iconst 0, 1) := by decide +kernel
theorem dX5_indirect_132 : decode cX5_indirect 132 = .ok (.bipush 12, 2) := by decide +kernel
theorem dX5_indirect_134 : decode cX5_indirect 134 = .ok (.invokestatic 89, 3) := by decide +kernel
theorem dX5_indirect_137 : decode cX5_indirect 137 = .ok (.putfield 112, 3) := by decide +kernel
theorem dX5_indirect_140 : decode cX5_indirect 140 = .ok (.goto 9, 3) := by decide +kernel
theorem dX5_indirect_143 : decode cX5_indirect 143 = .ok (.aload_n 0, 1) := by decide +kernel
theorem dX5_indirect_144 : decode cX5_indirect 144 = .ok (.bipush 6, 2) := by decide +kernel
theorem dX5_indirect_146 : decode cX5_indirect 146 = .ok (.invokevirtual 128, 3) := by decide +kernel
theorem dX5_indirect_149 : decode cX5_indirect 149 = .ok (.return_, 1) := by decide +kernel
theorem dX5_here_0 : decode cX5_here 0 = .ok (.aload_n 0, 1) := by decide +kernel
theorem dX5_here_1 : decode cX5_here 1 = .ok (.aload_n 0, 1) := by decide +kernel
theorem dX5_here_2 : decode cX5_here 2 = .ok (.getfield 109, 3) := by decide +kernel
theorem dX5_here_5 : decode cX5_here 5 = .ok (.aload_n 0, 1) := by decide +kernel
theorem dX5_here_6 : decode cX5_here 6 = .ok (.getfield 112, 3) := by decide +kernel
theorem dX5_here_9 : decode cX5_here 9 = .ok (.aload_n 0, 1) := by decide +kernel
theorem dX5_here_10 : decode cX5_here 10 = .ok (.getfield 115, 3) := by decide +kernel
theorem dX5_here_13 : decode cX5_here 13 = .ok (.invokevirtual 131, 3) := by decide +kernel
theorem dX5_here_16 : decode cX5_here 16 = .ok (.lreturn, 1) := by decide +kernel
theorem dX5_reckon_0 : decode cX5_reckon 0 = .ok (.aload_n 0, 1) := by decide +kernel
theorem dX5_reckon_1 : decode cX5_reckon 1 = .ok (.invokevirtual 138, 3) := by decide +kernel
theorem dX5_reckon_4 : decode cX5_reckon 4 = .ok (.lstore_n 2, 1) := by decide +kernel
theorem dX5_reckon_5 : decode cX5_reckon 5 = .ok (.aload_n 0, 1) := by decide +kernel
theorem dX5_reckon_6 : decode cX5_reckon 6 = .ok (.getfield 45, 3) := by decide +kernel
theorem dX5_reckon_9 : decode cX5_reckon 9 = .ok (.ifCond .le 4, 3) := by decide +kernel
theorem dX5_reckon_12 : decode cX5_reckon 12 = .ok (.return_, 1) := by decide +kernel
theorem dX5_reckon_13 : decode cX5_reckon 13 = .ok (.iload_n 1, 1) := by decide +kernel
theorem dX5_reckon_14 : decode cX5_reckon 14 = .ok (.tableswitch 144 1 8 #[46, 144, 54, 71, 88, 105, 118, 131], 46) := by decide +kernel
theorem dX5_reckon_60 : decode cX5_reckon 60 = .ok (.aload_n 0, 1) := by decide +kernel
theorem dX5_reckon_61 : decode cX5_reckon 61 = .ok (.lload_n 2, 1) := by decide +kernel
theorem dX5_reckon_62 : decode cX5_reckon 62 = .ok (.putfield 142, 3) := by decide +kernel
theorem dX5_reckon_65 : decode cX5_reckon 65 = .ok (.goto 98, 3) := by decide +kernel
theorem dX5_reckon_68 : decode cX5_reckon 68 = .ok (.aload_n 0, 1) := by decide +kernel
theorem dX5_reckon_69 : decode cX5_reckon 69 = .ok (.aload_n 0, 1) := by decide +kernel
theorem dX5_reckon_70 : decode cX5_reckon 70 = .ok (.getfield 142, 3) := by decide +kernel
theorem dX5_reckon_73 : decode cX5_reckon 73 = .ok (.lload_n 2, 1) := by decide +kernel
theorem dX5_reckon_74 : decode cX5_reckon 74 = .ok (.ladd, 1) := by decide +kernel
theorem dX5_reckon_75 : decode cX5_reckon 75 = .ok (.ldc2_w 120, 3) := by decide +kernel
theorem dX5_reckon_78 : decode cX5_reckon 78 = .ok (.land, 1) := by decide +kernel
theorem dX5_reckon_79 : decode cX5_reckon 79 = .ok (.putfield 142, 3) := by decide +kernel
theorem dX5_reckon_82 : decode cX5_reckon 82 = .ok (.goto 81, 3) := by decide +kernel
theorem dX5_reckon_85 : decode cX5_reckon 85 = .ok (.aload_n 0, 1) := by decide +kernel
theorem dX5_reckon_86 : decode cX5_reckon 86 = .ok (.aload_n 0, 1) := by decide +kernel
theorem dX5_reckon_87 : decode cX5_reckon 87 = .ok (.getfield 142, 3) := by decide +kernel
theorem dX5_reckon_90 : decode cX5_reckon 90 = .ok (.lload_n 2, 1) := by decide +kernel
theorem dX5_reckon_91 : decode cX5_reckon 91 = .ok (.lsub, 1) := by decide +kernel
theorem dX5_reckon_92 : decode cX5_reckon 92 = .ok (.ldc2_w 120, 3) := by decide +kernel
theorem dX5_reckon_95 : decode cX5_reckon 95 = .ok (.land, 1) := by decide +kernel
theorem dX5_reckon_96 : decode cX5_reckon 96 = .ok (.putfield 142, 3) := by decide +kernel
theorem dX5_reckon_99 : decode cX5_reckon 99 = .ok (.goto 64, 3) := by decide +kernel
theorem dX5_reckon_102 : decode cX5_reckon 102 = .ok (.aload_n 0, 1) := by decide +kernel
theorem dX5_reckon_103 : decode cX5_reckon 103 = .ok (.aload_n 0, 1) := by decide +kernel
theorem dX5_reckon_104 : decode cX5_reckon 104 = .ok (.getfield 142, 3) := by decide +kernel
theorem dX5_reckon_107 : decode cX5_reckon 107 = .ok (.lload_n 2, 1) := by decide +kernel
theorem dX5_reckon_108 : decode cX5_reckon 108 = .ok (.lmul, 1) := by decide +kernel
theorem dX5_reckon_109 : decode cX5_reckon 109 = .ok (.ldc2_w 120, 3) := by decide +kernel
theorem dX5_reckon_112 : decode cX5_reckon 112 = .ok (.land, 1) := by decide +kernel
theorem dX5_reckon_113 : decode cX5_reckon 113 = .ok (.putfield 142, 3) := by decide +kernel
theorem dX5_reckon_116 : decode cX5_reckon 116 = .ok (.goto 47, 3) := by decide +kernel
theorem dX5_reckon_119 : decode cX5_reckon 119 = .ok (.aload_n 0, 1) := by decide +kernel
theorem dX5_reckon_120 : decode cX5_reckon 120 = .ok (.aload_n 0, 1) := by decide +kernel
theorem dX5_reckon_121 : decode cX5_reckon 121 = .ok (.getfield 142, 3) := by decide +kernel
theorem dX5_reckon_124 : decode cX5_reckon 124 = .ok (.lload_n 2, 1) := by decide +kernel
theorem dX5_reckon_125 : decode cX5_reckon 125 = .ok (.land, 1) := by decide +kernel
theorem dX5_reckon_126 : decode cX5_reckon 126 = .ok (.putfield 142, 3) := by decide +kernel
theorem dX5_reckon_129 : decode cX5_reckon 129 = .ok (.goto 34, 3) := by decide +kernel
theorem dX5_reckon_132 : decode cX5_reckon 132 = .ok (.aload_n 0, 1) := by decide +kernel
theorem dX5_reckon_133 : decode cX5_reckon 133 = .ok (.aload_n 0, 1) := by decide +kernel
theorem dX5_reckon_134 : decode cX5_reckon 134 = .ok (.getfield 142, 3) := by decide +kernel
theorem dX5_reckon_137 : decode cX5_reckon 137 = .ok (.lload_n 2, 1) := by decide +kernel
theorem dX5_reckon_138 : decode cX5_reckon 138 = .ok (.lor, 1) := by decide +kernel
theorem dX5_reckon_139 : decode cX5_reckon 139 = .ok (.putfield 142, 3) := by decide +kernel
theorem dX5_reckon_142 : decode cX5_reckon 142 = .ok (.goto 21, 3) := by decide +kernel
theorem dX5_reckon_145 : decode cX5_reckon 145 = .ok (.aload_n 0, 1) := by decide +kernel
theorem dX5_reckon_146 : decode cX5_reckon 146 = .ok (.aload_n 0, 1) := by decide +kernel
theorem dX5_reckon_147 : decode cX5_reckon 147 = .ok (.getfield 142, 3) := by decide +kernel
theorem dX5_reckon_150 : decode cX5_reckon 150 = .ok (.lload_n 2, 1) := by decide +kernel
theorem dX5_reckon_151 : decode cX5_reckon 151 = .ok (.lxor, 1) := by decide +kernel
theorem dX5_reckon_152 : decode cX5_reckon 152 = .ok (.putfield 142, 3) := by decide +kernel
theorem dX5_reckon_155 : decode cX5_reckon 155 = .ok (.goto 8, 3) := by decide +kernel
theorem dX5_reckon_158 : decode cX5_reckon 158 = .ok (.aload_n 0, 1) := by decide +kernel
theorem dX5_reckon_159 : decode cX5_reckon 159 = .ok (.lload_n 2, 1) := by decide +kernel
theorem dX5_reckon_160 : decode cX5_reckon 160 = .ok (.putfield 145, 3) := by decide +kernel
theorem dX5_reckon_163 : decode cX5_reckon 163 = .ok (.return_, 1) := by decide +kernel
theorem dX5_jump_0 : decode cX5_jump 0 = .ok (.aload_n 0, 1) := by decide +kernel
theorem dX5_jump_1 : decode cX5_jump 1 = .ok (.getfield 115, 3) := by decide +kernel
theorem dX5_jump_4 : decode cX5_jump 4 = .ok (.aload_n 0, 1) := by decide +kernel
theorem dX5_jump_5 : decode cX5_jump 5 = .ok (.getfield 122, 3) := by decide +kernel
theorem dX5_jump_8 : decode cX5_jump 8 = .ok (.if_icmp .eq 9, 3) := by decide +kernel
theorem dX5_jump_11 : decode cX5_jump 11 = .ok (.aload_n 0, 1) := by decide +kernel
theorem dX5_jump_12 : decode cX5_jump 12 = .ok (.iconst 5, 1) := by decide +kernel
theorem dX5_jump_13 : decode cX5_jump 13 = .ok (.invokevirtual 128, 3) := by decide +kernel
theorem dX5_jump_16 : decode cX5_jump 16 = .ok (.return_, 1) := by decide +kernel
theorem dX5_jump_17 : decode cX5_jump 17 = .ok (.aload_n 0, 1) := by decide +kernel
theorem dX5_jump_18 : decode cX5_jump 18 = .ok (.aload_n 0, 1) := by decide +kernel
theorem dX5_jump_19 : decode cX5_jump 19 = .ok (.getfield 109, 3) := by decide +kernel
theorem dX5_jump_22 : decode cX5_jump 22 = .ok (.putfield 54, 3) := by decide +kernel
theorem dX5_jump_25 : decode cX5_jump 25 = .ok (.aload_n 0, 1) := by decide +kernel
theorem dX5_jump_26 : decode cX5_jump 26 = .ok (.aload_n 0, 1) := by decide +kernel
theorem dX5_jump_27 : decode cX5_jump 27 = .ok (.getfield 112, 3) := by decide +kernel
theorem dX5_jump_30 : decode cX5_jump 30 = .ok (.putfield 57, 3) := by decide +kernel
theorem dX5_jump_33 : decode cX5_jump 33 = .ok (.aload_n 0, 1) := by decide +kernel
theorem dX5_jump_34 : decode cX5_jump 34 = .ok (.iconst 1, 1) := by decide +kernel
theorem dX5_jump_35 : decode cX5_jump 35 = .ok (.putfield 148, 3) := by decide +kernel
theorem dX5_jump_38 : decode cX5_jump 38 = .ok (.return_, 1) := by decide +kernel
theorem dX5_call_0 : decode cX5_call 0 = .ok (.aload_n 0, 1) := by decide +kernel
theorem dX5_call_1 : decode cX5_call 1 = .ok (.aload_n 0, 1) := by decide +kernel
theorem dX5_call_2 : decode cX5_call 2 = .ok (.getfield 109, 3) := by decide +kernel
theorem dX5_call_5 : decode cX5_call 5 = .ok (.invokevirtual 93, 3) := by decide +kernel
theorem dX5_call_8 : decode cX5_call 8 = .ok (.aload_n 0, 1) := by decide +kernel
theorem dX5_call_9 : decode cX5_call 9 = .ok (.getfield 71, 3) := by decide +kernel
theorem dX5_call_12 : decode cX5_call 12 = .ok (.ldc2_w 78, 3) := by decide +kernel
theorem dX5_call_15 : decode cX5_call 15 = .ok (.land, 1) := by decide +kernel
theorem dX5_call_16 : decode cX5_call 16 = .ok (.lconst 0, 1) := by decide +kernel
theorem dX5_call_17 : decode cX5_call 17 = .ok (.lcmp, 1) := by decide +kernel
theorem dX5_call_18 : decode cX5_call 18 = .ok (.ifCond .ne 19, 3) := by decide +kernel
theorem dX5_call_21 : decode cX5_call 21 = .ok (.aload_n 0, 1) := by decide +kernel
theorem dX5_call_22 : decode cX5_call 22 = .ok (.iconst 1, 1) := by decide +kernel
theorem dX5_call_23 : decode cX5_call 23 = .ok (.aload_n 0, 1) := by decide +kernel
theorem dX5_call_24 : decode cX5_call 24 = .ok (.getfield 109, 3) := by decide +kernel
theorem dX5_call_27 : decode cX5_call 27 = .ok (.aload_n 0, 1) := by decide +kernel
theorem dX5_call_28 : decode cX5_call 28 = .ok (.getfield 112, 3) := by decide +kernel
theorem dX5_call_31 : decode cX5_call 31 = .ok (.invokevirtual 60, 3) := by decide +kernel
theorem dX5_call_34 : decode cX5_call 34 = .ok (.goto 29, 3) := by decide +kernel
theorem dX5_call_37 : decode cX5_call 37 = .ok (.aload_n 0, 1) := by decide +kernel
theorem dX5_call_38 : decode cX5_call 38 = .ok (.getfield 75, 3) := by decide +kernel
theorem dX5_call_41 : decode cX5_call 41 = .ok (.bipush 11, 2) := by decide +kernel
theorem dX5_call_43 : decode cX5_call 43 = .ok (.iconst 1, 1) := by decide +kernel
theorem dX5_call_44 : decode cX5_call 44 = .ok (.invokestatic 89, 3) := by decide +kernel
theorem dX5_call_47 : decode cX5_call 47 = .ok (.ifCond .ne 16, 3) := by decide +kernel
theorem dX5_call_50 : decode cX5_call 50 = .ok (.aload_n 0, 1) := by decide +kernel
theorem dX5_call_51 : decode cX5_call 51 = .ok (.iconst 4, 1) := by decide +kernel
theorem dX5_call_52 : decode cX5_call 52 = .ok (.aload_n 0, 1) := by decide +kernel
theorem dX5_call_53 : decode cX5_call 53 = .ok (.getfield 109, 3) := by decide +kernel
theorem dX5_call_56 : decode cX5_call 56 = .ok (.aload_n 0, 1) := by decide +kernel
theorem dX5_call_57 : decode cX5_call 57 = .ok (.getfield 112, 3) := by decide +kernel
theorem dX5_call_60 : decode cX5_call 60 = .ok (.invokevirtual 60, 3) := by decide +kernel
theorem dX5_call_63 : decode cX5_call 63 = .ok (.aload_n 0, 1) := by decide +kernel
theorem dX5_call_64 : decode cX5_call 64 = .ok (.getfield 45, 3) := by decide +kernel
theorem dX5_call_67 : decode cX5_call 67 = .ok (.ifCond .le 4, 3) := by decide +kernel
theorem dX5_call_70 : decode cX5_call 70 = .ok (.return_, 1) := by decide +kernel
theorem dX5_call_71 : decode cX5_call 71 = .ok (.aload_n 0, 1) := by decide +kernel
theorem dX5_call_72 : decode cX5_call 72 = .ok (.getfield 75, 3) := by decide +kernel
theorem dX5_call_75 : decode cX5_call 75 = .ok (.iconst 0, 1) := by decide +kernel
theorem dX5_call_76 : decode cX5_call 76 = .ok (.iconst 3, 1) := by decide +kernel
theorem dX5_call_77 : decode cX5_call 77 = .ok (.invokestatic 89, 3) := by decide +kernel
theorem dX5_call_80 : decode cX5_call 80 = .ok (.istore_n 1, 1) := by decide +kernel
theorem dX5_call_81 : decode cX5_call 81 = .ok (.aload_n 0, 1) := by decide +kernel
theorem dX5_call_82 : decode cX5_call 82 = .ok (.getfield 75, 3) := by decide +kernel
theorem dX5_call_85 : decode cX5_call 85 = .ok (.iconst 3, 1) := by decide +kernel
theorem dX5_call_86 : decode cX5_call 86 = .ok (.iconst 3, 1) := by decide +kernel
theorem dX5_call_87 : decode cX5_call 87 = .ok (.invokestatic 89, 3) := by decide +kernel
theorem dX5_call_90 : decode cX5_call 90 = .ok (.istore_n 2, 1) := by decide +kernel
theorem dX5_call_91 : decode cX5_call 91 = .ok (.aload_n 0, 1) := by decide +kernel
theorem dX5_call_92 : decode cX5_call 92 = .ok (.getfield 75, 3) := by decide +kernel
theorem dX5_call_95 : decode cX5_call 95 = .ok (.bipush 6, 2) := by decide +kernel
theorem dX5_call_97 : decode cX5_call 97 = .ok (.iconst 3, 1) := by decide +kernel
theorem dX5_call_98 : decode cX5_call 98 = .ok (.invokestatic 89, 3) := by decide +kernel
theorem dX5_call_101 : decode cX5_call 101 = .ok (.istore_n 3, 1) := by decide +kernel
theorem dX5_call_102 : decode cX5_call 102 = .ok (.aload_n 0, 1) := by decide +kernel
theorem dX5_call_103 : decode cX5_call 103 = .ok (.getfield 115, 3) := by decide +kernel
theorem dX5_call_106 : decode cX5_call 106 = .ok (.iload_n 1, 1) := by decide +kernel
theorem dX5_call_107 : decode cX5_call 107 = .ok (.if_icmp .lt 15, 3) := by decide +kernel
theorem dX5_call_110 : decode cX5_call 110 = .ok (.aload_n 0, 1) := by decide +kernel
theorem dX5_call_111 : decode cX5_call 111 = .ok (.getfield 115, 3) := by decide +kernel
theorem dX5_call_114 : decode cX5_call 114 = .ok (.iload_n 2, 1) := by decide +kernel
theorem dX5_call_115 : decode cX5_call 115 = .ok (.if_icmp .gt 7, 3) := by decide +kernel
theorem dX5_call_118 : decode cX5_call 118 = .ok (.iconst 1, 1) := by decide +kernel
theorem dX5_call_119 : decode cX5_call 119 = .ok (.goto 4, 3) := by decide +kernel
theorem dX5_call_122 : decode cX5_call 122 = .ok (.iconst 0, 1) := by decide +kernel
theorem dX5_call_123 : decode cX5_call 123 = .ok (.istore 4, 2) := by decide +kernel
theorem dX5_call_125 : decode cX5_call 125 = .ok (.aload_n 0, 1) := by decide +kernel
theorem dX5_call_126 : decode cX5_call 126 = .ok (.getfield 115, 3) := by decide +kernel
theorem dX5_call_129 : decode cX5_call 129 = .ok (.iload_n 2, 1) := by decide +kernel
theorem dX5_call_130 : decode cX5_call 130 = .ok (.if_icmp .le 33, 3) := by decide +kernel
theorem dX5_call_133 : decode cX5_call 133 = .ok (.aload_n 0, 1) := by decide +kernel
theorem dX5_call_134 : decode cX5_call 134 = .ok (.getfield 115, 3) := by decide +kernel
theorem dX5_call_137 : decode cX5_call 137 = .ok (.iload_n 3, 1) := by decide +kernel
theorem dX5_call_138 : decode cX5_call 138 = .ok (.if_icmp .gt 25, 3) := by decide +kernel
theorem dX5_call_141 : decode cX5_call 141 = .ok (.aload_n 0, 1) := by decide +kernel
theorem dX5_call_142 : decode cX5_call 142 = .ok (.getfield 112, 3) := by decide +kernel
theorem dX5_call_145 : decode cX5_call 145 = .ok (.aload_n 0, 1) := by decide +kernel
theorem dX5_call_146 : decode cX5_call 146 = .ok (.getfield 75, 3) := by decide +kernel
theorem dX5_call_149 : decode cX5_call 149 = .ok (.bipush 12, 2) := by decide +kernel
theorem dX5_call_151 : decode cX5_call 151 = .ok (.bipush 12, 2) := by decide +kernel
theorem dX5_call_153 : decode cX5_call 153 = .ok (.invokestatic 89, 3) := by decide +kernel
theorem dX5_call_156 : decode cX5_call 156 = .ok (.if_icmp .ge 7, 3) := by decide +kernel
theorem dX5_call_159 : decode cX5_call 159 = .ok (.iconst 1, 1) := by decide +kernel
theorem dX5_call_160 : decode cX5_call 160 = .ok (.goto 4, 3) := by decide +kernel
theorem dX5_call_163 : decode cX5_call 163 = .ok (.iconst 0, 1) := by decide +kernel
theorem dX5_call_164 : decode cX5_call 164 = .ok (.istore 5, 2) := by decide +kernel
theorem dX5_call_166 : decode cX5_call 166 = .ok (.iload 4, 2) := by decide +kernel
theorem dX5_call_168 : decode cX5_call 168 = .ok (.ifCond .ne 14, 3) := by decide +kernel
theorem dX5_call_171 : decode cX5_call 171 = .ok (.iload 5, 2) := by decide +kernel
theorem dX5_call_173 : decode cX5_call 173 = .ok (.ifCond .ne 9, 3) := by decide +kernel
theorem dX5_call_176 : decode cX5_call 176 = .ok (.aload_n 0, 1) := by decide +kernel
theorem dX5_call_177 : decode cX5_call 177 = .ok (.iconst 5, 1) := by decide +kernel
theorem dX5_call_178 : decode cX5_call 178 = .ok (.invokevirtual 128, 3) := by decide +kernel
theorem dX5_call_181 : decode cX5_call 181 = .ok (.return_, 1) := by decide +kernel
theorem dX5_call_182 : decode cX5_call 182 = .ok (.aload_n 0, 1) := by decide +kernel
theorem dX5_call_183 : decode cX5_call 183 = .ok (.getfield 32, 3) := by decide +kernel
theorem dX5_call_186 : decode cX5_call 186 = .ok (.iconst 0, 1) := by decide +kernel
theorem dX5_call_187 : decode cX5_call 187 = .ok (.aload_n 0, 1) := by decide +kernel
theorem dX5_call_188 : decode cX5_call 188 = .ok (.getfield 54, 3) := by decide +kernel
theorem dX5_call_191 : decode cX5_call 191 = .ok (.iastore, 1) := by decide +kernel
theorem dX5_call_192 : decode cX5_call 192 = .ok (.aload_n 0, 1) := by decide +kernel
theorem dX5_call_193 : decode cX5_call 193 = .ok (.getfield 35, 3) := by decide +kernel
theorem dX5_call_196 : decode cX5_call 196 = .ok (.iconst 0, 1) := by decide +kernel
theorem dX5_call_197 : decode cX5_call 197 = .ok (.aload_n 0, 1) := by decide +kernel
theorem dX5_call_198 : decode cX5_call 198 = .ok (.getfield 57, 3) := by decide +kernel
theorem dX5_call_201 : decode cX5_call 201 = .ok (.iconst 1, 1) := by decide +kernel
theorem dX5_call_202 : decode cX5_call 202 = .ok (.iadd, 1) := by decide +kernel
theorem dX5_call_203 : decode cX5_call 203 = .ok (.sipush 4095, 3) := by decide +kernel
theorem dX5_call_206 : decode cX5_call 206 = .ok (.iand, 1) := by decide +kernel
theorem dX5_call_207 : decode cX5_call 207 = .ok (.iastore, 1) := by decide +kernel
theorem dX5_call_208 : decode cX5_call 208 = .ok (.aload_n 0, 1) := by decide +kernel
theorem dX5_call_209 : decode cX5_call 209 = .ok (.getfield 38, 3) := by decide +kernel
theorem dX5_call_212 : decode cX5_call 212 = .ok (.iconst 0, 1) := by decide +kernel
theorem dX5_call_213 : decode cX5_call 213 = .ok (.aload_n 0, 1) := by decide +kernel
theorem dX5_call_214 : decode cX5_call 214 = .ok (.getfield 122, 3) := by decide +kernel
theorem dX5_call_217 : decode cX5_call 217 = .ok (.iastore, 1) := by decide +kernel
theorem dX5_call_218 : decode cX5_call 218 = .ok (.aload_n 0, 1) := by decide +kernel
theorem dX5_call_219 : decode cX5_call 219 = .ok (.iload 4, 2) := by decide +kernel
theorem dX5_call_221 : decode cX5_call 221 = .ok (.ifCond .eq 10, 3) := by decide +kernel
theorem dX5_call_224 : decode cX5_call 224 = .ok (.aload_n 0, 1) := by decide +kernel
theorem dX5_call_225 : decode cX5_call 225 = .ok (.getfield 115, 3) := by decide +kernel
theorem dX5_call_228 : decode cX5_call 228 = .ok (.goto 4, 3) := by decide +kernel
theorem dX5_call_231 : decode cX5_call 231 = .ok (.iload_n 2, 1) := by decide +kernel
theorem dX5_call_232 : decode cX5_call 232 = .ok (.putfield 122, 3) := by decide +kernel
theorem dX5_call_235 : decode cX5_call 235 = .ok (.aload_n 0, 1) := by decide +kernel
theorem dX5_call_236 : decode cX5_call 236 = .ok (.aload_n 0, 1) := by decide +kernel
theorem dX5_call_237 : decode cX5_call 237 = .ok (.getfield 109, 3) := by decide +kernel
theorem dX5_call_240 : decode cX5_call 240 = .ok (.putfield 54, 3) := by decide +kernel
theorem dX5_call_243 : decode cX5_call 243 = .ok (.aload_n 0, 1) := by decide +kernel
theorem dX5_call_244 : decode cX5_call 244 = .ok (.aload_n 0, 1) := by decide +kernel
theorem dX5_call_245 : decode cX5_call 245 = .ok (.getfield 112, 3) := by decide +kernel
theorem dX5_call_248 : decode cX5_call 248 = .ok (.putfield 57, 3) := by decide +kernel
theorem dX5_call_251 : decode cX5_call 251 = .ok (.aload_n 0, 1) := by decide +kernel
theorem dX5_call_252 : decode cX5_call 252 = .ok (.iconst 1, 1) := by decide +kernel
theorem dX5_call_253 : decode cX5_call 253 = .ok (.putfield 148, 3) := by decide +kernel
theorem dX5_call_256 : decode cX5_call 256 = .ok (.return_, 1) := by decide +kernel
theorem dX5_back_0 : decode cX5_back 0 = .ok (.aload_n 0, 1) := by decide +kernel
theorem dX5_back_1 : decode cX5_back 1 = .ok (.invokevirtual 138, 3) := by decide +kernel
theorem dX5_back_4 : decode cX5_back 4 = .ok (.lstore_n 1, 1) := by decide +kernel
theorem dX5_back_5 : decode cX5_back 5 = .ok (.aload_n 0, 1) := by decide +kernel
theorem dX5_back_6 : decode cX5_back 6 = .ok (.getfield 45, 3) := by decide +kernel
theorem dX5_back_9 : decode cX5_back 9 = .ok (.ifCond .ne 20, 3) := by decide +kernel
theorem dX5_back_12 : decode cX5_back 12 = .ok (.lload_n 1, 1) := by decide +kernel
theorem dX5_back_13 : decode cX5_back 13 = .ok (.bipush 33, 2) := by decide +kernel
theorem dX5_back_15 : decode cX5_back 15 = .ok (.iconst 3, 1) := by decide +kernel
theorem dX5_back_16 : decode cX5_back 16 = .ok (.invokestatic 89, 3) := by decide +kernel
theorem dX5_back_19 : decode cX5_back 19 = .ok (.iconst 1, 1) := by decide +kernel
theorem dX5_back_20 : decode cX5_back 20 = .ok (.if_icmp .eq 9, 3) := by decide +kernel
theorem dX5_back_23 : decode cX5_back 23 = .ok (.aload_n 0, 1) := by decide +kernel
theorem dX5_back_24 : decode cX5_back 24 = .ok (.bipush 6, 2) := by decide +kernel
theorem dX5_back_26 : decode cX5_back 26 = .ok (.invokevirtual 128, 3) := by decide +kernel
theorem dX5_back_29 : decode cX5_back 29 = .ok (.aload_n 0, 1) := by decide +kernel
theorem dX5_back_30 : decode cX5_back 30 = .ok (.getfield 45, 3) := by decide +kernel
theorem dX5_back_33 : decode cX5_back 33 = .ok (.ifCond .le 4, 3) := by decide +kernel
theorem dX5_back_36 : decode cX5_back 36 = .ok (.return_, 1) := by decide +kernel
theorem dX5_back_37 : decode cX5_back 37 = .ok (.aload_n 0, 1) := by decide +kernel
theorem dX5_back_38 : decode cX5_back 38 = .ok (.lload_n 1, 1) := by decide +kernel
theorem dX5_back_39 : decode cX5_back 39 = .ok (.bipush 24, 2) := by decide +kernel
theorem dX5_back_41 : decode cX5_back 41 = .ok (.iconst 4, 1) := by decide +kernel
theorem dX5_back_42 : decode cX5_back 42 = .ok (.invokestatic 89, 3) := by decide +kernel
theorem dX5_back_45 : decode cX5_back 45 = .ok (.putfield 54, 3) := by decide +kernel
theorem dX5_back_48 : decode cX5_back 48 = .ok (.aload_n 0, 1) := by decide +kernel
theorem dX5_back_49 : decode cX5_back 49 = .ok (.lload_n 1, 1) := by decide +kernel
theorem dX5_back_50 : decode cX5_back 50 = .ok (.iconst 0, 1) := by decide +kernel
theorem dX5_back_51 : decode cX5_back 51 = .ok (.bipush 12, 2) := by decide +kernel
theorem dX5_back_53 : decode cX5_back 53 = .ok (.invokestatic 89, 3) := by decide +kernel
theorem dX5_back_56 : decode cX5_back 56 = .ok (.putfield 57, 3) := by decide +kernel
theorem dX5_back_59 : decode cX5_back 59 = .ok (.aload_n 0, 1) := by decide +kernel
theorem dX5_back_60 : decode cX5_back 60 = .ok (.aload_n 0, 1) := by decide +kernel
theorem dX5_back_61 : decode cX5_back 61 = .ok (.getfield 122, 3) := by decide +kernel
theorem dX5_back_64 : decode cX5_back 64 = .ok (.aload_n 0, 1) := by decide +kernel
theorem dX5_back_65 : decode cX5_back 65 = .ok (.getfield 115, 3) := by decide +kernel
theorem dX5_back_68 : decode cX5_back 68 = .ok (.invokestatic 125, 3) := by decide +kernel
theorem dX5_back_71 : decode cX5_back 71 = .ok (.lload_n 1, 1) := by decide +kernel
theorem dX5_back_72 : decode cX5_back 72 = .ok (.bipush 21, 2) := by decide +kernel
theorem dX5_back_74 : decode cX5_back 74 = .ok (.iconst 3, 1) := by decide +kernel
theorem dX5_back_75 : decode cX5_back 75 = .ok (.invokestatic 89, 3) := by decide +kernel
theorem dX5_back_78 : decode cX5_back 78 = .ok (.invokestatic 125, 3) := by decide +kernel
theorem dX5_back_81 : decode cX5_back 81 = .ok (.putfield 122, 3) := by decide +kernel
theorem dX5_back_84 : decode cX5_back 84 = .ok (.aload_n 0, 1) := by decide +kernel
theorem dX5_back_85 : decode cX5_back 85 = .ok (.iconst 1, 1) := by decide +kernel
theorem dX5_back_86 : decode cX5_back 86 = .ok (.putfield 148, 3) := by decide +kernel
theorem dX5_back_89 : decode cX5_back 89 = .ok (.return_, 1) := by decide +kernel
theorem dX5_system_0 : decode cX5_system 0 = .ok (.aload_n 0, 1) := by decide +kernel
theorem dX5_system_1 : decode cX5_system 1 = .ok (.getfield 122, 3) := by decide +kernel
theorem dX5_system_4 : decode cX5_system 4 = .ok (.ifCond .le 12, 3) := by decide +kernel
theorem dX5_system_7 : decode cX5_system 7 = .ok (.aload_n 0, 1) := by decide +kernel
theorem dX5_system_8 : decode cX5_system 8 = .ok (.bipush 7, 2) := by decide +kernel
theorem dX5_system_10 : decode cX5_system 10 = .ok (.invokevirtual 128, 3) := by decide +kernel
theorem dX5_system_13 : decode cX5_system 13 = .ok (.goto 22, 3) := by decide +kernel
theorem dX5_system_16 : decode cX5_system 16 = .ok (.iload_n 1, 1) := by decide +kernel
theorem dX5_system_17 : decode cX5_system 17 = .ok (.bipush 37, 2) := by decide +kernel
theorem dX5_system_19 : decode cX5_system 19 = .ok (.if_icmp .ne 16, 3) := by decide +kernel
theorem dX5_system_22 : decode cX5_system 22 = .ok (.aload_n 0, 1) := by decide +kernel
theorem dX5_system_23 : decode cX5_system 23 = .ok (.getfield 152, 3) := by decide +kernel
theorem dX5_system_26 : decode cX5_system 26 = .ok (.ifCond .ne 9, 3) := by decide +kernel
theorem dX5_system_29 : decode cX5_system 29 = .ok (.aload_n 0, 1) := by decide +kernel
theorem dX5_system_30 : decode cX5_system 30 = .ok (.bipush 6, 2) := by decide +kernel
theorem dX5_system_32 : decode cX5_system 32 = .ok (.invokevirtual 128, 3) := by decide +kernel
theorem dX5_system_35 : decode cX5_system 35 = .ok (.aload_n 0, 1) := by decide +kernel
theorem dX5_system_36 : decode cX5_system 36 = .ok (.getfield 45, 3) := by decide +kernel
theorem dX5_system_39 : decode cX5_system 39 = .ok (.ifCond .le 4, 3) := by decide +kernel
theorem dX5_system_42 : decode cX5_system 42 = .ok (.return_, 1) := by decide +kernel
theorem dX5_system_43 : decode cX5_system 43 = .ok (.iload_n 1, 1) := by decide +kernel
theorem dX5_system_44 : decode cX5_system 44 = .ok (.bipush 36, 2) := by decide +kernel
theorem dX5_system_46 : decode cX5_system 46 = .ok (.if_icmp .ne 16, 3) := by decide +kernel
theorem dX5_system_49 : decode cX5_system 49 = .ok (.aload_n 0, 1) := by decide +kernel
theorem dX5_system_50 : decode cX5_system 50 = .ok (.iconst 0, 1) := by decide +kernel
theorem dX5_system_51 : decode cX5_system 51 = .ok (.putfield 64, 3) := by decide +kernel
theorem dX5_system_54 : decode cX5_system 54 = .ok (.aload_n 0, 1) := by decide +kernel
theorem dX5_system_55 : decode cX5_system 55 = .ok (.iconst 0, 1) := by decide +kernel
theorem dX5_system_56 : decode cX5_system 56 = .ok (.putfield 80, 3) := by decide +kernel
theorem dX5_system_59 : decode cX5_system 59 = .ok (.goto 51, 3) := by decide +kernel
theorem dX5_system_62 : decode cX5_system 62 = .ok (.iload_n 1, 1) := by decide +kernel
theorem dX5_system_63 : decode cX5_system 63 = .ok (.bipush 38, 2) := by decide +kernel
theorem dX5_system_65 : decode cX5_system 65 = .ok (.if_icmp .ne 11, 3) := by decide +kernel
theorem dX5_system_68 : decode cX5_system 68 = .ok (.aload_n 0, 1) := by decide +kernel
theorem dX5_system_69 : decode cX5_system 69 = .ok (.iconst 1, 1) := by decide +kernel
theorem dX5_system_70 : decode cX5_system 70 = .ok (.putfield 155, 3) := by decide +kernel
theorem dX5_system_73 : decode cX5_system 73 = .ok (.goto 37, 3) := by decide +kernel
theorem dX5_system_76 : decode cX5_system 76 = .ok (.aload_n 0, 1) := by decide +kernel
theorem dX5_system_77 : decode cX5_system 77 = .ok (.aload_n 0, 1) := by decide +kernel
theorem dX5_system_78 : decode cX5_system 78 = .ok (.getfield 158, 3) := by decide +kernel
theorem dX5_system_81 : decode cX5_system 81 = .ok (.putfield 54, 3) := by decide +kernel
theorem dX5_system_84 : decode cX5_system 84 = .ok (.aload_n 0, 1) := by decide +kernel
theorem dX5_system_85 : decode cX5_system 85 = .ok (.aload_n 0, 1) := by decide +kernel
theorem dX5_system_86 : decode cX5_system 86 = .ok (.getfield 161, 3) := by decide +kernel
theorem dX5_system_89 : decode cX5_system 89 = .ok (.putfield 57, 3) := by decide +kernel
theorem dX5_system_92 : decode cX5_system 92 = .ok (.aload_n 0, 1) := by decide +kernel
theorem dX5_system_93 : decode cX5_system 93 = .ok (.aload_n 0, 1) := by decide +kernel
theorem dX5_system_94 : decode cX5_system 94 = .ok (.getfield 164, 3) := by decide +kernel
theorem dX5_system_97 : decode cX5_system 97 = .ok (.putfield 122, 3) := by decide +kernel
theorem dX5_system_100 : decode cX5_system 100 = .ok (.aload_n 0, 1) := by decide +kernel
theorem dX5_system_101 : decode cX5_system 101 = .ok (.iconst 0, 1) := by decide +kernel
theorem dX5_system_102 : decode cX5_system 102 = .ok (.putfield 152, 3) := by decide +kernel
theorem dX5_system_105 : decode cX5_system 105 = .ok (.aload_n 0, 1) := by decide +kernel
theorem dX5_system_106 : decode cX5_system 106 = .ok (.iconst 1, 1) := by decide +kernel
theorem dX5_system_107 : decode cX5_system 107 = .ok (.putfield 148, 3) := by decide +kernel
theorem dX5_system_110 : decode cX5_system 110 = .ok (.return_, 1) := by decide +kernel
theorem kw289 : Cond.code yX5_wrongHere cX5_wrongHere 2 none ∈ gG := inG 722 (by decide +kernel) (by decide +kernel)
theorem kw290 : Cond.methodLink RX5 128 yX5_wrongHere ∈ gG := inG 719 (by decide +kernel) (by decide +kernel)
theorem kw291 : Cond.instanceMethod yX5_wrongHere ∈ gG := inG 721 (by decide +kernel) (by decide +kernel)
theorem kw292 : Cond.selects RX5 yX5_wrongHere yX5_wrongHere ∈ gG := inG 31 (by decide +kernel) (by decide +kernel)
theorem kw293 : Cond.fieldLink RX5 32 RX5 "segment" "[I" ∈ gG := inG 563 (by decide +kernel) (by decide +kernel)
theorem kw294 : Cond.fieldLink RX5 35 RX5 "word" "[I" ∈ gG := inG 564 (by decide +kernel) (by decide +kernel)
theorem kw295 : Cond.fieldLink RX5 38 RX5 "rings" "[I" ∈ gG := inG 565 (by decide +kernel) (by decide +kernel)
theorem kw296 : Cond.code yX5_greater cX5_greater 2 (some .int) ∈ gG := inG 729 (by decide +kernel) (by decide +kernel)
theorem kw297 : Cond.methodLink RX5 125 yX5_greater ∈ gG := inG 727 (by decide +kernel) (by decide +kernel)
theorem kw298 : Cond.static yX5_greater ∈ gG := inG 728 (by decide +kernel) (by decide +kernel)
theorem kw299 : Cond.code yX5_read cX5_read 5 (some .long) ∈ gG := inG 733 (by decide +kernel) (by decide +kernel)
theorem kw300 : Cond.methodLink RX5 131 yX5_read ∈ gG := inG 730 (by decide +kernel) (by decide +kernel)
theorem kw301 : Cond.instanceMethod yX5_read ∈ gG := inG 732 (by decide +kernel) (by decide +kernel)
theorem kw302 : Cond.selects RX5 yX5_read yX5_read ∈ gG := inG 33 (by decide +kernel) (by decide +kernel)
theorem kw303 : Cond.code yX5_here cX5_here 1 (some .long) ∈ gG := inG 749 (by decide +kernel) (by decide +kernel)
theorem kw304 : Cond.methodLink RX5 138 yX5_here ∈ gG := inG 746 (by decide +kernel) (by decide +kernel)
theorem kw305 : Cond.instanceMethod yX5_here ∈ gG := inG 748 (by decide +kernel) (by decide +kernel)
theorem kw306 : Cond.selects RX5 yX5_here yX5_here ∈ gG := inG 37 (by decide +kernel) (by decide +kernel)
theorem kw307 : Cond.fieldLink RX5 142 RX5 "a" "J" ∈ gG := inG 560 (by decide +kernel) (by decide +kernel)
theorem kw308 : Cond.fieldLink RX5 145 RX5 "q" "J" ∈ gG := inG 561 (by decide +kernel) (by decide +kernel)
theorem kw309 : Cond.fieldLink RX5 122 RX5 "ring" "I" ∈ gG := inG 568 (by decide +kernel) (by decide +kernel)
theorem kw310 : Cond.fieldLink RX5 148 RX5 "jumped" "Z" ∈ gG := inG 587 (by decide +kernel) (by decide +kernel)
theorem kw311 : Cond.fieldLink RX5 158 RX5 "savedSegment" "I" ∈ gG := inG 573 (by decide +kernel) (by decide +kernel)
theorem kw312 : Cond.fieldLink RX5 161 RX5 "savedWord" "I" ∈ gG := inG 574 (by decide +kernel) (by decide +kernel)
theorem kw313 : Cond.fieldLink RX5 164 RX5 "savedRing" "I" ∈ gG := inG 575 (by decide +kernel) (by decide +kernel)
theorem kw314 : Cond.fieldLink RX5 152 RX5 "handles" "Z" ∈ gG := inG 569 (by decide +kernel) (by decide +kernel)
theorem kw315 : Cond.fieldLink RX5 155 RX5 "stopped" "Z" ∈ gG := inG 570 (by decide +kernel) (by decide +kernel)
theorem hdX5_wrongHere : yX5_wrongHere.cls ≠ "java/lang/invoke/MethodHandle" ∧ yX5_wrongHere.cls ≠ "java/lang/invoke/VarHandle" ∧ (parseMethodDescriptor yX5_wrongHere.desc).map (fun d => d.parameters.length) = some 1 := by decide +kernel
theorem hdX5_greater : yX5_greater.cls ≠ "java/lang/invoke/MethodHandle" ∧ yX5_greater.cls ≠ "java/lang/invoke/VarHandle" ∧ (parseMethodDescriptor yX5_greater.desc).map (fun d => d.parameters.length) = some 2 := by decide +kernel
theorem hdX5_read : yX5_read.cls ≠ "java/lang/invoke/MethodHandle" ∧ yX5_read.cls ≠ "java/lang/invoke/VarHandle" ∧ (parseMethodDescriptor yX5_read.desc).map (fun d => d.parameters.length) = some 3 := by decide +kernel
theorem hdX5_here : yX5_here.cls ≠ "java/lang/invoke/MethodHandle" ∧ yX5_here.cls ≠ "java/lang/invoke/VarHandle" ∧ (parseMethodDescriptor yX5_here.desc).map (fun d => d.parameters.length) = some 0 := by decide +kernel
