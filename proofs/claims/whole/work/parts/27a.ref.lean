theorem dX5_run_0 : decode cX5_run 0 = .ok (.aload_n 0, 1) := by decide +kernel
theorem dX5_run_1 : decode cX5_run 1 = .ok (.iload_n 1, 1) := by decide +kernel
theorem dX5_run_2 : decode cX5_run 2 = .ok (.ifCond .lt 9, 3) := by decide +kernel
theorem dX5_run_5 : decode cX5_run 5 = .ok (.iload_n 1, 1) := by decide +kernel
theorem dX5_run_6 : decode cX5_run 6 = .ok (.bipush 100, 2) := by decide +kernel
theorem dX5_run_8 : decode cX5_run 8 = .ok (.if_icmp .le 7, 3) := by decide +kernel
theorem dX5_run_11 : decode cX5_run 11 = .ok (.iconst 1, 1) := by decide +kernel
theorem dX5_run_12 : decode cX5_run 12 = .ok (.goto 4, 3) := by decide +kernel
theorem dX5_run_15 : decode cX5_run 15 = .ok (.iconst 0, 1) := by decide +kernel
theorem dX5_run_16 : decode cX5_run 16 = .ok (.putfield 41, 3) := by decide +kernel
theorem dX5_run_19 : decode cX5_run 19 = .ok (.iconst 0, 1) := by decide +kernel
theorem dX5_run_20 : decode cX5_run 20 = .ok (.istore_n 2, 1) := by decide +kernel
theorem dX5_run_21 : decode cX5_run 21 = .ok (.aload_n 0, 1) := by decide +kernel
theorem dX5_run_22 : decode cX5_run 22 = .ok (.getfield 41, 3) := by decide +kernel
theorem dX5_run_25 : decode cX5_run 25 = .ok (.ifCond .ne 25, 3) := by decide +kernel
theorem dX5_run_28 : decode cX5_run 28 = .ok (.iload_n 2, 1) := by decide +kernel
theorem dX5_run_29 : decode cX5_run 29 = .ok (.iload_n 1, 1) := by decide +kernel
theorem dX5_run_30 : decode cX5_run 30 = .ok (.if_icmp .ge 20, 3) := by decide +kernel
theorem dX5_run_33 : decode cX5_run 33 = .ok (.aload_n 0, 1) := by decide +kernel
theorem dX5_run_34 : decode cX5_run 34 = .ok (.getfield 155, 3) := by decide +kernel
theorem dX5_run_37 : decode cX5_run 37 = .ok (.ifCond .ne 13, 3) := by decide +kernel
theorem dX5_run_40 : decode cX5_run 40 = .ok (.aload_n 0, 1) := by decide +kernel
theorem dX5_run_41 : decode cX5_run 41 = .ok (.invokevirtual 212, 3) := by decide +kernel
theorem dX5_run_44 : decode cX5_run 44 = .ok (.iinc 2 1, 3) := by decide +kernel
theorem dX5_run_47 : decode cX5_run 47 = .ok (.goto (-26), 3) := by decide +kernel
theorem dX5_run_50 : decode cX5_run 50 = .ok (.iload_n 2, 1) := by decide +kernel
theorem dX5_run_51 : decode cX5_run 51 = .ok (.ireturn, 1) := by decide +kernel
theorem dX5_poke_0 : decode cX5_poke 0 = .ok (.aload_n 0, 1) := by decide +kernel
theorem dX5_poke_1 : decode cX5_poke 1 = .ok (.iload_n 1, 1) := by decide +kernel
theorem dX5_poke_2 : decode cX5_poke 2 = .ok (.ifCond .lt 10, 3) := by decide +kernel
theorem dX5_poke_5 : decode cX5_poke 5 = .ok (.iload_n 1, 1) := by decide +kernel
theorem dX5_poke_6 : decode cX5_poke 6 = .ok (.sipush 4095, 3) := by decide +kernel
theorem dX5_poke_9 : decode cX5_poke 9 = .ok (.if_icmp .le 7, 3) := by decide +kernel
theorem dX5_poke_12 : decode cX5_poke 12 = .ok (.iconst 1, 1) := by decide +kernel
theorem dX5_poke_13 : decode cX5_poke 13 = .ok (.goto 4, 3) := by decide +kernel
theorem dX5_poke_16 : decode cX5_poke 16 = .ok (.iconst 0, 1) := by decide +kernel
theorem dX5_poke_17 : decode cX5_poke 17 = .ok (.putfield 41, 3) := by decide +kernel
theorem dX5_poke_20 : decode cX5_poke 20 = .ok (.aload_n 0, 1) := by decide +kernel
theorem dX5_poke_21 : decode cX5_poke 21 = .ok (.getfield 41, 3) := by decide +kernel
theorem dX5_poke_24 : decode cX5_poke 24 = .ok (.ifCond .ne 14, 3) := by decide +kernel
theorem dX5_poke_27 : decode cX5_poke 27 = .ok (.aload_n 0, 1) := by decide +kernel
theorem dX5_poke_28 : decode cX5_poke 28 = .ok (.getfield 7, 3) := by decide +kernel
theorem dX5_poke_31 : decode cX5_poke 31 = .ok (.iload_n 1, 1) := by decide +kernel
theorem dX5_poke_32 : decode cX5_poke 32 = .ok (.lload_n 2, 1) := by decide +kernel
theorem dX5_poke_33 : decode cX5_poke 33 = .ok (.ldc2_w 120, 3) := by decide +kernel
theorem dX5_poke_36 : decode cX5_poke 36 = .ok (.land, 1) := by decide +kernel
theorem dX5_poke_37 : decode cX5_poke 37 = .ok (.lastore, 1) := by decide +kernel
theorem dX5_poke_38 : decode cX5_poke 38 = .ok (.return_, 1) := by decide +kernel
theorem dX5_peek_0 : decode cX5_peek 0 = .ok (.aload_n 0, 1) := by decide +kernel
theorem dX5_peek_1 : decode cX5_peek 1 = .ok (.iload_n 1, 1) := by decide +kernel
theorem dX5_peek_2 : decode cX5_peek 2 = .ok (.ifCond .lt 10, 3) := by decide +kernel
theorem dX5_peek_5 : decode cX5_peek 5 = .ok (.iload_n 1, 1) := by decide +kernel
theorem dX5_peek_6 : decode cX5_peek 6 = .ok (.sipush 4095, 3) := by decide +kernel
theorem dX5_peek_9 : decode cX5_peek 9 = .ok (.if_icmp .le 7, 3) := by decide +kernel
theorem dX5_peek_12 : decode cX5_peek 12 = .ok (.iconst 1, 1) := by decide +kernel
theorem dX5_peek_13 : decode cX5_peek 13 = .ok (.goto 4, 3) := by decide +kernel
theorem dX5_peek_16 : decode cX5_peek 16 = .ok (.iconst 0, 1) := by decide +kernel
theorem dX5_peek_17 : decode cX5_peek 17 = .ok (.putfield 41, 3) := by decide +kernel
theorem dX5_peek_20 : decode cX5_peek 20 = .ok (.aload_n 0, 1) := by decide +kernel
theorem dX5_peek_21 : decode cX5_peek 21 = .ok (.getfield 41, 3) := by decide +kernel
theorem dX5_peek_24 : decode cX5_peek 24 = .ok (.ifCond .ne 12, 3) := by decide +kernel
theorem dX5_peek_27 : decode cX5_peek 27 = .ok (.aload_n 0, 1) := by decide +kernel
theorem dX5_peek_28 : decode cX5_peek 28 = .ok (.getfield 7, 3) := by decide +kernel
theorem dX5_peek_31 : decode cX5_peek 31 = .ok (.iload_n 1, 1) := by decide +kernel
theorem dX5_peek_32 : decode cX5_peek 32 = .ok (.laload, 1) := by decide +kernel
theorem dX5_peek_33 : decode cX5_peek 33 = .ok (.goto 4, 3) := by decide +kernel
theorem dX5_peek_36 : decode cX5_peek 36 = .ok (.lconst 0, 1) := by decide +kernel
theorem dX5_peek_37 : decode cX5_peek 37 = .ok (.lreturn, 1) := by decide +kernel
theorem dX5_set_0 : decode cX5_set 0 = .ok (.aload_n 0, 1) := by decide +kernel
theorem dX5_set_1 : decode cX5_set 1 = .ok (.iload_n 1, 1) := by decide +kernel
theorem dX5_set_2 : decode cX5_set 2 = .ok (.ifCond .lt 9, 3) := by decide +kernel
theorem dX5_set_5 : decode cX5_set 5 = .ok (.iload_n 1, 1) := by decide +kernel
theorem dX5_set_6 : decode cX5_set 6 = .ok (.bipush 10, 2) := by decide +kernel
theorem dX5_set_8 : decode cX5_set 8 = .ok (.if_icmp .le 7, 3) := by decide +kernel
theorem dX5_set_11 : decode cX5_set 11 = .ok (.iconst 1, 1) := by decide +kernel
theorem dX5_set_12 : decode cX5_set 12 = .ok (.goto 4, 3) := by decide +kernel
theorem dX5_set_15 : decode cX5_set 15 = .ok (.iconst 0, 1) := by decide +kernel
theorem dX5_set_16 : decode cX5_set 16 = .ok (.putfield 41, 3) := by decide +kernel
theorem dX5_set_19 : decode cX5_set 19 = .ok (.aload_n 0, 1) := by decide +kernel
theorem dX5_set_20 : decode cX5_set 20 = .ok (.getfield 41, 3) := by decide +kernel
theorem dX5_set_23 : decode cX5_set 23 = .ok (.ifCond .le 4, 3) := by decide +kernel
theorem dX5_set_26 : decode cX5_set 26 = .ok (.return_, 1) := by decide +kernel
theorem dX5_set_27 : decode cX5_set 27 = .ok (.iload_n 1, 1) := by decide +kernel
theorem dX5_set_28 : decode cX5_set 28 = .ok (.ifCond .ne 15, 3) := by decide +kernel
theorem dX5_set_31 : decode cX5_set 31 = .ok (.aload_n 0, 1) := by decide +kernel
theorem dX5_set_32 : decode cX5_set 32 = .ok (.lload_n 2, 1) := by decide +kernel
theorem dX5_set_33 : decode cX5_set 33 = .ok (.ldc2_w 120, 3) := by decide +kernel
theorem dX5_set_36 : decode cX5_set 36 = .ok (.land, 1) := by decide +kernel
theorem dX5_set_37 : decode cX5_set 37 = .ok (.putfield 142, 3) := by decide +kernel
theorem dX5_set_40 : decode cX5_set 40 = .ok (.goto 133, 3) := by decide +kernel
theorem dX5_set_43 : decode cX5_set 43 = .ok (.iload_n 1, 1) := by decide +kernel
theorem dX5_set_44 : decode cX5_set 44 = .ok (.iconst 1, 1) := by decide +kernel
theorem dX5_set_45 : decode cX5_set 45 = .ok (.if_icmp .ne 15, 3) := by decide +kernel
theorem dX5_set_48 : decode cX5_set 48 = .ok (.aload_n 0, 1) := by decide +kernel
theorem dX5_set_49 : decode cX5_set 49 = .ok (.lload_n 2, 1) := by decide +kernel
theorem dX5_set_50 : decode cX5_set 50 = .ok (.ldc2_w 120, 3) := by decide +kernel
theorem dX5_set_53 : decode cX5_set 53 = .ok (.land, 1) := by decide +kernel
theorem dX5_set_54 : decode cX5_set 54 = .ok (.putfield 145, 3) := by decide +kernel
theorem dX5_set_57 : decode cX5_set 57 = .ok (.goto 116, 3) := by decide +kernel
theorem dX5_set_60 : decode cX5_set 60 = .ok (.iload_n 1, 1) := by decide +kernel
theorem dX5_set_61 : decode cX5_set 61 = .ok (.bipush 6, 2) := by decide +kernel
theorem dX5_set_63 : decode cX5_set 63 = .ok (.if_icmp .ge 20, 3) := by decide +kernel
theorem dX5_set_66 : decode cX5_set 66 = .ok (.aload_n 0, 1) := by decide +kernel
theorem dX5_set_67 : decode cX5_set 67 = .ok (.getfield 29, 3) := by decide +kernel
theorem dX5_set_70 : decode cX5_set 70 = .ok (.iload_n 1, 1) := by decide +kernel
theorem dX5_set_71 : decode cX5_set 71 = .ok (.iconst 2, 1) := by decide +kernel
theorem dX5_set_72 : decode cX5_set 72 = .ok (.isub, 1) := by decide +kernel
theorem dX5_set_73 : decode cX5_set 73 = .ok (.lload_n 2, 1) := by decide +kernel
theorem dX5_set_74 : decode cX5_set 74 = .ok (.l2i, 1) := by decide +kernel
theorem dX5_set_75 : decode cX5_set 75 = .ok (.sipush 4095, 3) := by decide +kernel
theorem dX5_set_78 : decode cX5_set 78 = .ok (.iand, 1) := by decide +kernel
theorem dX5_set_79 : decode cX5_set 79 = .ok (.iastore, 1) := by decide +kernel
theorem dX5_set_80 : decode cX5_set 80 = .ok (.goto 93, 3) := by decide +kernel
theorem dX5_set_83 : decode cX5_set 83 = .ok (.iload_n 1, 1) := by decide +kernel
theorem dX5_set_84 : decode cX5_set 84 = .ok (.bipush 10, 2) := by decide +kernel
theorem dX5_set_86 : decode cX5_set 86 = .ok (.if_icmp .ge 54, 3) := by decide +kernel
theorem dX5_set_89 : decode cX5_set 89 = .ok (.aload_n 0, 1) := by decide +kernel
theorem dX5_set_90 : decode cX5_set 90 = .ok (.getfield 32, 3) := by decide +kernel
theorem dX5_set_93 : decode cX5_set 93 = .ok (.iload_n 1, 1) := by decide +kernel
theorem dX5_set_94 : decode cX5_set 94 = .ok (.bipush 6, 2) := by decide +kernel
theorem dX5_set_96 : decode cX5_set 96 = .ok (.isub, 1) := by decide +kernel
theorem dX5_set_97 : decode cX5_set 97 = .ok (.lload_n 2, 1) := by decide +kernel
theorem dX5_set_98 : decode cX5_set 98 = .ok (.bipush 24, 2) := by decide +kernel
theorem dX5_set_100 : decode cX5_set 100 = .ok (.iconst 4, 1) := by decide +kernel
theorem dX5_set_101 : decode cX5_set 101 = .ok (.invokestatic 89, 3) := by decide +kernel
theorem dX5_set_104 : decode cX5_set 104 = .ok (.iastore, 1) := by decide +kernel
theorem dX5_set_105 : decode cX5_set 105 = .ok (.aload_n 0, 1) := by decide +kernel
theorem dX5_set_106 : decode cX5_set 106 = .ok (.getfield 35, 3) := by decide +kernel
theorem dX5_set_109 : decode cX5_set 109 = .ok (.iload_n 1, 1) := by decide +kernel
theorem dX5_set_110 : decode cX5_set 110 = .ok (.bipush 6, 2) := by decide +kernel
theorem dX5_set_112 : decode cX5_set 112 = .ok (.isub, 1) := by decide +kernel
theorem dX5_set_113 : decode cX5_set 113 = .ok (.lload_n 2, 1) := by decide +kernel
theorem dX5_set_114 : decode cX5_set 114 = .ok (.iconst 0, 1) := by decide +kernel
theorem dX5_set_115 : decode cX5_set 115 = .ok (.bipush 12, 2) := by decide +kernel
theorem dX5_set_117 : decode cX5_set 117 = .ok (.invokestatic 89, 3) := by decide +kernel
theorem dX5_set_120 : decode cX5_set 120 = .ok (.iastore, 1) := by decide +kernel
theorem dX5_set_121 : decode cX5_set 121 = .ok (.aload_n 0, 1) := by decide +kernel
theorem dX5_set_122 : decode cX5_set 122 = .ok (.getfield 38, 3) := by decide +kernel
theorem dX5_set_125 : decode cX5_set 125 = .ok (.iload_n 1, 1) := by decide +kernel
theorem dX5_set_126 : decode cX5_set 126 = .ok (.bipush 6, 2) := by decide +kernel
theorem dX5_set_128 : decode cX5_set 128 = .ok (.isub, 1) := by decide +kernel
theorem dX5_set_129 : decode cX5_set 129 = .ok (.lload_n 2, 1) := by decide +kernel
theorem dX5_set_130 : decode cX5_set 130 = .ok (.bipush 21, 2) := by decide +kernel
theorem dX5_set_132 : decode cX5_set 132 = .ok (.iconst 3, 1) := by decide +kernel
theorem dX5_set_133 : decode cX5_set 133 = .ok (.invokestatic 89, 3) := by decide +kernel
theorem dX5_set_136 : decode cX5_set 136 = .ok (.iastore, 1) := by decide +kernel
theorem dX5_set_137 : decode cX5_set 137 = .ok (.goto 36, 3) := by decide +kernel
theorem dX5_set_140 : decode cX5_set 140 = .ok (.aload_n 0, 1) := by decide +kernel
theorem dX5_set_141 : decode cX5_set 141 = .ok (.lload_n 2, 1) := by decide +kernel
theorem dX5_set_142 : decode cX5_set 142 = .ok (.bipush 24, 2) := by decide +kernel
theorem dX5_set_144 : decode cX5_set 144 = .ok (.iconst 4, 1) := by decide +kernel
theorem dX5_set_145 : decode cX5_set 145 = .ok (.invokestatic 89, 3) := by decide +kernel
theorem dX5_set_148 : decode cX5_set 148 = .ok (.putfield 54, 3) := by decide +kernel
theorem dX5_set_151 : decode cX5_set 151 = .ok (.aload_n 0, 1) := by decide +kernel
theorem dX5_set_152 : decode cX5_set 152 = .ok (.lload_n 2, 1) := by decide +kernel
theorem dX5_set_153 : decode cX5_set 153 = .ok (.iconst 0, 1) := by decide +kernel
theorem dX5_set_154 : decode cX5_set 154 = .ok (.bipush 12, 2) := by decide +kernel
theorem dX5_set_156 : decode cX5_set 156 = .ok (.invokestatic 89, 3) := by decide +kernel
theorem dX5_set_159 : decode cX5_set 159 = .ok (.putfield 57, 3) := by decide +kernel
theorem dX5_set_162 : decode cX5_set 162 = .ok (.aload_n 0, 1) := by decide +kernel
theorem dX5_set_163 : decode cX5_set 163 = .ok (.lload_n 2, 1) := by decide +kernel
theorem dX5_set_164 : decode cX5_set 164 = .ok (.bipush 21, 2) := by decide +kernel
theorem dX5_set_166 : decode cX5_set 166 = .ok (.iconst 3, 1) := by decide +kernel
theorem dX5_set_167 : decode cX5_set 167 = .ok (.invokestatic 89, 3) := by decide +kernel
theorem dX5_set_170 : decode cX5_set 170 = .ok (.putfield 122, 3) := by decide +kernel
theorem dX5_set_173 : decode cX5_set 173 = .ok (.return_, 1) := by decide +kernel
theorem dX5_get_0 : decode cX5_get 0 = .ok (.aload_n 0, 1) := by decide +kernel
theorem dX5_get_1 : decode cX5_get 1 = .ok (.iload_n 1, 1) := by decide +kernel
theorem dX5_get_2 : decode cX5_get 2 = .ok (.ifCond .lt 9, 3) := by decide +kernel
theorem dX5_get_5 : decode cX5_get 5 = .ok (.iload_n 1, 1) := by decide +kernel
theorem dX5_get_6 : decode cX5_get 6 = .ok (.bipush 10, 2) := by decide +kernel
theorem dX5_get_8 : decode cX5_get 8 = .ok (.if_icmp .le 7, 3) := by decide +kernel
theorem dX5_get_11 : decode cX5_get 11 = .ok (.iconst 1, 1) := by decide +kernel
theorem dX5_get_12 : decode cX5_get 12 = .ok (.goto 4, 3) := by decide +kernel
theorem dX5_get_15 : decode cX5_get 15 = .ok (.iconst 0, 1) := by decide +kernel
theorem dX5_get_16 : decode cX5_get 16 = .ok (.putfield 41, 3) := by decide +kernel
theorem dX5_get_19 : decode cX5_get 19 = .ok (.aload_n 0, 1) := by decide +kernel
theorem dX5_get_20 : decode cX5_get 20 = .ok (.getfield 41, 3) := by decide +kernel
theorem dX5_get_23 : decode cX5_get 23 = .ok (.ifCond .le 5, 3) := by decide +kernel
theorem dX5_get_26 : decode cX5_get 26 = .ok (.lconst 0, 1) := by decide +kernel
theorem dX5_get_27 : decode cX5_get 27 = .ok (.lreturn, 1) := by decide +kernel
theorem dX5_get_28 : decode cX5_get 28 = .ok (.iload_n 1, 1) := by decide +kernel
theorem dX5_get_29 : decode cX5_get 29 = .ok (.iconst 2, 1) := by decide +kernel
theorem dX5_get_30 : decode cX5_get 30 = .ok (.if_icmp .ge 19, 3) := by decide +kernel
theorem dX5_get_33 : decode cX5_get 33 = .ok (.iload_n 1, 1) := by decide +kernel
theorem dX5_get_34 : decode cX5_get 34 = .ok (.ifCond .ne 10, 3) := by decide +kernel
theorem dX5_get_37 : decode cX5_get 37 = .ok (.aload_n 0, 1) := by decide +kernel
theorem dX5_get_38 : decode cX5_get 38 = .ok (.getfield 142, 3) := by decide +kernel
theorem dX5_get_41 : decode cX5_get 41 = .ok (.goto 7, 3) := by decide +kernel
theorem dX5_get_44 : decode cX5_get 44 = .ok (.aload_n 0, 1) := by decide +kernel
theorem dX5_get_45 : decode cX5_get 45 = .ok (.getfield 145, 3) := by decide +kernel
theorem dX5_get_48 : decode cX5_get 48 = .ok (.lreturn, 1) := by decide +kernel
theorem dX5_get_49 : decode cX5_get 49 = .ok (.iload_n 1, 1) := by decide +kernel
theorem dX5_get_50 : decode cX5_get 50 = .ok (.bipush 6, 2) := by decide +kernel
theorem dX5_get_52 : decode cX5_get 52 = .ok (.if_icmp .ge 13, 3) := by decide +kernel
theorem dX5_get_55 : decode cX5_get 55 = .ok (.aload_n 0, 1) := by decide +kernel
theorem dX5_get_56 : decode cX5_get 56 = .ok (.getfield 29, 3) := by decide +kernel
theorem dX5_get_59 : decode cX5_get 59 = .ok (.iload_n 1, 1) := by decide +kernel
theorem dX5_get_60 : decode cX5_get 60 = .ok (.iconst 2, 1) := by decide +kernel
theorem dX5_get_61 : decode cX5_get 61 = .ok (.isub, 1) := by decide +kernel
theorem dX5_get_62 : decode cX5_get 62 = .ok (.iaload, 1) := by decide +kernel
theorem dX5_get_63 : decode cX5_get 63 = .ok (.i2l, 1) := by decide +kernel
theorem dX5_get_64 : decode cX5_get 64 = .ok (.lreturn, 1) := by decide +kernel
theorem dX5_get_65 : decode cX5_get 65 = .ok (.iload_n 1, 1) := by decide +kernel
theorem dX5_get_66 : decode cX5_get 66 = .ok (.bipush 10, 2) := by decide +kernel
theorem dX5_get_68 : decode cX5_get 68 = .ok (.if_icmp .ge 36, 3) := by decide +kernel
theorem dX5_get_71 : decode cX5_get 71 = .ok (.aload_n 0, 1) := by decide +kernel
theorem dX5_get_72 : decode cX5_get 72 = .ok (.getfield 32, 3) := by decide +kernel
theorem dX5_get_75 : decode cX5_get 75 = .ok (.iload_n 1, 1) := by decide +kernel
theorem dX5_get_76 : decode cX5_get 76 = .ok (.bipush 6, 2) := by decide +kernel
theorem dX5_get_78 : decode cX5_get 78 = .ok (.isub, 1) := by decide +kernel
theorem dX5_get_79 : decode cX5_get 79 = .ok (.iaload, 1) := by decide +kernel
theorem dX5_get_80 : decode cX5_get 80 = .ok (.aload_n 0, 1) := by decide +kernel
theorem dX5_get_81 : decode cX5_get 81 = .ok (.getfield 35, 3) := by decide +kernel
theorem dX5_get_84 : decode cX5_get 84 = .ok (.iload_n 1, 1) := by decide +kernel
theorem dX5_get_85 : decode cX5_get 85 = .ok (.bipush 6, 2) := by decide +kernel
theorem dX5_get_87 : decode cX5_get 87 = .ok (.isub, 1) := by decide +kernel
theorem dX5_get_88 : decode cX5_get 88 = .ok (.iaload, 1) := by decide +kernel
theorem dX5_get_89 : decode cX5_get 89 = .ok (.aload_n 0, 1) := by decide +kernel
theorem dX5_get_90 : decode cX5_get 90 = .ok (.getfield 38, 3) := by decide +kernel
theorem dX5_get_93 : decode cX5_get 93 = .ok (.iload_n 1, 1) := by decide +kernel
theorem dX5_get_94 : decode cX5_get 94 = .ok (.bipush 6, 2) := by decide +kernel
theorem dX5_get_96 : decode cX5_get 96 = .ok (.isub, 1) := by decide +kernel
theorem dX5_get_97 : decode cX5_get 97 = .ok (.iaload, 1) := by decide +kernel
theorem dX5_get_98 : decode cX5_get 98 = .ok (.invokestatic 176, 3) := by decide +kernel
theorem dX5_get_101 : decode cX5_get 101 = .ok (.goto 18, 3) := by decide +kernel
theorem dX5_get_104 : decode cX5_get 104 = .ok (.aload_n 0, 1) := by decide +kernel
theorem dX5_get_105 : decode cX5_get 105 = .ok (.getfield 54, 3) := by decide +kernel
theorem dX5_get_108 : decode cX5_get 108 = .ok (.aload_n 0, 1) := by decide +kernel
theorem dX5_get_109 : decode cX5_get 109 = .ok (.getfield 57, 3) := by decide +kernel
theorem dX5_get_112 : decode cX5_get 112 = .ok (.aload_n 0, 1) := by decide +kernel
theorem dX5_get_113 : decode cX5_get 113 = .ok (.getfield 122, 3) := by decide +kernel
theorem dX5_get_116 : decode cX5_get 116 = .ok (.invokestatic 176, 3) := by decide +kernel
theorem dX5_get_119 : decode cX5_get 119 = .ok (.lreturn, 1) := by decide +kernel
theorem dX5_go_0 : decode cX5_go 0 = .ok (.aload_n 0, 1) := by decide +kernel
theorem dX5_go_1 : decode cX5_go 1 = .ok (.iconst 0, 1) := by decide +kernel
theorem dX5_go_2 : decode cX5_go 2 = .ok (.putfield 41, 3) := by decide +kernel
theorem dX5_go_5 : decode cX5_go 5 = .ok (.aload_n 0, 1) := by decide +kernel
theorem dX5_go_6 : decode cX5_go 6 = .ok (.iconst 0, 1) := by decide +kernel
theorem dX5_go_7 : decode cX5_go 7 = .ok (.putfield 155, 3) := by decide +kernel
theorem dX5_go_10 : decode cX5_go 10 = .ok (.aload_n 0, 1) := by decide +kernel
theorem dX5_go_11 : decode cX5_go 11 = .ok (.iconst 0, 1) := by decide +kernel
theorem dX5_go_12 : decode cX5_go 12 = .ok (.putfield 152, 3) := by decide +kernel
theorem dX5_go_15 : decode cX5_go 15 = .ok (.return_, 1) := by decide +kernel
theorem dX5_interrupt_0 : decode cX5_interrupt 0 = .ok (.aload_n 0, 1) := by decide +kernel
theorem dX5_interrupt_1 : decode cX5_interrupt 1 = .ok (.iload_n 1, 1) := by decide +kernel
theorem dX5_interrupt_2 : decode cX5_interrupt 2 = .ok (.ifCond .lt 8, 3) := by decide +kernel
theorem dX5_interrupt_5 : decode cX5_interrupt 5 = .ok (.iload_n 1, 1) := by decide +kernel
theorem dX5_interrupt_6 : decode cX5_interrupt 6 = .ok (.iconst 3, 1) := by decide +kernel
theorem dX5_interrupt_7 : decode cX5_interrupt 7 = .ok (.if_icmp .le 7, 3) := by decide +kernel
theorem dX5_interrupt_10 : decode cX5_interrupt 10 = .ok (.iconst 1, 1) := by decide +kernel
theorem dX5_interrupt_11 : decode cX5_interrupt 11 = .ok (.goto 4, 3) := by decide +kernel
theorem dX5_interrupt_14 : decode cX5_interrupt 14 = .ok (.iconst 0, 1) := by decide +kernel
theorem dX5_interrupt_15 : decode cX5_interrupt 15 = .ok (.putfield 41, 3) := by decide +kernel
theorem dX5_interrupt_18 : decode cX5_interrupt 18 = .ok (.aload_n 0, 1) := by decide +kernel
theorem dX5_interrupt_19 : decode cX5_interrupt 19 = .ok (.getfield 41, 3) := by decide +kernel
theorem dX5_interrupt_22 : decode cX5_interrupt 22 = .ok (.ifCond .ne 15, 3) := by decide +kernel
theorem dX5_interrupt_25 : decode cX5_interrupt 25 = .ok (.aload_n 0, 1) := by decide +kernel
theorem dX5_interrupt_26 : decode cX5_interrupt 26 = .ok (.aload_n 0, 1) := by decide +kernel
theorem dX5_interrupt_27 : decode cX5_interrupt 27 = .ok (.getfield 197, 3) := by decide +kernel
theorem dX5_interrupt_30 : decode cX5_interrupt 30 = .ok (.iconst 1, 1) := by decide +kernel
theorem dX5_interrupt_31 : decode cX5_interrupt 31 = .ok (.iload_n 1, 1) := by decide +kernel
theorem dX5_interrupt_32 : decode cX5_interrupt 32 = .ok (.ishl, 1) := by decide +kernel
theorem dX5_interrupt_33 : decode cX5_interrupt 33 = .ok (.ior, 1) := by decide +kernel
theorem dX5_interrupt_34 : decode cX5_interrupt 34 = .ok (.putfield 197, 3) := by decide +kernel
theorem dX5_interrupt_37 : decode cX5_interrupt 37 = .ok (.return_, 1) := by decide +kernel
theorem dX5_state_0 : decode cX5_state 0 = .ok (.aload_n 0, 1) := by decide +kernel
theorem dX5_state_1 : decode cX5_state 1 = .ok (.iconst 0, 1) := by decide +kernel
theorem dX5_state_2 : decode cX5_state 2 = .ok (.putfield 41, 3) := by decide +kernel
theorem dX5_state_5 : decode cX5_state 5 = .ok (.iload_n 1, 1) := by decide +kernel
theorem dX5_state_6 : decode cX5_state 6 = .ok (.tableswitch 84 0 5 #[38, 51, 64, 69, 74, 79], 38) := by decide +kernel
theorem dX5_state_44 : decode cX5_state 44 = .ok (.aload_n 0, 1) := by decide +kernel
theorem dX5_state_45 : decode cX5_state 45 = .ok (.getfield 155, 3) := by decide +kernel
theorem dX5_state_48 : decode cX5_state 48 = .ok (.ifCond .eq 7, 3) := by decide +kernel
theorem dX5_state_51 : decode cX5_state 51 = .ok (.iconst 1, 1) := by decide +kernel
theorem dX5_state_52 : decode cX5_state 52 = .ok (.goto 4, 3) := by decide +kernel
theorem dX5_state_55 : decode cX5_state 55 = .ok (.iconst 0, 1) := by decide +kernel
theorem dX5_state_56 : decode cX5_state 56 = .ok (.ireturn, 1) := by decide +kernel
theorem dX5_state_57 : decode cX5_state 57 = .ok (.aload_n 0, 1) := by decide +kernel
theorem dX5_state_58 : decode cX5_state 58 = .ok (.getfield 152, 3) := by decide +kernel
theorem dX5_state_61 : decode cX5_state 61 = .ok (.ifCond .eq 7, 3) := by decide +kernel
theorem dX5_state_64 : decode cX5_state 64 = .ok (.iconst 1, 1) := by decide +kernel
theorem dX5_state_65 : decode cX5_state 65 = .ok (.goto 4, 3) := by decide +kernel
theorem dX5_state_68 : decode cX5_state 68 = .ok (.iconst 0, 1) := by decide +kernel
theorem dX5_state_69 : decode cX5_state 69 = .ok (.ireturn, 1) := by decide +kernel
theorem dX5_state_70 : decode cX5_state 70 = .ok (.aload_n 0, 1) := by decide +kernel
theorem dX5_state_71 : decode cX5_state 71 = .ok (.getfield 185, 3) := by decide +kernel
theorem dX5_state_74 : decode cX5_state 74 = .ok (.ireturn, 1) := by decide +kernel
theorem dX5_state_75 : decode cX5_state 75 = .ok (.aload_n 0, 1) := by decide +kernel
theorem dX5_state_76 : decode cX5_state 76 = .ok (.getfield 188, 3) := by decide +kernel
theorem dX5_state_79 : decode cX5_state 79 = .ok (.ireturn, 1) := by decide +kernel
theorem dX5_state_80 : decode cX5_state 80 = .ok (.aload_n 0, 1) := by decide +kernel
theorem dX5_state_81 : decode cX5_state 81 = .ok (.getfield 191, 3) := by decide +kernel
theorem dX5_state_84 : decode cX5_state 84 = .ok (.ireturn, 1) := by decide +kernel
theorem dX5_state_85 : decode cX5_state 85 = .ok (.aload_n 0, 1) := by decide +kernel
theorem dX5_state_86 : decode cX5_state 86 = .ok (.getfield 197, 3) := by decide +kernel
theorem dX5_state_89 : decode cX5_state 89 = .ok (.ireturn, 1) := by decide +kernel
theorem dX5_state_90 : decode cX5_state 90 = .ok (.iconst (-1), 1) := by decide +kernel
theorem dX5_state_91 : decode cX5_state 91 = .ok (.ireturn, 1) := by decide +kernel
theorem dX5_saved_0 : decode cX5_saved 0 = .ok (.aload_n 0, 1) := by decide +kernel
theorem dX5_saved_1 : decode cX5_saved 1 = .ok (.iconst 0, 1) := by decide +kernel
theorem dX5_saved_2 : decode cX5_saved 2 = .ok (.putfield 41, 3) := by decide +kernel
theorem dX5_saved_5 : decode cX5_saved 5 = .ok (.aload_n 0, 1) := by decide +kernel
theorem dX5_saved_6 : decode cX5_saved 6 = .ok (.getfield 194, 3) := by decide +kernel
theorem dX5_saved_9 : decode cX5_saved 9 = .ok (.ifCond .eq 21, 3) := by decide +kernel
theorem dX5_saved_12 : decode cX5_saved 12 = .ok (.aload_n 0, 1) := by decide +kernel
theorem dX5_saved_13 : decode cX5_saved 13 = .ok (.getfield 158, 3) := by decide +kernel
theorem dX5_saved_16 : decode cX5_saved 16 = .ok (.aload_n 0, 1) := by decide +kernel
theorem dX5_saved_17 : decode cX5_saved 17 = .ok (.getfield 161, 3) := by decide +kernel
theorem dX5_saved_20 : decode cX5_saved 20 = .ok (.aload_n 0, 1) := by decide +kernel
theorem dX5_saved_21 : decode cX5_saved 21 = .ok (.getfield 164, 3) := by decide +kernel
theorem dX5_saved_24 : decode cX5_saved 24 = .ok (.invokestatic 176, 3) := by decide +kernel
theorem dX5_saved_27 : decode cX5_saved 27 = .ok (.goto 4, 3) := by decide +kernel
theorem dX5_saved_30 : decode cX5_saved 30 = .ok (.lconst 0, 1) := by decide +kernel
theorem dX5_saved_31 : decode cX5_saved 31 = .ok (.lreturn, 1) := by decide +kernel
theorem dX5_copy_0 : decode cX5_copy 0 = .ok (.aload_n 0, 1) := by decide +kernel
theorem dX5_copy_1 : decode cX5_copy 1 = .ok (.iconst 0, 1) := by decide +kernel
theorem dX5_copy_2 : decode cX5_copy 2 = .ok (.putfield 41, 3) := by decide +kernel
theorem dX5_copy_5 : decode cX5_copy 5 = .ok (.iload_n 1, 1) := by decide +kernel
theorem dX5_copy_6 : decode cX5_copy 6 = .ok (.ifCond .lt 28, 3) := by decide +kernel
theorem dX5_copy_9 : decode cX5_copy 9 = .ok (.iload_n 2, 1) := by decide +kernel
theorem dX5_copy_10 : decode cX5_copy 10 = .ok (.ifCond .ne 11, 3) := by decide +kernel
theorem dX5_copy_13 : decode cX5_copy 13 = .ok (.iload_n 1, 1) := by decide +kernel
theorem dX5_copy_14 : decode cX5_copy 14 = .ok (.aload_n 0, 1) := by decide +kernel
theorem dX5_copy_15 : decode cX5_copy 15 = .ok (.getfield 64, 3) := by decide +kernel
theorem dX5_copy_18 : decode cX5_copy 18 = .ok (.if_icmp .ge 16, 3) := by decide +kernel
theorem dX5_copy_21 : decode cX5_copy 21 = .ok (.iload_n 2, 1) := by decide +kernel
theorem dX5_copy_22 : decode cX5_copy 22 = .ok (.iconst 1, 1) := by decide +kernel
theorem dX5_copy_23 : decode cX5_copy 23 = .ok (.if_icmp .ne 13, 3) := by decide +kernel
theorem dX5_copy_26 : decode cX5_copy 26 = .ok (.iload_n 1, 1) := by decide +kernel
theorem dX5_copy_27 : decode cX5_copy 27 = .ok (.aload_n 0, 1) := by decide +kernel
theorem dX5_copy_28 : decode cX5_copy 28 = .ok (.getfield 80, 3) := by decide +kernel
theorem dX5_copy_31 : decode cX5_copy 31 = .ok (.if_icmp .lt 5, 3) := by decide +kernel
theorem dX5_copy_34 : decode cX5_copy 34 = .ok (.iconst (-1), 1) := by decide +kernel
theorem dX5_copy_35 : decode cX5_copy 35 = .ok (.ireturn, 1) := by decide +kernel
theorem dX5_copy_36 : decode cX5_copy 36 = .ok (.iload_n 2, 1) := by decide +kernel
theorem dX5_copy_37 : decode cX5_copy 37 = .ok (.ifCond .ne 12, 3) := by decide +kernel
theorem dX5_copy_40 : decode cX5_copy 40 = .ok (.aload_n 0, 1) := by decide +kernel
theorem dX5_copy_41 : decode cX5_copy 41 = .ok (.getfield 13, 3) := by decide +kernel
theorem dX5_copy_44 : decode cX5_copy 44 = .ok (.iload_n 1, 1) := by decide +kernel
theorem dX5_copy_45 : decode cX5_copy 45 = .ok (.iaload, 1) := by decide +kernel
theorem dX5_copy_46 : decode cX5_copy 46 = .ok (.goto 18, 3) := by decide +kernel
theorem dX5_copy_49 : decode cX5_copy 49 = .ok (.iload_n 2, 1) := by decide +kernel
theorem dX5_copy_50 : decode cX5_copy 50 = .ok (.iconst 1, 1) := by decide +kernel
theorem dX5_copy_51 : decode cX5_copy 51 = .ok (.if_icmp .ne 12, 3) := by decide +kernel
theorem dX5_copy_54 : decode cX5_copy 54 = .ok (.aload_n 0, 1) := by decide +kernel
theorem dX5_copy_55 : decode cX5_copy 55 = .ok (.getfield 17, 3) := by decide +kernel
theorem dX5_copy_58 : decode cX5_copy 58 = .ok (.iload_n 1, 1) := by decide +kernel
theorem dX5_copy_59 : decode cX5_copy 59 = .ok (.iaload, 1) := by decide +kernel
theorem dX5_copy_60 : decode cX5_copy 60 = .ok (.goto 4, 3) := by decide +kernel
theorem dX5_copy_63 : decode cX5_copy 63 = .ok (.iconst (-1), 1) := by decide +kernel
theorem dX5_copy_64 : decode cX5_copy 64 = .ok (.ireturn, 1) := by decide +kernel
theorem kw365 : Cond.code yX5_step cX5_step 7 none ∈ gG := inG 694 (by decide +kernel) (by decide +kernel)
theorem kw366 : Cond.methodLink RX5 212 yX5_step ∈ gG := inG 691 (by decide +kernel) (by decide +kernel)
theorem kw367 : Cond.instanceMethod yX5_step ∈ gG := inG 693 (by decide +kernel) (by decide +kernel)
theorem kw368 : Cond.selects RX5 yX5_step yX5_step ∈ gG := inG 24 (by decide +kernel) (by decide +kernel)
theorem hdX5_step : yX5_step.cls ≠ "java/lang/invoke/MethodHandle" ∧ yX5_step.cls ≠ "java/lang/invoke/VarHandle" ∧ (parseMethodDescriptor yX5_step.desc).map (fun d => d.parameters.length) = some 0 := by decide +kernel
