theorem dX4_run_0 : decode cX4_run 0 = .ok (.iload_n 1, 1) := by decide +kernel
theorem dX4_run_1 : decode cX4_run 1 = .ok (.ifCond .lt 9, 3) := by decide +kernel
theorem dX4_run_4 : decode cX4_run 4 = .ok (.iload_n 1, 1) := by decide +kernel
theorem dX4_run_5 : decode cX4_run 5 = .ok (.bipush 100, 2) := by decide +kernel
theorem dX4_run_7 : decode cX4_run 7 = .ok (.if_icmp .le 11, 3) := by decide +kernel
theorem dX4_run_10 : decode cX4_run 10 = .ok (.new 65, 3) := by decide +kernel
theorem dX4_run_13 : decode cX4_run 13 = .ok (.dup, 1) := by decide +kernel
theorem dX4_run_14 : decode cX4_run 14 = .ok (.invokespecial 67, 3) := by decide +kernel
theorem dX4_run_17 : decode cX4_run 17 = .ok (.athrow, 1) := by decide +kernel
theorem dX4_run_18 : decode cX4_run 18 = .ok (.iconst 0, 1) := by decide +kernel
theorem dX4_run_19 : decode cX4_run 19 = .ok (.istore_n 2, 1) := by decide +kernel
theorem dX4_run_20 : decode cX4_run 20 = .ok (.iload_n 2, 1) := by decide +kernel
theorem dX4_run_21 : decode cX4_run 21 = .ok (.iload_n 1, 1) := by decide +kernel
theorem dX4_run_22 : decode cX4_run 22 = .ok (.if_icmp .ge 41, 3) := by decide +kernel
theorem dX4_run_25 : decode cX4_run 25 = .ok (.aload_n 0, 1) := by decide +kernel
theorem dX4_run_26 : decode cX4_run 26 = .ok (.getfield 68, 3) := by decide +kernel
theorem dX4_run_29 : decode cX4_run 29 = .ok (.ifCond .eq 5, 3) := by decide +kernel
theorem dX4_run_32 : decode cX4_run 32 = .ok (.iload_n 2, 1) := by decide +kernel
theorem dX4_run_33 : decode cX4_run 33 = .ok (.ireturn, 1) := by decide +kernel
theorem dX4_run_34 : decode cX4_run 34 = .ok (.aload_n 0, 1) := by decide +kernel
theorem dX4_run_35 : decode cX4_run 35 = .ok (.invokevirtual 72, 3) := by decide +kernel
theorem dX4_run_38 : decode cX4_run 38 = .ok (.istore_n 3, 1) := by decide +kernel
theorem dX4_run_39 : decode cX4_run 39 = .ok (.iload_n 3, 1) := by decide +kernel
theorem dX4_run_40 : decode cX4_run 40 = .ok (.ifCond .ne 8, 3) := by decide +kernel
theorem dX4_run_43 : decode cX4_run 43 = .ok (.aload_n 0, 1) := by decide +kernel
theorem dX4_run_44 : decode cX4_run 44 = .ok (.invokevirtual 76, 3) := by decide +kernel
theorem dX4_run_47 : decode cX4_run 47 = .ok (.istore_n 3, 1) := by decide +kernel
theorem dX4_run_48 : decode cX4_run 48 = .ok (.iload_n 3, 1) := by decide +kernel
theorem dX4_run_49 : decode cX4_run 49 = .ok (.ifCond .eq 8, 3) := by decide +kernel
theorem dX4_run_52 : decode cX4_run 52 = .ok (.aload_n 0, 1) := by decide +kernel
theorem dX4_run_53 : decode cX4_run 53 = .ok (.iload_n 3, 1) := by decide +kernel
theorem dX4_run_54 : decode cX4_run 54 = .ok (.invokevirtual 79, 3) := by decide +kernel
theorem dX4_run_57 : decode cX4_run 57 = .ok (.iinc 2 1, 3) := by decide +kernel
theorem dX4_run_60 : decode cX4_run 60 = .ok (.goto (-40), 3) := by decide +kernel
theorem dX4_run_63 : decode cX4_run 63 = .ok (.iload_n 1, 1) := by decide +kernel
theorem dX4_run_64 : decode cX4_run 64 = .ok (.ireturn, 1) := by decide +kernel
theorem dX4_go_0 : decode cX4_go 0 = .ok (.aload_n 0, 1) := by decide +kernel
theorem dX4_go_1 : decode cX4_go 1 = .ok (.iconst 0, 1) := by decide +kernel
theorem dX4_go_2 : decode cX4_go 2 = .ok (.putfield 68, 3) := by decide +kernel
theorem dX4_go_5 : decode cX4_go 5 = .ok (.aload_n 0, 1) := by decide +kernel
theorem dX4_go_6 : decode cX4_go 6 = .ok (.iconst 0, 1) := by decide +kernel
theorem dX4_go_7 : decode cX4_go 7 = .ok (.putfield 83, 3) := by decide +kernel
theorem dX4_go_10 : decode cX4_go 10 = .ok (.return_, 1) := by decide +kernel
theorem dX4_state_0 : decode cX4_state 0 = .ok (.iload_n 1, 1) := by decide +kernel
theorem dX4_state_1 : decode cX4_state 1 = .ok (.tableswitch 85 0 5 #[39, 52, 65, 70, 75, 80], 39) := by decide +kernel
theorem dX4_state_40 : decode cX4_state 40 = .ok (.aload_n 0, 1) := by decide +kernel
theorem dX4_state_41 : decode cX4_state 41 = .ok (.getfield 68, 3) := by decide +kernel
theorem dX4_state_44 : decode cX4_state 44 = .ok (.ifCond .eq 7, 3) := by decide +kernel
theorem dX4_state_47 : decode cX4_state 47 = .ok (.iconst 1, 1) := by decide +kernel
theorem dX4_state_48 : decode cX4_state 48 = .ok (.goto 4, 3) := by decide +kernel
theorem dX4_state_51 : decode cX4_state 51 = .ok (.iconst 0, 1) := by decide +kernel
theorem dX4_state_52 : decode cX4_state 52 = .ok (.ireturn, 1) := by decide +kernel
theorem dX4_state_53 : decode cX4_state 53 = .ok (.aload_n 0, 1) := by decide +kernel
theorem dX4_state_54 : decode cX4_state 54 = .ok (.getfield 83, 3) := by decide +kernel
theorem dX4_state_57 : decode cX4_state 57 = .ok (.ifCond .eq 7, 3) := by decide +kernel
theorem dX4_state_60 : decode cX4_state 60 = .ok (.iconst 1, 1) := by decide +kernel
theorem dX4_state_61 : decode cX4_state 61 = .ok (.goto 4, 3) := by decide +kernel
theorem dX4_state_64 : decode cX4_state 64 = .ok (.iconst 0, 1) := by decide +kernel
theorem dX4_state_65 : decode cX4_state 65 = .ok (.ireturn, 1) := by decide +kernel
theorem dX4_state_66 : decode cX4_state 66 = .ok (.aload_n 0, 1) := by decide +kernel
theorem dX4_state_67 : decode cX4_state 67 = .ok (.getfield 90, 3) := by decide +kernel
theorem dX4_state_70 : decode cX4_state 70 = .ok (.ireturn, 1) := by decide +kernel
theorem dX4_state_71 : decode cX4_state 71 = .ok (.aload_n 0, 1) := by decide +kernel
theorem dX4_state_72 : decode cX4_state 72 = .ok (.getfield 93, 3) := by decide +kernel
theorem dX4_state_75 : decode cX4_state 75 = .ok (.ireturn, 1) := by decide +kernel
theorem dX4_state_76 : decode cX4_state 76 = .ok (.aload_n 0, 1) := by decide +kernel
theorem dX4_state_77 : decode cX4_state 77 = .ok (.getfield 96, 3) := by decide +kernel
theorem dX4_state_80 : decode cX4_state 80 = .ok (.ireturn, 1) := by decide +kernel
theorem dX4_state_81 : decode cX4_state 81 = .ok (.aload_n 0, 1) := by decide +kernel
theorem dX4_state_82 : decode cX4_state 82 = .ok (.getfield 86, 3) := by decide +kernel
theorem dX4_state_85 : decode cX4_state 85 = .ok (.ireturn, 1) := by decide +kernel
theorem dX4_state_86 : decode cX4_state 86 = .ok (.iconst (-1), 1) := by decide +kernel
theorem dX4_state_87 : decode cX4_state 87 = .ok (.ireturn, 1) := by decide +kernel
theorem dX4_saved_0 : decode cX4_saved 0 = .ok (.aload_n 0, 1) := by decide +kernel
theorem dX4_saved_1 : decode cX4_saved 1 = .ok (.getfield 99, 3) := by decide +kernel
theorem dX4_saved_4 : decode cX4_saved 4 = .ok (.ifCond .eq 13, 3) := by decide +kernel
theorem dX4_saved_7 : decode cX4_saved 7 = .ok (.aload_n 0, 1) := by decide +kernel
theorem dX4_saved_8 : decode cX4_saved 8 = .ok (.getfield 34, 3) := by decide +kernel
theorem dX4_saved_11 : decode cX4_saved 11 = .ok (.invokevirtual 61, 3) := by decide +kernel
theorem dX4_saved_14 : decode cX4_saved 14 = .ok (.goto 4, 3) := by decide +kernel
theorem dX4_saved_17 : decode cX4_saved 17 = .ok (.lconst 0, 1) := by decide +kernel
theorem dX4_saved_18 : decode cX4_saved 18 = .ok (.lreturn, 1) := by decide +kernel
theorem dX4_copy_0 : decode cX4_copy 0 = .ok (.iload_n 2, 1) := by decide +kernel
theorem dX4_copy_1 : decode cX4_copy 1 = .ok (.lookupswitch 51 #[(0, 27), (1, 39)], 27) := by decide +kernel
theorem dX4_copy_28 : decode cX4_copy 28 = .ok (.aload_n 0, 1) := by decide +kernel
theorem dX4_copy_29 : decode cX4_copy 29 = .ok (.getfield 10, 3) := by decide +kernel
theorem dX4_copy_32 : decode cX4_copy 32 = .ok (.getfield 102, 3) := by decide +kernel
theorem dX4_copy_35 : decode cX4_copy 35 = .ok (.iload_n 1, 1) := by decide +kernel
theorem dX4_copy_36 : decode cX4_copy 36 = .ok (.invokevirtual 106, 3) := by decide +kernel
theorem dX4_copy_39 : decode cX4_copy 39 = .ok (.ireturn, 1) := by decide +kernel
theorem dX4_copy_40 : decode cX4_copy 40 = .ok (.aload_n 0, 1) := by decide +kernel
theorem dX4_copy_41 : decode cX4_copy 41 = .ok (.getfield 10, 3) := by decide +kernel
theorem dX4_copy_44 : decode cX4_copy 44 = .ok (.getfield 112, 3) := by decide +kernel
theorem dX4_copy_47 : decode cX4_copy 47 = .ok (.iload_n 1, 1) := by decide +kernel
theorem dX4_copy_48 : decode cX4_copy 48 = .ok (.invokevirtual 106, 3) := by decide +kernel
theorem dX4_copy_51 : decode cX4_copy 51 = .ok (.ireturn, 1) := by decide +kernel
theorem dX4_copy_52 : decode cX4_copy 52 = .ok (.iconst (-1), 1) := by decide +kernel
theorem dX4_copy_53 : decode cX4_copy 53 = .ok (.ireturn, 1) := by decide +kernel
theorem dX4_poke_0 : decode cX4_poke 0 = .ok (.iload_n 1, 1) := by decide +kernel
theorem dX4_poke_1 : decode cX4_poke 1 = .ok (.ifCond .lt 10, 3) := by decide +kernel
theorem dX4_poke_4 : decode cX4_poke 4 = .ok (.iload_n 1, 1) := by decide +kernel
theorem dX4_poke_5 : decode cX4_poke 5 = .ok (.sipush 4095, 3) := by decide +kernel
theorem dX4_poke_8 : decode cX4_poke 8 = .ok (.if_icmp .le 11, 3) := by decide +kernel
theorem dX4_poke_11 : decode cX4_poke 11 = .ok (.new 37, 3) := by decide +kernel
theorem dX4_poke_14 : decode cX4_poke 14 = .ok (.dup, 1) := by decide +kernel
theorem dX4_poke_15 : decode cX4_poke 15 = .ok (.invokespecial 39, 3) := by decide +kernel
theorem dX4_poke_18 : decode cX4_poke 18 = .ok (.athrow, 1) := by decide +kernel
theorem dX4_poke_19 : decode cX4_poke 19 = .ok (.aload_n 0, 1) := by decide +kernel
theorem dX4_poke_20 : decode cX4_poke 20 = .ok (.getfield 10, 3) := by decide +kernel
theorem dX4_poke_23 : decode cX4_poke 23 = .ok (.getfield 40, 3) := by decide +kernel
theorem dX4_poke_26 : decode cX4_poke 26 = .ok (.iload_n 1, 1) := by decide +kernel
theorem dX4_poke_27 : decode cX4_poke 27 = .ok (.lload_n 2, 1) := by decide +kernel
theorem dX4_poke_28 : decode cX4_poke 28 = .ok (.ldc2_w 44, 3) := by decide +kernel
theorem dX4_poke_31 : decode cX4_poke 31 = .ok (.land, 1) := by decide +kernel
theorem dX4_poke_32 : decode cX4_poke 32 = .ok (.lastore, 1) := by decide +kernel
theorem dX4_poke_33 : decode cX4_poke 33 = .ok (.return_, 1) := by decide +kernel
theorem dX4_peek_0 : decode cX4_peek 0 = .ok (.iload_n 1, 1) := by decide +kernel
theorem dX4_peek_1 : decode cX4_peek 1 = .ok (.ifCond .lt 10, 3) := by decide +kernel
theorem dX4_peek_4 : decode cX4_peek 4 = .ok (.iload_n 1, 1) := by decide +kernel
theorem dX4_peek_5 : decode cX4_peek 5 = .ok (.sipush 4095, 3) := by decide +kernel
theorem dX4_peek_8 : decode cX4_peek 8 = .ok (.if_icmp .le 11, 3) := by decide +kernel
theorem dX4_peek_11 : decode cX4_peek 11 = .ok (.new 37, 3) := by decide +kernel
theorem dX4_peek_14 : decode cX4_peek 14 = .ok (.dup, 1) := by decide +kernel
theorem dX4_peek_15 : decode cX4_peek 15 = .ok (.invokespecial 39, 3) := by decide +kernel
theorem dX4_peek_18 : decode cX4_peek 18 = .ok (.athrow, 1) := by decide +kernel
theorem dX4_peek_19 : decode cX4_peek 19 = .ok (.aload_n 0, 1) := by decide +kernel
theorem dX4_peek_20 : decode cX4_peek 20 = .ok (.getfield 10, 3) := by decide +kernel
theorem dX4_peek_23 : decode cX4_peek 23 = .ok (.getfield 40, 3) := by decide +kernel
theorem dX4_peek_26 : decode cX4_peek 26 = .ok (.iload_n 1, 1) := by decide +kernel
theorem dX4_peek_27 : decode cX4_peek 27 = .ok (.laload, 1) := by decide +kernel
theorem dX4_peek_28 : decode cX4_peek 28 = .ok (.lreturn, 1) := by decide +kernel
theorem dX4_set_0 : decode cX4_set 0 = .ok (.iload_n 1, 1) := by decide +kernel
theorem dX4_set_1 : decode cX4_set 1 = .ok (.ifCond .lt 9, 3) := by decide +kernel
theorem dX4_set_4 : decode cX4_set 4 = .ok (.iload_n 1, 1) := by decide +kernel
theorem dX4_set_5 : decode cX4_set 5 = .ok (.bipush 10, 2) := by decide +kernel
theorem dX4_set_7 : decode cX4_set 7 = .ok (.if_icmp .le 11, 3) := by decide +kernel
theorem dX4_set_10 : decode cX4_set 10 = .ok (.new 37, 3) := by decide +kernel
theorem dX4_set_13 : decode cX4_set 13 = .ok (.dup, 1) := by decide +kernel
theorem dX4_set_14 : decode cX4_set 14 = .ok (.invokespecial 39, 3) := by decide +kernel
theorem dX4_set_17 : decode cX4_set 17 = .ok (.athrow, 1) := by decide +kernel
theorem dX4_set_18 : decode cX4_set 18 = .ok (.iload_n 1, 1) := by decide +kernel
theorem dX4_set_19 : decode cX4_set 19 = .ok (.ifCond .ne 15, 3) := by decide +kernel
theorem dX4_set_22 : decode cX4_set 22 = .ok (.aload_n 0, 1) := by decide +kernel
theorem dX4_set_23 : decode cX4_set 23 = .ok (.lload_n 2, 1) := by decide +kernel
theorem dX4_set_24 : decode cX4_set 24 = .ok (.ldc2_w 44, 3) := by decide +kernel
theorem dX4_set_27 : decode cX4_set 27 = .ok (.land, 1) := by decide +kernel
theorem dX4_set_28 : decode cX4_set 28 = .ok (.putfield 46, 3) := by decide +kernel
theorem dX4_set_31 : decode cX4_set 31 = .ok (.goto 73, 3) := by decide +kernel
theorem dX4_set_34 : decode cX4_set 34 = .ok (.iload_n 1, 1) := by decide +kernel
theorem dX4_set_35 : decode cX4_set 35 = .ok (.iconst 1, 1) := by decide +kernel
theorem dX4_set_36 : decode cX4_set 36 = .ok (.if_icmp .ne 15, 3) := by decide +kernel
theorem dX4_set_39 : decode cX4_set 39 = .ok (.aload_n 0, 1) := by decide +kernel
theorem dX4_set_40 : decode cX4_set 40 = .ok (.lload_n 2, 1) := by decide +kernel
theorem dX4_set_41 : decode cX4_set 41 = .ok (.ldc2_w 44, 3) := by decide +kernel
theorem dX4_set_44 : decode cX4_set 44 = .ok (.land, 1) := by decide +kernel
theorem dX4_set_45 : decode cX4_set 45 = .ok (.putfield 50, 3) := by decide +kernel
theorem dX4_set_48 : decode cX4_set 48 = .ok (.goto 56, 3) := by decide +kernel
theorem dX4_set_51 : decode cX4_set 51 = .ok (.iload_n 1, 1) := by decide +kernel
theorem dX4_set_52 : decode cX4_set 52 = .ok (.iconst 5, 1) := by decide +kernel
theorem dX4_set_53 : decode cX4_set 53 = .ok (.if_icmp .gt 21, 3) := by decide +kernel
theorem dX4_set_56 : decode cX4_set 56 = .ok (.aload_n 0, 1) := by decide +kernel
theorem dX4_set_57 : decode cX4_set 57 = .ok (.getfield 16, 3) := by decide +kernel
theorem dX4_set_60 : decode cX4_set 60 = .ok (.iload_n 1, 1) := by decide +kernel
theorem dX4_set_61 : decode cX4_set 61 = .ok (.iconst 2, 1) := by decide +kernel
theorem dX4_set_62 : decode cX4_set 62 = .ok (.isub, 1) := by decide +kernel
theorem dX4_set_63 : decode cX4_set 63 = .ok (.lload_n 2, 1) := by decide +kernel
theorem dX4_set_64 : decode cX4_set 64 = .ok (.iconst 0, 1) := by decide +kernel
theorem dX4_set_65 : decode cX4_set 65 = .ok (.bipush 12, 2) := by decide +kernel
theorem dX4_set_67 : decode cX4_set 67 = .ok (.invokestatic 53, 3) := by decide +kernel
theorem dX4_set_70 : decode cX4_set 70 = .ok (.iastore, 1) := by decide +kernel
theorem dX4_set_71 : decode cX4_set 71 = .ok (.goto 33, 3) := by decide +kernel
theorem dX4_set_74 : decode cX4_set 74 = .ok (.iload_n 1, 1) := by decide +kernel
theorem dX4_set_75 : decode cX4_set 75 = .ok (.bipush 9, 2) := by decide +kernel
theorem dX4_set_77 : decode cX4_set 77 = .ok (.if_icmp .gt 19, 3) := by decide +kernel
theorem dX4_set_80 : decode cX4_set 80 = .ok (.aload_n 0, 1) := by decide +kernel
theorem dX4_set_81 : decode cX4_set 81 = .ok (.getfield 23, 3) := by decide +kernel
theorem dX4_set_84 : decode cX4_set 84 = .ok (.iload_n 1, 1) := by decide +kernel
theorem dX4_set_85 : decode cX4_set 85 = .ok (.bipush 6, 2) := by decide +kernel
theorem dX4_set_87 : decode cX4_set 87 = .ok (.isub, 1) := by decide +kernel
theorem dX4_set_88 : decode cX4_set 88 = .ok (.aaload, 1) := by decide +kernel
theorem dX4_set_89 : decode cX4_set 89 = .ok (.lload_n 2, 1) := by decide +kernel
theorem dX4_set_90 : decode cX4_set 90 = .ok (.invokevirtual 57, 3) := by decide +kernel
theorem dX4_set_93 : decode cX4_set 93 = .ok (.goto 11, 3) := by decide +kernel
theorem dX4_set_96 : decode cX4_set 96 = .ok (.aload_n 0, 1) := by decide +kernel
theorem dX4_set_97 : decode cX4_set 97 = .ok (.getfield 27, 3) := by decide +kernel
theorem dX4_set_100 : decode cX4_set 100 = .ok (.lload_n 2, 1) := by decide +kernel
theorem dX4_set_101 : decode cX4_set 101 = .ok (.invokevirtual 57, 3) := by decide +kernel
theorem dX4_set_104 : decode cX4_set 104 = .ok (.return_, 1) := by decide +kernel
theorem dX4_get_0 : decode cX4_get 0 = .ok (.iload_n 1, 1) := by decide +kernel
theorem dX4_get_1 : decode cX4_get 1 = .ok (.ifCond .lt 9, 3) := by decide +kernel
theorem dX4_get_4 : decode cX4_get 4 = .ok (.iload_n 1, 1) := by decide +kernel
theorem dX4_get_5 : decode cX4_get 5 = .ok (.bipush 10, 2) := by decide +kernel
theorem dX4_get_7 : decode cX4_get 7 = .ok (.if_icmp .le 11, 3) := by decide +kernel
theorem dX4_get_10 : decode cX4_get 10 = .ok (.new 37, 3) := by decide +kernel
theorem dX4_get_13 : decode cX4_get 13 = .ok (.dup, 1) := by decide +kernel
theorem dX4_get_14 : decode cX4_get 14 = .ok (.invokespecial 39, 3) := by decide +kernel
theorem dX4_get_17 : decode cX4_get 17 = .ok (.athrow, 1) := by decide +kernel
theorem dX4_get_18 : decode cX4_get 18 = .ok (.iload_n 1, 1) := by decide +kernel
theorem dX4_get_19 : decode cX4_get 19 = .ok (.ifCond .ne 8, 3) := by decide +kernel
theorem dX4_get_22 : decode cX4_get 22 = .ok (.aload_n 0, 1) := by decide +kernel
theorem dX4_get_23 : decode cX4_get 23 = .ok (.getfield 46, 3) := by decide +kernel
theorem dX4_get_26 : decode cX4_get 26 = .ok (.lreturn, 1) := by decide +kernel
theorem dX4_get_27 : decode cX4_get 27 = .ok (.iload_n 1, 1) := by decide +kernel
theorem dX4_get_28 : decode cX4_get 28 = .ok (.iconst 1, 1) := by decide +kernel
theorem dX4_get_29 : decode cX4_get 29 = .ok (.if_icmp .ne 8, 3) := by decide +kernel
theorem dX4_get_32 : decode cX4_get 32 = .ok (.aload_n 0, 1) := by decide +kernel
theorem dX4_get_33 : decode cX4_get 33 = .ok (.getfield 50, 3) := by decide +kernel
theorem dX4_get_36 : decode cX4_get 36 = .ok (.lreturn, 1) := by decide +kernel
theorem dX4_get_37 : decode cX4_get 37 = .ok (.iload_n 1, 1) := by decide +kernel
theorem dX4_get_38 : decode cX4_get 38 = .ok (.iconst 5, 1) := by decide +kernel
theorem dX4_get_39 : decode cX4_get 39 = .ok (.if_icmp .gt 13, 3) := by decide +kernel
theorem dX4_get_42 : decode cX4_get 42 = .ok (.aload_n 0, 1) := by decide +kernel
theorem dX4_get_43 : decode cX4_get 43 = .ok (.getfield 16, 3) := by decide +kernel
theorem dX4_get_46 : decode cX4_get 46 = .ok (.iload_n 1, 1) := by decide +kernel
theorem dX4_get_47 : decode cX4_get 47 = .ok (.iconst 2, 1) := by decide +kernel
theorem dX4_get_48 : decode cX4_get 48 = .ok (.isub, 1) := by decide +kernel
theorem dX4_get_49 : decode cX4_get 49 = .ok (.iaload, 1) := by decide +kernel
theorem dX4_get_50 : decode cX4_get 50 = .ok (.i2l, 1) := by decide +kernel
theorem dX4_get_51 : decode cX4_get 51 = .ok (.lreturn, 1) := by decide +kernel
theorem dX4_get_52 : decode cX4_get 52 = .ok (.iload_n 1, 1) := by decide +kernel
theorem dX4_get_53 : decode cX4_get 53 = .ok (.bipush 9, 2) := by decide +kernel
theorem dX4_get_55 : decode cX4_get 55 = .ok (.if_icmp .gt 18, 3) := by decide +kernel
theorem dX4_get_58 : decode cX4_get 58 = .ok (.aload_n 0, 1) := by decide +kernel
theorem dX4_get_59 : decode cX4_get 59 = .ok (.getfield 23, 3) := by decide +kernel
theorem dX4_get_62 : decode cX4_get 62 = .ok (.iload_n 1, 1) := by decide +kernel
theorem dX4_get_63 : decode cX4_get 63 = .ok (.bipush 6, 2) := by decide +kernel
theorem dX4_get_65 : decode cX4_get 65 = .ok (.isub, 1) := by decide +kernel
theorem dX4_get_66 : decode cX4_get 66 = .ok (.aaload, 1) := by decide +kernel
theorem dX4_get_67 : decode cX4_get 67 = .ok (.invokevirtual 61, 3) := by decide +kernel
theorem dX4_get_70 : decode cX4_get 70 = .ok (.goto 10, 3) := by decide +kernel
theorem dX4_get_73 : decode cX4_get 73 = .ok (.aload_n 0, 1) := by decide +kernel
theorem dX4_get_74 : decode cX4_get 74 = .ok (.getfield 27, 3) := by decide +kernel
theorem dX4_get_77 : decode cX4_get 77 = .ok (.invokevirtual 61, 3) := by decide +kernel
theorem dX4_get_80 : decode cX4_get 80 = .ok (.lreturn, 1) := by decide +kernel
theorem dX4_interrupt_0 : decode cX4_interrupt 0 = .ok (.iload_n 1, 1) := by decide +kernel
theorem dX4_interrupt_1 : decode cX4_interrupt 1 = .ok (.ifCond .lt 8, 3) := by decide +kernel
theorem dX4_interrupt_4 : decode cX4_interrupt 4 = .ok (.iload_n 1, 1) := by decide +kernel
theorem dX4_interrupt_5 : decode cX4_interrupt 5 = .ok (.iconst 3, 1) := by decide +kernel
theorem dX4_interrupt_6 : decode cX4_interrupt 6 = .ok (.if_icmp .le 11, 3) := by decide +kernel
theorem dX4_interrupt_9 : decode cX4_interrupt 9 = .ok (.new 37, 3) := by decide +kernel
theorem dX4_interrupt_12 : decode cX4_interrupt 12 = .ok (.dup, 1) := by decide +kernel
theorem dX4_interrupt_13 : decode cX4_interrupt 13 = .ok (.invokespecial 39, 3) := by decide +kernel
theorem dX4_interrupt_16 : decode cX4_interrupt 16 = .ok (.athrow, 1) := by decide +kernel
theorem dX4_interrupt_17 : decode cX4_interrupt 17 = .ok (.aload_n 0, 1) := by decide +kernel
theorem dX4_interrupt_18 : decode cX4_interrupt 18 = .ok (.dup, 1) := by decide +kernel
theorem dX4_interrupt_19 : decode cX4_interrupt 19 = .ok (.getfield 86, 3) := by decide +kernel
theorem dX4_interrupt_22 : decode cX4_interrupt 22 = .ok (.iconst 1, 1) := by decide +kernel
theorem dX4_interrupt_23 : decode cX4_interrupt 23 = .ok (.iload_n 1, 1) := by decide +kernel
theorem dX4_interrupt_24 : decode cX4_interrupt 24 = .ok (.ishl, 1) := by decide +kernel
theorem dX4_interrupt_25 : decode cX4_interrupt 25 = .ok (.ior, 1) := by decide +kernel
theorem dX4_interrupt_26 : decode cX4_interrupt 26 = .ok (.putfield 86, 3) := by decide +kernel
theorem dX4_interrupt_29 : decode cX4_interrupt 29 = .ok (.return_, 1) := by decide +kernel
theorem dX4_reach_0 : decode cX4_reach 0 = .ok (.iload_n 1, 1) := by decide +kernel
theorem dX4_reach_1 : decode cX4_reach 1 = .ok (.ifCond .lt 9, 3) := by decide +kernel
theorem dX4_reach_4 : decode cX4_reach 4 = .ok (.iload_n 1, 1) := by decide +kernel
theorem dX4_reach_5 : decode cX4_reach 5 = .ok (.bipush 15, 2) := by decide +kernel
theorem dX4_reach_7 : decode cX4_reach 7 = .ok (.if_icmp .le 11, 3) := by decide +kernel
theorem dX4_reach_10 : decode cX4_reach 10 = .ok (.new 37, 3) := by decide +kernel
theorem dX4_reach_13 : decode cX4_reach 13 = .ok (.dup, 1) := by decide +kernel
theorem dX4_reach_14 : decode cX4_reach 14 = .ok (.invokespecial 39, 3) := by decide +kernel
theorem dX4_reach_17 : decode cX4_reach 17 = .ok (.athrow, 1) := by decide +kernel
theorem dX4_reach_18 : decode cX4_reach 18 = .ok (.iload_n 3, 1) := by decide +kernel
theorem dX4_reach_19 : decode cX4_reach 19 = .ok (.ifCond .lt 31, 3) := by decide +kernel
theorem dX4_reach_22 : decode cX4_reach 22 = .ok (.iload_n 3, 1) := by decide +kernel
theorem dX4_reach_23 : decode cX4_reach 23 = .ok (.bipush 7, 2) := by decide +kernel
theorem dX4_reach_25 : decode cX4_reach 25 = .ok (.if_icmp .gt 25, 3) := by decide +kernel
theorem dX4_reach_28 : decode cX4_reach 28 = .ok (.iload_n 2, 1) := by decide +kernel
theorem dX4_reach_29 : decode cX4_reach 29 = .ok (.ifCond .lt 21, 3) := by decide +kernel
theorem dX4_reach_32 : decode cX4_reach 32 = .ok (.iload_n 2, 1) := by decide +kernel
theorem dX4_reach_33 : decode cX4_reach 33 = .ok (.sipush 4095, 3) := by decide +kernel
theorem dX4_reach_36 : decode cX4_reach 36 = .ok (.if_icmp .gt 14, 3) := by decide +kernel
theorem dX4_reach_39 : decode cX4_reach 39 = .ok (.iload 4, 2) := by decide +kernel
theorem dX4_reach_41 : decode cX4_reach 41 = .ok (.ifCond .lt 9, 3) := by decide +kernel
theorem dX4_reach_44 : decode cX4_reach 44 = .ok (.iload 4, 2) := by decide +kernel
theorem dX4_reach_46 : decode cX4_reach 46 = .ok (.iconst 2, 1) := by decide +kernel
theorem dX4_reach_47 : decode cX4_reach 47 = .ok (.if_icmp .le 11, 3) := by decide +kernel
theorem dX4_reach_50 : decode cX4_reach 50 = .ok (.new 65, 3) := by decide +kernel
theorem dX4_reach_53 : decode cX4_reach 53 = .ok (.dup, 1) := by decide +kernel
theorem dX4_reach_54 : decode cX4_reach 54 = .ok (.invokespecial 67, 3) := by decide +kernel
theorem dX4_reach_57 : decode cX4_reach 57 = .ok (.athrow, 1) := by decide +kernel
theorem dX4_reach_58 : decode cX4_reach 58 = .ok (.aload_n 0, 1) := by decide +kernel
theorem dX4_reach_59 : decode cX4_reach 59 = .ok (.getfield 10, 3) := by decide +kernel
theorem dX4_reach_62 : decode cX4_reach 62 = .ok (.iload_n 1, 1) := by decide +kernel
theorem dX4_reach_63 : decode cX4_reach 63 = .ok (.iload_n 2, 1) := by decide +kernel
theorem dX4_reach_64 : decode cX4_reach 64 = .ok (.iload_n 3, 1) := by decide +kernel
theorem dX4_reach_65 : decode cX4_reach 65 = .ok (.iload 4, 2) := by decide +kernel
theorem dX4_reach_67 : decode cX4_reach 67 = .ok (.iconst 0, 1) := by decide +kernel
theorem dX4_reach_68 : decode cX4_reach 68 = .ok (.invokevirtual 115, 3) := by decide +kernel
theorem dX4_reach_71 : decode cX4_reach 71 = .ok (.ireturn, 1) := by decide +kernel
theorem kw217 : Cond.code yX4_takeInterrupt cX4_takeInterrupt 2 (some .int) ∈ gG := inG 375 (by decide +kernel) (by decide +kernel)
theorem kw218 : Cond.methodLink RX4 72 yX4_takeInterrupt ∈ gG := inG 372 (by decide +kernel) (by decide +kernel)
theorem kw219 : Cond.instanceMethod yX4_takeInterrupt ∈ gG := inG 374 (by decide +kernel) (by decide +kernel)
theorem kw220 : Cond.selects RX4 yX4_takeInterrupt yX4_takeInterrupt ∈ gG := inG 1 (by decide +kernel) (by decide +kernel)
theorem kw221 : Cond.code yX4_enter cX4_enter 3 none ∈ gG := inG 529 (by decide +kernel) (by decide +kernel)
theorem kw222 : Cond.methodLink RX4 79 yX4_enter ∈ gG := inG 526 (by decide +kernel) (by decide +kernel)
theorem kw223 : Cond.instanceMethod yX4_enter ∈ gG := inG 528 (by decide +kernel) (by decide +kernel)
theorem kw224 : Cond.selects RX4 yX4_enter yX4_enter ∈ gG := inG 21 (by decide +kernel) (by decide +kernel)
theorem kw225 : Cond.code yX4_perform cX4_perform 5 (some .int) ∈ gG := inG 379 (by decide +kernel) (by decide +kernel)
theorem kw226 : Cond.methodLink RX4 76 yX4_perform ∈ gG := inG 376 (by decide +kernel) (by decide +kernel)
theorem kw227 : Cond.instanceMethod yX4_perform ∈ gG := inG 378 (by decide +kernel) (by decide +kernel)
theorem kw228 : Cond.selects RX4 yX4_perform yX4_perform ∈ gG := inG 2 (by decide +kernel) (by decide +kernel)
theorem kw229 : Cond.code yX0_nameAt cX0_nameAt 2 (some .int) ∈ gG := inG 248 (by decide +kernel) (by decide +kernel)
theorem kw230 : Cond.methodLink RX4 106 yX0_nameAt ∈ gG := inG 245 (by decide +kernel) (by decide +kernel)
theorem kw231 : Cond.instanceMethod yX0_nameAt ∈ gG := inG 246 (by decide +kernel) (by decide +kernel)
theorem kw232 : Cond.selects RX0 yX0_nameAt yX0_nameAt ∈ gG := inG 247 (by decide +kernel) (by decide +kernel)
theorem kw233 : Cond.fieldLink RX4 40 RX3 "words" "[J" ∈ gG := inG 139 (by decide +kernel) (by decide +kernel)
theorem kw234 : Cond.methodLink RX4 115 yX3_locate ∈ gG := inG 544 (by decide +kernel) (by decide +kernel)
theorem hdX4_takeInterrupt : yX4_takeInterrupt.cls ≠ "java/lang/invoke/MethodHandle" ∧ yX4_takeInterrupt.cls ≠ "java/lang/invoke/VarHandle" ∧ (parseMethodDescriptor yX4_takeInterrupt.desc).map (fun d => d.parameters.length) = some 0 := by decide +kernel
theorem hdX4_enter : yX4_enter.cls ≠ "java/lang/invoke/MethodHandle" ∧ yX4_enter.cls ≠ "java/lang/invoke/VarHandle" ∧ (parseMethodDescriptor yX4_enter.desc).map (fun d => d.parameters.length) = some 1 := by decide +kernel
theorem hdX4_perform : yX4_perform.cls ≠ "java/lang/invoke/MethodHandle" ∧ yX4_perform.cls ≠ "java/lang/invoke/VarHandle" ∧ (parseMethodDescriptor yX4_perform.desc).map (fun d => d.parameters.length) = some 0 := by decide +kernel
theorem hdX0_nameAt : yX0_nameAt.cls ≠ "java/lang/invoke/MethodHandle" ∧ yX0_nameAt.cls ≠ "java/lang/invoke/VarHandle" ∧ (parseMethodDescriptor yX0_nameAt.desc).map (fun d => d.parameters.length) = some 1 := by decide +kernel
