theorem dX0_init_0 : decode cX0_init 0 = .ok (.aload_n 0, 1) := by decide +kernel
theorem dX0_init_1 : decode cX0_init 1 = .ok (.invokespecial 3, 3) := by decide +kernel
theorem dX0_init_4 : decode cX0_init 4 = .ok (.aload_n 0, 1) := by decide +kernel
theorem dX0_init_5 : decode cX0_init 5 = .ok (.new 9, 3) := by decide +kernel
theorem dX0_init_8 : decode cX0_init 8 = .ok (.dup, 1) := by decide +kernel
theorem dX0_init_9 : decode cX0_init 9 = .ok (.invokespecial 11, 3) := by decide +kernel
theorem dX0_init_12 : decode cX0_init 12 = .ok (.putfield 12, 3) := by decide +kernel
theorem dX0_init_15 : decode cX0_init 15 = .ok (.aload_n 0, 1) := by decide +kernel
theorem dX0_init_16 : decode cX0_init 16 = .ok (.new 16, 3) := by decide +kernel
theorem dX0_init_19 : decode cX0_init 19 = .ok (.dup, 1) := by decide +kernel
theorem dX0_init_20 : decode cX0_init 20 = .ok (.aload_n 0, 1) := by decide +kernel
theorem dX0_init_21 : decode cX0_init 21 = .ok (.getfield 12, 3) := by decide +kernel
theorem dX0_init_24 : decode cX0_init 24 = .ok (.invokespecial 18, 3) := by decide +kernel
theorem dX0_init_27 : decode cX0_init 27 = .ok (.putfield 21, 3) := by decide +kernel
theorem dX0_init_30 : decode cX0_init 30 = .ok (.aload_n 0, 1) := by decide +kernel
theorem dX0_init_31 : decode cX0_init 31 = .ok (.new 25, 3) := by decide +kernel
theorem dX0_init_34 : decode cX0_init 34 = .ok (.dup, 1) := by decide +kernel
theorem dX0_init_35 : decode cX0_init 35 = .ok (.invokespecial 27, 3) := by decide +kernel
theorem dX0_init_38 : decode cX0_init 38 = .ok (.putfield 28, 3) := by decide +kernel
theorem dX0_init_41 : decode cX0_init 41 = .ok (.aload_n 0, 1) := by decide +kernel
theorem dX0_init_42 : decode cX0_init 42 = .ok (.new 32, 3) := by decide +kernel
theorem dX0_init_45 : decode cX0_init 45 = .ok (.dup, 1) := by decide +kernel
theorem dX0_init_46 : decode cX0_init 46 = .ok (.aload_n 0, 1) := by decide +kernel
theorem dX0_init_47 : decode cX0_init 47 = .ok (.getfield 12, 3) := by decide +kernel
theorem dX0_init_50 : decode cX0_init 50 = .ok (.invokespecial 34, 3) := by decide +kernel
theorem dX0_init_53 : decode cX0_init 53 = .ok (.putfield 35, 3) := by decide +kernel
theorem dX0_init_56 : decode cX0_init 56 = .ok (.return_, 1) := by decide +kernel
theorem dJA_fillJ_0 : decode cJA_fillJ 0 = .ok (.iconst 0, 1) := by decide +kernel
theorem dJA_fillJ_1 : decode cJA_fillJ 1 = .ok (.istore_n 3, 1) := by decide +kernel
theorem dJA_fillJ_2 : decode cJA_fillJ 2 = .ok (.aload_n 0, 1) := by decide +kernel
theorem dJA_fillJ_3 : decode cJA_fillJ 3 = .ok (.arraylength, 1) := by decide +kernel
theorem dJA_fillJ_4 : decode cJA_fillJ 4 = .ok (.istore 4, 2) := by decide +kernel
theorem dJA_fillJ_6 : decode cJA_fillJ 6 = .ok (.iload_n 3, 1) := by decide +kernel
theorem dJA_fillJ_7 : decode cJA_fillJ 7 = .ok (.iload 4, 2) := by decide +kernel
theorem dJA_fillJ_9 : decode cJA_fillJ 9 = .ok (.if_icmp .ge 13, 3) := by decide +kernel
theorem dJA_fillJ_12 : decode cJA_fillJ 12 = .ok (.aload_n 0, 1) := by decide +kernel
theorem dJA_fillJ_13 : decode cJA_fillJ 13 = .ok (.iload_n 3, 1) := by decide +kernel
theorem dJA_fillJ_14 : decode cJA_fillJ 14 = .ok (.lload_n 1, 1) := by decide +kernel
theorem dJA_fillJ_15 : decode cJA_fillJ 15 = .ok (.lastore, 1) := by decide +kernel
theorem dJA_fillJ_16 : decode cJA_fillJ 16 = .ok (.iinc 3 1, 3) := by decide +kernel
theorem dJA_fillJ_19 : decode cJA_fillJ 19 = .ok (.goto (-13), 3) := by decide +kernel
theorem dJA_fillJ_22 : decode cJA_fillJ 22 = .ok (.return_, 1) := by decide +kernel
theorem dJA_fillI_0 : decode cJA_fillI 0 = .ok (.iconst 0, 1) := by decide +kernel
theorem dJA_fillI_1 : decode cJA_fillI 1 = .ok (.istore_n 2, 1) := by decide +kernel
theorem dJA_fillI_2 : decode cJA_fillI 2 = .ok (.aload_n 0, 1) := by decide +kernel
theorem dJA_fillI_3 : decode cJA_fillI 3 = .ok (.arraylength, 1) := by decide +kernel
theorem dJA_fillI_4 : decode cJA_fillI 4 = .ok (.istore_n 3, 1) := by decide +kernel
theorem dJA_fillI_5 : decode cJA_fillI 5 = .ok (.iload_n 2, 1) := by decide +kernel
theorem dJA_fillI_6 : decode cJA_fillI 6 = .ok (.iload_n 3, 1) := by decide +kernel
theorem dJA_fillI_7 : decode cJA_fillI 7 = .ok (.if_icmp .ge 13, 3) := by decide +kernel
theorem dJA_fillI_10 : decode cJA_fillI 10 = .ok (.aload_n 0, 1) := by decide +kernel
theorem dJA_fillI_11 : decode cJA_fillI 11 = .ok (.iload_n 2, 1) := by decide +kernel
theorem dJA_fillI_12 : decode cJA_fillI 12 = .ok (.iload_n 1, 1) := by decide +kernel
theorem dJA_fillI_13 : decode cJA_fillI 13 = .ok (.iastore, 1) := by decide +kernel
theorem dJA_fillI_14 : decode cJA_fillI 14 = .ok (.iinc 2 1, 3) := by decide +kernel
theorem dJA_fillI_17 : decode cJA_fillI 17 = .ok (.goto (-12), 3) := by decide +kernel
theorem dJA_fillI_20 : decode cJA_fillI 20 = .ok (.return_, 1) := by decide +kernel
theorem dX0_act_0 : decode cX0_act 0 = .ok (.iload_n 1, 1) := by decide +kernel
theorem dX0_act_1 : decode cX0_act 1 = .ok (.iconst (-1), 1) := by decide +kernel
theorem dX0_act_2 : decode cX0_act 2 = .ok (.if_icmp .eq 10, 3) := by decide +kernel
theorem dX0_act_5 : decode cX0_act 5 = .ok (.iload_n 1, 1) := by decide +kernel
theorem dX0_act_6 : decode cX0_act 6 = .ok (.invokestatic 39, 3) := by decide +kernel
theorem dX0_act_9 : decode cX0_act 9 = .ok (.ifCond .eq 7, 3) := by decide +kernel
theorem dX0_act_12 : decode cX0_act 12 = .ok (.iconst 1, 1) := by decide +kernel
theorem dX0_act_13 : decode cX0_act 13 = .ok (.goto 4, 3) := by decide +kernel
theorem dX0_act_16 : decode cX0_act 16 = .ok (.iconst 0, 1) := by decide +kernel
theorem dX0_act_17 : decode cX0_act 17 = .ok (.istore 6, 2) := by decide +kernel
theorem dX0_act_19 : decode cX0_act 19 = .ok (.aload_n 0, 1) := by decide +kernel
theorem dX0_act_20 : decode cX0_act 20 = .ok (.getfield 12, 3) := by decide +kernel
theorem dX0_act_23 : decode cX0_act 23 = .ok (.getfield 43, 3) := by decide +kernel
theorem dX0_act_26 : decode cX0_act 26 = .ok (.bipush 10, 2) := by decide +kernel
theorem dX0_act_28 : decode cX0_act 28 = .ok (.if_icmp .ge 30, 3) := by decide +kernel
theorem dX0_act_31 : decode cX0_act 31 = .ok (.iload 6, 2) := by decide +kernel
theorem dX0_act_33 : decode cX0_act 33 = .ok (.ifCond .eq 25, 3) := by decide +kernel
theorem dX0_act_36 : decode cX0_act 36 = .ok (.iload_n 2, 1) := by decide +kernel
theorem dX0_act_37 : decode cX0_act 37 = .ok (.invokestatic 47, 3) := by decide +kernel
theorem dX0_act_40 : decode cX0_act 40 = .ok (.ifCond .eq 18, 3) := by decide +kernel
theorem dX0_act_43 : decode cX0_act 43 = .ok (.iload_n 3, 1) := by decide +kernel
theorem dX0_act_44 : decode cX0_act 44 = .ok (.invokestatic 47, 3) := by decide +kernel
theorem dX0_act_47 : decode cX0_act 47 = .ok (.ifCond .eq 11, 3) := by decide +kernel
theorem dX0_act_50 : decode cX0_act 50 = .ok (.lload 4, 2) := by decide +kernel
theorem dX0_act_52 : decode cX0_act 52 = .ok (.invokestatic 50, 3) := by decide +kernel
theorem dX0_act_55 : decode cX0_act 55 = .ok (.ifCond .ne 5, 3) := by decide +kernel
theorem dX0_act_58 : decode cX0_act 58 = .ok (.iconst (-1), 1) := by decide +kernel
theorem dX0_act_59 : decode cX0_act 59 = .ok (.ireturn, 1) := by decide +kernel
theorem dX0_act_60 : decode cX0_act 60 = .ok (.aload_n 0, 1) := by decide +kernel
theorem dX0_act_61 : decode cX0_act 61 = .ok (.getfield 28, 3) := by decide +kernel
theorem dX0_act_64 : decode cX0_act 64 = .ok (.iconst 0, 1) := by decide +kernel
theorem dX0_act_65 : decode cX0_act 65 = .ok (.putfield 54, 3) := by decide +kernel
theorem dX0_act_68 : decode cX0_act 68 = .ok (.aload_n 0, 1) := by decide +kernel
theorem dX0_act_69 : decode cX0_act 69 = .ok (.getfield 12, 3) := by decide +kernel
theorem dX0_act_72 : decode cX0_act 72 = .ok (.iload_n 1, 1) := by decide +kernel
theorem dX0_act_73 : decode cX0_act 73 = .ok (.iload_n 2, 1) := by decide +kernel
theorem dX0_act_74 : decode cX0_act 74 = .ok (.iload_n 3, 1) := by decide +kernel
theorem dX0_act_75 : decode cX0_act 75 = .ok (.lload 4, 2) := by decide +kernel
theorem dX0_act_77 : decode cX0_act 77 = .ok (.invokevirtual 58, 3) := by decide +kernel
theorem dX0_act_80 : decode cX0_act 80 = .ok (.ireturn, 1) := by decide +kernel
theorem dX0_isPart_0 : decode cX0_isPart 0 = .ok (.iload_n 0, 1) := by decide +kernel
theorem dX0_isPart_1 : decode cX0_isPart 1 = .ok (.ifCond .lt 13, 3) := by decide +kernel
theorem dX0_isPart_4 : decode cX0_isPart 4 = .ok (.iload_n 0, 1) := by decide +kernel
theorem dX0_isPart_5 : decode cX0_isPart 5 = .ok (.bipush 12, 2) := by decide +kernel
theorem dX0_isPart_7 : decode cX0_isPart 7 = .ok (.if_icmp .ge 7, 3) := by decide +kernel
theorem dX0_isPart_10 : decode cX0_isPart 10 = .ok (.iconst 1, 1) := by decide +kernel
theorem dX0_isPart_11 : decode cX0_isPart 11 = .ok (.goto 4, 3) := by decide +kernel
theorem dX0_isPart_14 : decode cX0_isPart 14 = .ok (.iconst 0, 1) := by decide +kernel
theorem dX0_isPart_15 : decode cX0_isPart 15 = .ok (.ireturn, 1) := by decide +kernel
theorem dX0_isKind_0 : decode cX0_isKind 0 = .ok (.iload_n 0, 1) := by decide +kernel
theorem dX0_isKind_1 : decode cX0_isKind 1 = .ok (.ifCond .lt 13, 3) := by decide +kernel
theorem dX0_isKind_4 : decode cX0_isKind 4 = .ok (.iload_n 0, 1) := by decide +kernel
theorem dX0_isKind_5 : decode cX0_isKind 5 = .ok (.bipush 6, 2) := by decide +kernel
theorem dX0_isKind_7 : decode cX0_isKind 7 = .ok (.if_icmp .ge 7, 3) := by decide +kernel
theorem dX0_isKind_10 : decode cX0_isKind 10 = .ok (.iconst 1, 1) := by decide +kernel
theorem dX0_isKind_11 : decode cX0_isKind 11 = .ok (.goto 4, 3) := by decide +kernel
theorem dX0_isKind_14 : decode cX0_isKind 14 = .ok (.iconst 0, 1) := by decide +kernel
theorem dX0_isKind_15 : decode cX0_isKind 15 = .ok (.ireturn, 1) := by decide +kernel
theorem dX0_isPrice_0 : decode cX0_isPrice 0 = .ok (.lload_n 0, 1) := by decide +kernel
theorem dX0_isPrice_1 : decode cX0_isPrice 1 = .ok (.lconst 0, 1) := by decide +kernel
theorem dX0_isPrice_2 : decode cX0_isPrice 2 = .ok (.lcmp, 1) := by decide +kernel
theorem dX0_isPrice_3 : decode cX0_isPrice 3 = .ok (.ifCond .lt 15, 3) := by decide +kernel
theorem dX0_isPrice_6 : decode cX0_isPrice 6 = .ok (.lload_n 0, 1) := by decide +kernel
theorem dX0_isPrice_7 : decode cX0_isPrice 7 = .ok (.ldc2_w 180, 3) := by decide +kernel
theorem dX0_isPrice_10 : decode cX0_isPrice 10 = .ok (.lcmp, 1) := by decide +kernel
theorem dX0_isPrice_11 : decode cX0_isPrice 11 = .ok (.ifCond .gt 7, 3) := by decide +kernel
theorem dX0_isPrice_14 : decode cX0_isPrice 14 = .ok (.iconst 1, 1) := by decide +kernel
theorem dX0_isPrice_15 : decode cX0_isPrice 15 = .ok (.goto 4, 3) := by decide +kernel
theorem dX0_isPrice_18 : decode cX0_isPrice 18 = .ok (.iconst 0, 1) := by decide +kernel
theorem dX0_isPrice_19 : decode cX0_isPrice 19 = .ok (.ireturn, 1) := by decide +kernel
theorem dX0_before_0 : decode cX0_before 0 = .ok (.aload_n 0, 1) := by decide +kernel
theorem dX0_before_1 : decode cX0_before 1 = .ok (.getfield 12, 3) := by decide +kernel
theorem dX0_before_4 : decode cX0_before 4 = .ok (.iload_n 1, 1) := by decide +kernel
theorem dX0_before_5 : decode cX0_before 5 = .ok (.invokevirtual 62, 3) := by decide +kernel
theorem dX0_before_8 : decode cX0_before 8 = .ok (.ifCond .eq 35, 3) := by decide +kernel
theorem dX0_before_11 : decode cX0_before 11 = .ok (.aload_n 0, 1) := by decide +kernel
theorem dX0_before_12 : decode cX0_before 12 = .ok (.getfield 12, 3) := by decide +kernel
theorem dX0_before_15 : decode cX0_before 15 = .ok (.iload_n 2, 1) := by decide +kernel
theorem dX0_before_16 : decode cX0_before 16 = .ok (.invokevirtual 62, 3) := by decide +kernel
theorem dX0_before_19 : decode cX0_before 19 = .ok (.ifCond .eq 24, 3) := by decide +kernel
theorem dX0_before_22 : decode cX0_before 22 = .ok (.iload_n 1, 1) := by decide +kernel
theorem dX0_before_23 : decode cX0_before 23 = .ok (.iload_n 2, 1) := by decide +kernel
theorem dX0_before_24 : decode cX0_before 24 = .ok (.if_icmp .eq 19, 3) := by decide +kernel
theorem dX0_before_27 : decode cX0_before 27 = .ok (.aload_n 0, 1) := by decide +kernel
theorem dX0_before_28 : decode cX0_before 28 = .ok (.getfield 12, 3) := by decide +kernel
theorem dX0_before_31 : decode cX0_before 31 = .ok (.getfield 65, 3) := by decide +kernel
theorem dX0_before_34 : decode cX0_before 34 = .ok (.iload_n 1, 1) := by decide +kernel
theorem dX0_before_35 : decode cX0_before 35 = .ok (.iaload, 1) := by decide +kernel
theorem dX0_before_36 : decode cX0_before 36 = .ok (.iload_n 2, 1) := by decide +kernel
theorem dX0_before_37 : decode cX0_before 37 = .ok (.invokestatic 69, 3) := by decide +kernel
theorem dX0_before_40 : decode cX0_before 40 = .ok (.ifCond .eq 5, 3) := by decide +kernel
theorem dX0_before_43 : decode cX0_before 43 = .ok (.iconst 0, 1) := by decide +kernel
theorem dX0_before_44 : decode cX0_before 44 = .ok (.ireturn, 1) := by decide +kernel
theorem dX0_before_45 : decode cX0_before 45 = .ok (.aload_n 0, 1) := by decide +kernel
theorem dX0_before_46 : decode cX0_before 46 = .ok (.getfield 12, 3) := by decide +kernel
theorem dX0_before_49 : decode cX0_before 49 = .ok (.iload_n 1, 1) := by decide +kernel
theorem dX0_before_50 : decode cX0_before 50 = .ok (.iload_n 2, 1) := by decide +kernel
theorem dX0_before_51 : decode cX0_before 51 = .ok (.invokevirtual 73, 3) := by decide +kernel
theorem dX0_before_54 : decode cX0_before 54 = .ok (.aload_n 0, 1) := by decide +kernel
theorem dX0_before_55 : decode cX0_before 55 = .ok (.getfield 28, 3) := by decide +kernel
theorem dX0_before_58 : decode cX0_before 58 = .ok (.iconst 0, 1) := by decide +kernel
theorem dX0_before_59 : decode cX0_before 59 = .ok (.putfield 54, 3) := by decide +kernel
theorem dX0_before_62 : decode cX0_before 62 = .ok (.iconst 1, 1) := by decide +kernel
theorem dX0_before_63 : decode cX0_before 63 = .ok (.ireturn, 1) := by decide +kernel
theorem dX0_has_0 : decode cX0_has 0 = .ok (.iload_n 0, 1) := by decide +kernel
theorem dX0_has_1 : decode cX0_has 1 = .ok (.iload_n 1, 1) := by decide +kernel
theorem dX0_has_2 : decode cX0_has 2 = .ok (.ishr, 1) := by decide +kernel
theorem dX0_has_3 : decode cX0_has 3 = .ok (.iconst 1, 1) := by decide +kernel
theorem dX0_has_4 : decode cX0_has 4 = .ok (.iand, 1) := by decide +kernel
theorem dX0_has_5 : decode cX0_has 5 = .ok (.ifCond .eq 7, 3) := by decide +kernel
theorem dX0_has_8 : decode cX0_has 8 = .ok (.iconst 1, 1) := by decide +kernel
theorem dX0_has_9 : decode cX0_has 9 = .ok (.goto 4, 3) := by decide +kernel
theorem dX0_has_12 : decode cX0_has 12 = .ok (.iconst 0, 1) := by decide +kernel
theorem dX0_has_13 : decode cX0_has 13 = .ok (.ireturn, 1) := by decide +kernel
theorem dX0_change_0 : decode cX0_change 0 = .ok (.iload_n 1, 1) := by decide +kernel
theorem dX0_change_1 : decode cX0_change 1 = .ok (.iload_n 2, 1) := by decide +kernel
theorem dX0_change_2 : decode cX0_change 2 = .ok (.invokestatic 77, 3) := by decide +kernel
theorem dX0_change_5 : decode cX0_change 5 = .ok (.ifCond .eq 10, 3) := by decide +kernel
theorem dX0_change_8 : decode cX0_change 8 = .ok (.lload_n 3, 1) := by decide +kernel
theorem dX0_change_9 : decode cX0_change 9 = .ok (.invokestatic 50, 3) := by decide +kernel
theorem dX0_change_12 : decode cX0_change 12 = .ok (.ifCond .ne 5, 3) := by decide +kernel
theorem dX0_change_15 : decode cX0_change 15 = .ok (.iconst 0, 1) := by decide +kernel
theorem dX0_change_16 : decode cX0_change 16 = .ok (.ireturn, 1) := by decide +kernel
theorem dX0_change_17 : decode cX0_change 17 = .ok (.aload_n 0, 1) := by decide +kernel
theorem dX0_change_18 : decode cX0_change 18 = .ok (.getfield 12, 3) := by decide +kernel
theorem dX0_change_21 : decode cX0_change 21 = .ok (.getfield 80, 3) := by decide +kernel
theorem dX0_change_24 : decode cX0_change 24 = .ok (.iload_n 1, 1) := by decide +kernel
theorem dX0_change_25 : decode cX0_change 25 = .ok (.bipush 6, 2) := by decide +kernel
theorem dX0_change_27 : decode cX0_change 27 = .ok (.imul, 1) := by decide +kernel
theorem dX0_change_28 : decode cX0_change 28 = .ok (.iload_n 2, 1) := by decide +kernel
theorem dX0_change_29 : decode cX0_change 29 = .ok (.iadd, 1) := by decide +kernel
theorem dX0_change_30 : decode cX0_change 30 = .ok (.lload_n 3, 1) := by decide +kernel
theorem dX0_change_31 : decode cX0_change 31 = .ok (.lastore, 1) := by decide +kernel
theorem dX0_change_32 : decode cX0_change 32 = .ok (.aload_n 0, 1) := by decide +kernel
theorem dX0_change_33 : decode cX0_change 33 = .ok (.getfield 28, 3) := by decide +kernel
theorem dX0_change_36 : decode cX0_change 36 = .ok (.iconst 0, 1) := by decide +kernel
theorem dX0_change_37 : decode cX0_change 37 = .ok (.putfield 54, 3) := by decide +kernel
theorem dX0_change_40 : decode cX0_change 40 = .ok (.iconst 1, 1) := by decide +kernel
theorem dX0_change_41 : decode cX0_change 41 = .ok (.ireturn, 1) := by decide +kernel
theorem dX0_isMove_0 : decode cX0_isMove 0 = .ok (.iload_n 0, 1) := by decide +kernel
theorem dX0_isMove_1 : decode cX0_isMove 1 = .ok (.invokestatic 47, 3) := by decide +kernel
theorem dX0_isMove_4 : decode cX0_isMove 4 = .ok (.ifCond .eq 19, 3) := by decide +kernel
theorem dX0_isMove_7 : decode cX0_isMove 7 = .ok (.iload_n 1, 1) := by decide +kernel
theorem dX0_isMove_8 : decode cX0_isMove 8 = .ok (.invokestatic 47, 3) := by decide +kernel
theorem dX0_isMove_11 : decode cX0_isMove 11 = .ok (.ifCond .eq 12, 3) := by decide +kernel
theorem dX0_isMove_14 : decode cX0_isMove 14 = .ok (.iload_n 0, 1) := by decide +kernel
theorem dX0_isMove_15 : decode cX0_isMove 15 = .ok (.iload_n 1, 1) := by decide +kernel
theorem dX0_isMove_16 : decode cX0_isMove 16 = .ok (.if_icmp .eq 7, 3) := by decide +kernel
theorem dX0_isMove_19 : decode cX0_isMove 19 = .ok (.iconst 1, 1) := by decide +kernel
theorem dX0_isMove_20 : decode cX0_isMove 20 = .ok (.goto 4, 3) := by decide +kernel
theorem dX0_isMove_23 : decode cX0_isMove 23 = .ok (.iconst 0, 1) := by decide +kernel
theorem dX0_isMove_24 : decode cX0_isMove 24 = .ok (.ireturn, 1) := by decide +kernel
theorem dX0_turn_0 : decode cX0_turn 0 = .ok (.iload_n 1, 1) := by decide +kernel
theorem dX0_turn_1 : decode cX0_turn 1 = .ok (.iload_n 2, 1) := by decide +kernel
theorem dX0_turn_2 : decode cX0_turn 2 = .ok (.invokestatic 77, 3) := by decide +kernel
theorem dX0_turn_5 : decode cX0_turn 5 = .ok (.ifCond .eq 10, 3) := by decide +kernel
theorem dX0_turn_8 : decode cX0_turn 8 = .ok (.lload_n 3, 1) := by decide +kernel
theorem dX0_turn_9 : decode cX0_turn 9 = .ok (.invokestatic 50, 3) := by decide +kernel
theorem dX0_turn_12 : decode cX0_turn 12 = .ok (.ifCond .ne 5, 3) := by decide +kernel
theorem dX0_turn_15 : decode cX0_turn 15 = .ok (.iconst 0, 1) := by decide +kernel
theorem dX0_turn_16 : decode cX0_turn 16 = .ok (.ireturn, 1) := by decide +kernel
theorem dX0_turn_17 : decode cX0_turn 17 = .ok (.aload_n 0, 1) := by decide +kernel
theorem dX0_turn_18 : decode cX0_turn 18 = .ok (.getfield 12, 3) := by decide +kernel
theorem dX0_turn_21 : decode cX0_turn 21 = .ok (.getfield 84, 3) := by decide +kernel
theorem dX0_turn_24 : decode cX0_turn 24 = .ok (.iload_n 1, 1) := by decide +kernel
theorem dX0_turn_25 : decode cX0_turn 25 = .ok (.bipush 6, 2) := by decide +kernel
theorem dX0_turn_27 : decode cX0_turn 27 = .ok (.imul, 1) := by decide +kernel
theorem dX0_turn_28 : decode cX0_turn 28 = .ok (.iload_n 2, 1) := by decide +kernel
theorem dX0_turn_29 : decode cX0_turn 29 = .ok (.iadd, 1) := by decide +kernel
theorem dX0_turn_30 : decode cX0_turn 30 = .ok (.lload_n 3, 1) := by decide +kernel
theorem dX0_turn_31 : decode cX0_turn 31 = .ok (.lastore, 1) := by decide +kernel
theorem dX0_turn_32 : decode cX0_turn 32 = .ok (.aload_n 0, 1) := by decide +kernel
theorem dX0_turn_33 : decode cX0_turn 33 = .ok (.getfield 28, 3) := by decide +kernel
theorem dX0_turn_36 : decode cX0_turn 36 = .ok (.iconst 0, 1) := by decide +kernel
theorem dX0_turn_37 : decode cX0_turn 37 = .ok (.putfield 54, 3) := by decide +kernel
theorem dX0_turn_40 : decode cX0_turn 40 = .ok (.iconst 1, 1) := by decide +kernel
theorem dX0_turn_41 : decode cX0_turn 41 = .ok (.ireturn, 1) := by decide +kernel
theorem dX0_worth_0 : decode cX0_worth 0 = .ok (.iload_n 1, 1) := by decide +kernel
theorem dX0_worth_1 : decode cX0_worth 1 = .ok (.invokestatic 39, 3) := by decide +kernel
theorem dX0_worth_4 : decode cX0_worth 4 = .ok (.ifCond .eq 10, 3) := by decide +kernel
theorem dX0_worth_7 : decode cX0_worth 7 = .ok (.lload_n 2, 1) := by decide +kernel
theorem dX0_worth_8 : decode cX0_worth 8 = .ok (.invokestatic 87, 3) := by decide +kernel
theorem dX0_worth_11 : decode cX0_worth 11 = .ok (.ifCond .ne 5, 3) := by decide +kernel
theorem dX0_worth_14 : decode cX0_worth 14 = .ok (.iconst 0, 1) := by decide +kernel
theorem dX0_worth_15 : decode cX0_worth 15 = .ok (.ireturn, 1) := by decide +kernel
theorem dX0_worth_16 : decode cX0_worth 16 = .ok (.aload_n 0, 1) := by decide +kernel
theorem dX0_worth_17 : decode cX0_worth 17 = .ok (.getfield 12, 3) := by decide +kernel
theorem dX0_worth_20 : decode cX0_worth 20 = .ok (.getfield 90, 3) := by decide +kernel
theorem dX0_worth_23 : decode cX0_worth 23 = .ok (.iload_n 1, 1) := by decide +kernel
theorem dX0_worth_24 : decode cX0_worth 24 = .ok (.lload_n 2, 1) := by decide +kernel
theorem dX0_worth_25 : decode cX0_worth 25 = .ok (.lastore, 1) := by decide +kernel
theorem dX0_worth_26 : decode cX0_worth 26 = .ok (.aload_n 0, 1) := by decide +kernel
theorem dX0_worth_27 : decode cX0_worth 27 = .ok (.getfield 28, 3) := by decide +kernel
theorem dX0_worth_30 : decode cX0_worth 30 = .ok (.iconst 0, 1) := by decide +kernel
theorem dX0_worth_31 : decode cX0_worth 31 = .ok (.putfield 54, 3) := by decide +kernel
theorem dX0_worth_34 : decode cX0_worth 34 = .ok (.iconst 1, 1) := by decide +kernel
theorem dX0_worth_35 : decode cX0_worth 35 = .ok (.ireturn, 1) := by decide +kernel
theorem dX0_isWorth_0 : decode cX0_isWorth 0 = .ok (.lload_n 0, 1) := by decide +kernel
theorem dX0_isWorth_1 : decode cX0_isWorth 1 = .ok (.ldc2_w 182, 3) := by decide +kernel
theorem dX0_isWorth_4 : decode cX0_isWorth 4 = .ok (.lcmp, 1) := by decide +kernel
theorem dX0_isWorth_5 : decode cX0_isWorth 5 = .ok (.ifCond .lt 15, 3) := by decide +kernel
theorem dX0_isWorth_8 : decode cX0_isWorth 8 = .ok (.lload_n 0, 1) := by decide +kernel
theorem dX0_isWorth_9 : decode cX0_isWorth 9 = .ok (.ldc2_w 180, 3) := by decide +kernel
theorem dX0_isWorth_12 : decode cX0_isWorth 12 = .ok (.lcmp, 1) := by decide +kernel
theorem dX0_isWorth_13 : decode cX0_isWorth 13 = .ok (.ifCond .gt 7, 3) := by decide +kernel
theorem dX0_isWorth_16 : decode cX0_isWorth 16 = .ok (.iconst 1, 1) := by decide +kernel
theorem dX0_isWorth_17 : decode cX0_isWorth 17 = .ok (.goto 4, 3) := by decide +kernel
theorem dX0_isWorth_20 : decode cX0_isWorth 20 = .ok (.iconst 0, 1) := by decide +kernel
theorem dX0_isWorth_21 : decode cX0_isWorth 21 = .ok (.ireturn, 1) := by decide +kernel
theorem dX0_rest_0 : decode cX0_rest 0 = .ok (.lload_n 1, 1) := by decide +kernel
theorem dX0_rest_1 : decode cX0_rest 1 = .ok (.lconst 0, 1) := by decide +kernel
theorem dX0_rest_2 : decode cX0_rest 2 = .ok (.lcmp, 1) := by decide +kernel
theorem dX0_rest_3 : decode cX0_rest 3 = .ok (.ifCond .lt 31, 3) := by decide +kernel
theorem dX0_rest_6 : decode cX0_rest 6 = .ok (.lload_n 1, 1) := by decide +kernel
theorem dX0_rest_7 : decode cX0_rest 7 = .ok (.ldc2_w 93, 3) := by decide +kernel
theorem dX0_rest_10 : decode cX0_rest 10 = .ok (.lcmp, 1) := by decide +kernel
theorem dX0_rest_11 : decode cX0_rest 11 = .ok (.ifCond .gt 23, 3) := by decide +kernel
theorem dX0_rest_14 : decode cX0_rest 14 = .ok (.lload_n 3, 1) := by decide +kernel
theorem dX0_rest_15 : decode cX0_rest 15 = .ok (.invokestatic 87, 3) := by decide +kernel
theorem dX0_rest_18 : decode cX0_rest 18 = .ok (.ifCond .eq 16, 3) := by decide +kernel
theorem dX0_rest_21 : decode cX0_rest 21 = .ok (.aload_n 0, 1) := by decide +kernel
theorem dX0_rest_22 : decode cX0_rest 22 = .ok (.getfield 12, 3) := by decide +kernel
theorem dX0_rest_25 : decode cX0_rest 25 = .ok (.lload_n 1, 1) := by decide +kernel
theorem dX0_rest_26 : decode cX0_rest 26 = .ok (.l2i, 1) := by decide +kernel
theorem dX0_rest_27 : decode cX0_rest 27 = .ok (.lload_n 3, 1) := by decide +kernel
theorem dX0_rest_28 : decode cX0_rest 28 = .ok (.invokevirtual 95, 3) := by decide +kernel
theorem dX0_rest_31 : decode cX0_rest 31 = .ok (.ifCond .ne 5, 3) := by decide +kernel
theorem dX0_rest_34 : decode cX0_rest 34 = .ok (.iconst 0, 1) := by decide +kernel
theorem dX0_rest_35 : decode cX0_rest 35 = .ok (.ireturn, 1) := by decide +kernel
theorem dX0_rest_36 : decode cX0_rest 36 = .ok (.aload_n 0, 1) := by decide +kernel
theorem dX0_rest_37 : decode cX0_rest 37 = .ok (.getfield 28, 3) := by decide +kernel
theorem dX0_rest_40 : decode cX0_rest 40 = .ok (.iconst 0, 1) := by decide +kernel
theorem dX0_rest_41 : decode cX0_rest 41 = .ok (.putfield 54, 3) := by decide +kernel
theorem dX0_rest_44 : decode cX0_rest 44 = .ok (.iconst 1, 1) := by decide +kernel
theorem dX0_rest_45 : decode cX0_rest 45 = .ok (.ireturn, 1) := by decide +kernel
theorem dX0_breaks_0 : decode cX0_breaks 0 = .ok (.aload_n 0, 1) := by decide +kernel
theorem dX0_breaks_1 : decode cX0_breaks 1 = .ok (.getfield 12, 3) := by decide +kernel
theorem dX0_breaks_4 : decode cX0_breaks 4 = .ok (.iload_n 1, 1) := by decide +kernel
theorem dX0_breaks_5 : decode cX0_breaks 5 = .ok (.invokevirtual 62, 3) := by decide +kernel
theorem dX0_breaks_8 : decode cX0_breaks 8 = .ok (.ifCond .eq 17, 3) := by decide +kernel
theorem dX0_breaks_11 : decode cX0_breaks 11 = .ok (.aload_n 0, 1) := by decide +kernel
theorem dX0_breaks_12 : decode cX0_breaks 12 = .ok (.getfield 12, 3) := by decide +kernel
theorem dX0_breaks_15 : decode cX0_breaks 15 = .ok (.getfield 99, 3) := by decide +kernel
theorem dX0_breaks_18 : decode cX0_breaks 18 = .ok (.iload_n 1, 1) := by decide +kernel
theorem dX0_breaks_19 : decode cX0_breaks 19 = .ok (.invokestatic 69, 3) := by decide +kernel
theorem dX0_breaks_22 : decode cX0_breaks 22 = .ok (.ifCond .eq 5, 3) := by decide +kernel
theorem dX0_breaks_25 : decode cX0_breaks 25 = .ok (.iconst 0, 1) := by decide +kernel
theorem dX0_breaks_26 : decode cX0_breaks 26 = .ok (.ireturn, 1) := by decide +kernel
theorem dX0_breaks_27 : decode cX0_breaks 27 = .ok (.aload_n 0, 1) := by decide +kernel
theorem dX0_breaks_28 : decode cX0_breaks 28 = .ok (.getfield 12, 3) := by decide +kernel
theorem dX0_breaks_31 : decode cX0_breaks 31 = .ok (.dup, 1) := by decide +kernel
theorem dX0_breaks_32 : decode cX0_breaks 32 = .ok (.getfield 99, 3) := by decide +kernel
theorem dX0_breaks_35 : decode cX0_breaks 35 = .ok (.iconst 1, 1) := by decide +kernel
theorem dX0_breaks_36 : decode cX0_breaks 36 = .ok (.iload_n 1, 1) := by decide +kernel
theorem dX0_breaks_37 : decode cX0_breaks 37 = .ok (.ishl, 1) := by decide +kernel
theorem dX0_breaks_38 : decode cX0_breaks 38 = .ok (.ior, 1) := by decide +kernel
theorem dX0_breaks_39 : decode cX0_breaks 39 = .ok (.putfield 99, 3) := by decide +kernel
theorem dX0_breaks_42 : decode cX0_breaks 42 = .ok (.aload_n 0, 1) := by decide +kernel
theorem dX0_breaks_43 : decode cX0_breaks 43 = .ok (.getfield 28, 3) := by decide +kernel
theorem dX0_breaks_46 : decode cX0_breaks 46 = .ok (.iconst 0, 1) := by decide +kernel
theorem dX0_breaks_47 : decode cX0_breaks 47 = .ok (.putfield 54, 3) := by decide +kernel
theorem dX0_breaks_50 : decode cX0_breaks 50 = .ok (.iconst 1, 1) := by decide +kernel
theorem dX0_breaks_51 : decode cX0_breaks 51 = .ok (.ireturn, 1) := by decide +kernel
theorem dX0_sure_0 : decode cX0_sure 0 = .ok (.iload_n 1, 1) := by decide +kernel
theorem dX0_sure_1 : decode cX0_sure 1 = .ok (.invokestatic 39, 3) := by decide +kernel
theorem dX0_sure_4 : decode cX0_sure 4 = .ok (.ifCond .eq 32, 3) := by decide +kernel
theorem dX0_sure_7 : decode cX0_sure 7 = .ok (.lload 4, 2) := by decide +kernel
theorem dX0_sure_9 : decode cX0_sure 9 = .ok (.lconst 1, 1) := by decide +kernel
theorem dX0_sure_10 : decode cX0_sure 10 = .ok (.lcmp, 1) := by decide +kernel
theorem dX0_sure_11 : decode cX0_sure 11 = .ok (.ifCond .lt 25, 3) := by decide +kernel
theorem dX0_sure_14 : decode cX0_sure 14 = .ok (.lload 4, 2) := by decide +kernel
theorem dX0_sure_16 : decode cX0_sure 16 = .ok (.ldc2_w 102, 3) := by decide +kernel
theorem dX0_sure_19 : decode cX0_sure 19 = .ok (.lcmp, 1) := by decide +kernel
theorem dX0_sure_20 : decode cX0_sure 20 = .ok (.ifCond .gt 16, 3) := by decide +kernel
theorem dX0_sure_23 : decode cX0_sure 23 = .ok (.lload_n 2, 1) := by decide +kernel
theorem dX0_sure_24 : decode cX0_sure 24 = .ok (.lconst 0, 1) := by decide +kernel
theorem dX0_sure_25 : decode cX0_sure 25 = .ok (.lcmp, 1) := by decide +kernel
theorem dX0_sure_26 : decode cX0_sure 26 = .ok (.ifCond .lt 10, 3) := by decide +kernel
theorem dX0_sure_29 : decode cX0_sure 29 = .ok (.lload_n 2, 1) := by decide +kernel
theorem dX0_sure_30 : decode cX0_sure 30 = .ok (.lload 4, 2) := by decide +kernel
theorem dX0_sure_32 : decode cX0_sure 32 = .ok (.lcmp, 1) := by decide +kernel
theorem dX0_sure_33 : decode cX0_sure 33 = .ok (.ifCond .le 5, 3) := by decide +kernel
theorem dX0_sure_36 : decode cX0_sure 36 = .ok (.iconst 0, 1) := by decide +kernel
theorem dX0_sure_37 : decode cX0_sure 37 = .ok (.ireturn, 1) := by decide +kernel
theorem dX0_sure_38 : decode cX0_sure 38 = .ok (.aload_n 0, 1) := by decide +kernel
theorem dX0_sure_39 : decode cX0_sure 39 = .ok (.getfield 12, 3) := by decide +kernel
theorem dX0_sure_42 : decode cX0_sure 42 = .ok (.getfield 104, 3) := by decide +kernel
theorem dX0_sure_45 : decode cX0_sure 45 = .ok (.iload_n 1, 1) := by decide +kernel
theorem dX0_sure_46 : decode cX0_sure 46 = .ok (.ldc2_w 107, 3) := by decide +kernel
theorem dX0_sure_49 : decode cX0_sure 49 = .ok (.lload 4, 2) := by decide +kernel
theorem dX0_sure_51 : decode cX0_sure 51 = .ok (.ldiv, 1) := by decide +kernel
theorem dX0_sure_52 : decode cX0_sure 52 = .ok (.lload_n 2, 1) := by decide +kernel
theorem dX0_sure_53 : decode cX0_sure 53 = .ok (.lmul, 1) := by decide +kernel
theorem dX0_sure_54 : decode cX0_sure 54 = .ok (.lastore, 1) := by decide +kernel
theorem dX0_sure_55 : decode cX0_sure 55 = .ok (.aload_n 0, 1) := by decide +kernel
theorem dX0_sure_56 : decode cX0_sure 56 = .ok (.getfield 28, 3) := by decide +kernel
theorem dX0_sure_59 : decode cX0_sure 59 = .ok (.iconst 0, 1) := by decide +kernel
theorem dX0_sure_60 : decode cX0_sure 60 = .ok (.putfield 54, 3) := by decide +kernel
theorem dX0_sure_63 : decode cX0_sure 63 = .ok (.iconst 1, 1) := by decide +kernel
theorem dX0_sure_64 : decode cX0_sure 64 = .ok (.ireturn, 1) := by decide +kernel
theorem dX0_states_0 : decode cX0_states 0 = .ok (.aload_n 0, 1) := by decide +kernel
theorem dX0_states_1 : decode cX0_states 1 = .ok (.getfield 12, 3) := by decide +kernel
theorem dX0_states_4 : decode cX0_states 4 = .ok (.invokevirtual 109, 3) := by decide +kernel
theorem dX0_states_7 : decode cX0_states 7 = .ok (.lreturn, 1) := by decide +kernel
theorem dJI_bitCount_0 : decode cJI_bitCount 0 = .ok (.iload_n 0, 1) := by decide +kernel
theorem dJI_bitCount_1 : decode cJI_bitCount 1 = .ok (.iload_n 0, 1) := by decide +kernel
theorem dJI_bitCount_2 : decode cJI_bitCount 2 = .ok (.iconst 1, 1) := by decide +kernel
theorem dJI_bitCount_3 : decode cJI_bitCount 3 = .ok (.iushr, 1) := by decide +kernel
theorem dJI_bitCount_4 : decode cJI_bitCount 4 = .ok (.ldc_w 265, 3) := by decide +kernel
theorem dJI_bitCount_7 : decode cJI_bitCount 7 = .ok (.iand, 1) := by decide +kernel
theorem dJI_bitCount_8 : decode cJI_bitCount 8 = .ok (.isub, 1) := by decide +kernel
theorem dJI_bitCount_9 : decode cJI_bitCount 9 = .ok (.istore_n 0, 1) := by decide +kernel
theorem dJI_bitCount_10 : decode cJI_bitCount 10 = .ok (.iload_n 0, 1) := by decide +kernel
theorem dJI_bitCount_11 : decode cJI_bitCount 11 = .ok (.ldc_w 266, 3) := by decide +kernel
theorem dJI_bitCount_14 : decode cJI_bitCount 14 = .ok (.iand, 1) := by decide +kernel
theorem dJI_bitCount_15 : decode cJI_bitCount 15 = .ok (.iload_n 0, 1) := by decide +kernel
theorem dJI_bitCount_16 : decode cJI_bitCount 16 = .ok (.iconst 2, 1) := by decide +kernel
theorem dJI_bitCount_17 : decode cJI_bitCount 17 = .ok (.iushr, 1) := by decide +kernel
theorem dJI_bitCount_18 : decode cJI_bitCount 18 = .ok (.ldc_w 266, 3) := by decide +kernel
theorem dJI_bitCount_21 : decode cJI_bitCount 21 = .ok (.iand, 1) := by decide +kernel
theorem dJI_bitCount_22 : decode cJI_bitCount 22 = .ok (.iadd, 1) := by decide +kernel
theorem dJI_bitCount_23 : decode cJI_bitCount 23 = .ok (.istore_n 0, 1) := by decide +kernel
theorem dJI_bitCount_24 : decode cJI_bitCount 24 = .ok (.iload_n 0, 1) := by decide +kernel
theorem dJI_bitCount_25 : decode cJI_bitCount 25 = .ok (.iload_n 0, 1) := by decide +kernel
theorem dJI_bitCount_26 : decode cJI_bitCount 26 = .ok (.iconst 4, 1) := by decide +kernel
theorem dJI_bitCount_27 : decode cJI_bitCount 27 = .ok (.iushr, 1) := by decide +kernel
theorem dJI_bitCount_28 : decode cJI_bitCount 28 = .ok (.iadd, 1) := by decide +kernel
theorem dJI_bitCount_29 : decode cJI_bitCount 29 = .ok (.ldc_w 267, 3) := by decide +kernel
theorem dJI_bitCount_32 : decode cJI_bitCount 32 = .ok (.iand, 1) := by decide +kernel
theorem dJI_bitCount_33 : decode cJI_bitCount 33 = .ok (.istore_n 0, 1) := by decide +kernel
theorem dJI_bitCount_34 : decode cJI_bitCount 34 = .ok (.iload_n 0, 1) := by decide +kernel
theorem dJI_bitCount_35 : decode cJI_bitCount 35 = .ok (.iload_n 0, 1) := by decide +kernel
theorem dJI_bitCount_36 : decode cJI_bitCount 36 = .ok (.bipush 8, 2) := by decide +kernel
theorem dJI_bitCount_38 : decode cJI_bitCount 38 = .ok (.iushr, 1) := by decide +kernel
theorem dJI_bitCount_39 : decode cJI_bitCount 39 = .ok (.iadd, 1) := by decide +kernel
theorem dJI_bitCount_40 : decode cJI_bitCount 40 = .ok (.istore_n 0, 1) := by decide +kernel
theorem dJI_bitCount_41 : decode cJI_bitCount 41 = .ok (.iload_n 0, 1) := by decide +kernel
theorem dJI_bitCount_42 : decode cJI_bitCount 42 = .ok (.iload_n 0, 1) := by decide +kernel
theorem dJI_bitCount_43 : decode cJI_bitCount 43 = .ok (.bipush 16, 2) := by decide +kernel
theorem dJI_bitCount_45 : decode cJI_bitCount 45 = .ok (.iushr, 1) := by decide +kernel
theorem dJI_bitCount_46 : decode cJI_bitCount 46 = .ok (.iadd, 1) := by decide +kernel
theorem dJI_bitCount_47 : decode cJI_bitCount 47 = .ok (.istore_n 0, 1) := by decide +kernel
theorem dJI_bitCount_48 : decode cJI_bitCount 48 = .ok (.iload_n 0, 1) := by decide +kernel
theorem dJI_bitCount_49 : decode cJI_bitCount 49 = .ok (.bipush 63, 2) := by decide +kernel
theorem dJI_bitCount_51 : decode cJI_bitCount 51 = .ok (.iand, 1) := by decide +kernel
theorem dJI_bitCount_52 : decode cJI_bitCount 52 = .ok (.ireturn, 1) := by decide +kernel
theorem dX0_run_0 : decode cX0_run 0 = .ok (.aload_n 0, 1) := by decide +kernel
theorem dX0_run_1 : decode cX0_run 1 = .ok (.getfield 12, 3) := by decide +kernel
theorem dX0_run_4 : decode cX0_run 4 = .ok (.invokevirtual 109, 3) := by decide +kernel
theorem dX0_run_7 : decode cX0_run 7 = .ok (.lload_n 1, 1) := by decide +kernel
theorem dX0_run_8 : decode cX0_run 8 = .ok (.lcmp, 1) := by decide +kernel
theorem dX0_run_9 : decode cX0_run 9 = .ok (.ifCond .le 5, 3) := by decide +kernel
theorem dX0_run_12 : decode cX0_run 12 = .ok (.iconst (-1), 1) := by decide +kernel
theorem dX0_run_13 : decode cX0_run 13 = .ok (.ireturn, 1) := by decide +kernel
theorem dX0_run_14 : decode cX0_run 14 = .ok (.aload_n 0, 1) := by decide +kernel
theorem dX0_run_15 : decode cX0_run 15 = .ok (.getfield 21, 3) := by decide +kernel
theorem dX0_run_18 : decode cX0_run 18 = .ok (.invokevirtual 113, 3) := by decide +kernel
theorem dX0_run_21 : decode cX0_run 21 = .ok (.aload_n 0, 1) := by decide +kernel
theorem dX0_run_22 : decode cX0_run 22 = .ok (.getfield 28, 3) := by decide +kernel
theorem dX0_run_25 : decode cX0_run 25 = .ok (.aload_n 0, 1) := by decide +kernel
theorem dX0_run_26 : decode cX0_run 26 = .ok (.getfield 21, 3) := by decide +kernel
theorem dX0_run_29 : decode cX0_run 29 = .ok (.invokevirtual 116, 3) := by decide +kernel
theorem dX0_run_32 : decode cX0_run 32 = .ok (.putfield 119, 3) := by decide +kernel
theorem dX0_run_35 : decode cX0_run 35 = .ok (.aload_n 0, 1) := by decide +kernel
theorem dX0_run_36 : decode cX0_run 36 = .ok (.getfield 28, 3) := by decide +kernel
theorem dX0_run_39 : decode cX0_run 39 = .ok (.aload_n 0, 1) := by decide +kernel
theorem dX0_run_40 : decode cX0_run 40 = .ok (.getfield 21, 3) := by decide +kernel
theorem dX0_run_43 : decode cX0_run 43 = .ok (.invokevirtual 123, 3) := by decide +kernel
theorem dX0_run_46 : decode cX0_run 46 = .ok (.aload_n 0, 1) := by decide +kernel
theorem dX0_run_47 : decode cX0_run 47 = .ok (.getfield 28, 3) := by decide +kernel
theorem dX0_run_50 : decode cX0_run 50 = .ok (.getfield 127, 3) := by decide +kernel
theorem dX0_run_53 : decode cX0_run 53 = .ok (.ireturn, 1) := by decide +kernel
theorem dX0_step_0 : decode cX0_step 0 = .ok (.iload_n 1, 1) := by decide +kernel
theorem dX0_step_1 : decode cX0_step 1 = .ok (.ifCond .lt 26, 3) := by decide +kernel
theorem dX0_step_4 : decode cX0_step 4 = .ok (.iload_n 1, 1) := by decide +kernel
theorem dX0_step_5 : decode cX0_step 5 = .ok (.aload_n 0, 1) := by decide +kernel
theorem dX0_step_6 : decode cX0_step 6 = .ok (.getfield 28, 3) := by decide +kernel
theorem dX0_step_9 : decode cX0_step 9 = .ok (.getfield 127, 3) := by decide +kernel
theorem dX0_step_12 : decode cX0_step 12 = .ok (.if_icmp .ge 15, 3) := by decide +kernel
theorem dX0_step_15 : decode cX0_step 15 = .ok (.aload_n 0, 1) := by decide +kernel
theorem dX0_step_16 : decode cX0_step 16 = .ok (.getfield 28, 3) := by decide +kernel
theorem dX0_step_19 : decode cX0_step 19 = .ok (.getfield 130, 3) := by decide +kernel
theorem dX0_step_22 : decode cX0_step 22 = .ok (.iload_n 1, 1) := by decide +kernel
theorem dX0_step_23 : decode cX0_step 23 = .ok (.iaload, 1) := by decide +kernel
theorem dX0_step_24 : decode cX0_step 24 = .ok (.goto 4, 3) := by decide +kernel
theorem dX0_step_27 : decode cX0_step 27 = .ok (.iconst (-1), 1) := by decide +kernel
theorem dX0_step_28 : decode cX0_step 28 = .ok (.ireturn, 1) := by decide +kernel
theorem dX0_stops_0 : decode cX0_stops 0 = .ok (.aload_n 0, 1) := by decide +kernel
theorem dX0_stops_1 : decode cX0_stops 1 = .ok (.getfield 28, 3) := by decide +kernel
theorem dX0_stops_4 : decode cX0_stops 4 = .ok (.getfield 133, 3) := by decide +kernel
theorem dX0_stops_7 : decode cX0_stops 7 = .ok (.ifCond .eq 23, 3) := by decide +kernel
theorem dX0_stops_10 : decode cX0_stops 10 = .ok (.sipush 4095, 3) := by decide +kernel
theorem dX0_stops_13 : decode cX0_stops 13 = .ok (.aload_n 0, 1) := by decide +kernel
theorem dX0_stops_14 : decode cX0_stops 14 = .ok (.getfield 28, 3) := by decide +kernel
theorem dX0_stops_17 : decode cX0_stops 17 = .ok (.getfield 136, 3) := by decide +kernel
theorem dX0_stops_20 : decode cX0_stops 20 = .ok (.iconst (-1), 1) := by decide +kernel
theorem dX0_stops_21 : decode cX0_stops 21 = .ok (.ixor, 1) := by decide +kernel
theorem dX0_stops_22 : decode cX0_stops 22 = .ok (.iand, 1) := by decide +kernel
theorem dX0_stops_23 : decode cX0_stops 23 = .ok (.iload_n 1, 1) := by decide +kernel
theorem dX0_stops_24 : decode cX0_stops 24 = .ok (.invokestatic 139, 3) := by decide +kernel
theorem dX0_stops_27 : decode cX0_stops 27 = .ok (.goto 4, 3) := by decide +kernel
theorem dX0_stops_30 : decode cX0_stops 30 = .ok (.iconst (-1), 1) := by decide +kernel
theorem dX0_stops_31 : decode cX0_stops 31 = .ok (.ireturn, 1) := by decide +kernel
theorem dX0_member_0 : decode cX0_member 0 = .ok (.iconst 0, 1) := by decide +kernel
theorem dX0_member_1 : decode cX0_member 1 = .ok (.istore_n 2, 1) := by decide +kernel
theorem dX0_member_2 : decode cX0_member 2 = .ok (.iconst 0, 1) := by decide +kernel
theorem dX0_member_3 : decode cX0_member 3 = .ok (.istore_n 3, 1) := by decide +kernel
theorem dX0_member_4 : decode cX0_member 4 = .ok (.iload_n 3, 1) := by decide +kernel
theorem dX0_member_5 : decode cX0_member 5 = .ok (.bipush 12, 2) := by decide +kernel
theorem dX0_member_7 : decode cX0_member 7 = .ok (.if_icmp .ge 27, 3) := by decide +kernel
theorem dX0_member_10 : decode cX0_member 10 = .ok (.iload_n 0, 1) := by decide +kernel
theorem dX0_member_11 : decode cX0_member 11 = .ok (.iload_n 3, 1) := by decide +kernel
theorem dX0_member_12 : decode cX0_member 12 = .ok (.invokestatic 69, 3) := by decide +kernel
theorem dX0_member_15 : decode cX0_member 15 = .ok (.ifCond .eq 13, 3) := by decide +kernel
theorem dX0_member_18 : decode cX0_member 18 = .ok (.iload_n 2, 1) := by decide +kernel
theorem dX0_member_19 : decode cX0_member 19 = .ok (.iload_n 1, 1) := by decide +kernel
theorem dX0_member_20 : decode cX0_member 20 = .ok (.if_icmp .ne 5, 3) := by decide +kernel
theorem dX0_member_23 : decode cX0_member 23 = .ok (.iload_n 3, 1) := by decide +kernel
theorem dX0_member_24 : decode cX0_member 24 = .ok (.ireturn, 1) := by decide +kernel
theorem dX0_member_25 : decode cX0_member 25 = .ok (.iinc 2 1, 3) := by decide +kernel
theorem dX0_member_28 : decode cX0_member 28 = .ok (.iinc 3 1, 3) := by decide +kernel
theorem dX0_member_31 : decode cX0_member 31 = .ok (.goto (-27), 3) := by decide +kernel
theorem dX0_member_34 : decode cX0_member 34 = .ok (.iconst (-1), 1) := by decide +kernel
theorem dX0_member_35 : decode cX0_member 35 = .ok (.ireturn, 1) := by decide +kernel
theorem dX0_other_0 : decode cX0_other 0 = .ok (.aload_n 0, 1) := by decide +kernel
theorem dX0_other_1 : decode cX0_other 1 = .ok (.getfield 28, 3) := by decide +kernel
theorem dX0_other_4 : decode cX0_other 4 = .ok (.getfield 133, 3) := by decide +kernel
theorem dX0_other_7 : decode cX0_other 7 = .ok (.ifCond .eq 27, 3) := by decide +kernel
theorem dX0_other_10 : decode cX0_other 10 = .ok (.aload_n 0, 1) := by decide +kernel
theorem dX0_other_11 : decode cX0_other 11 = .ok (.getfield 12, 3) := by decide +kernel
theorem dX0_other_14 : decode cX0_other 14 = .ok (.invokevirtual 143, 3) := by decide +kernel
theorem dX0_other_17 : decode cX0_other 17 = .ok (.aload_n 0, 1) := by decide +kernel
theorem dX0_other_18 : decode cX0_other 18 = .ok (.getfield 28, 3) := by decide +kernel
theorem dX0_other_21 : decode cX0_other 21 = .ok (.getfield 147, 3) := by decide +kernel
theorem dX0_other_24 : decode cX0_other 24 = .ok (.iconst (-1), 1) := by decide +kernel
theorem dX0_other_25 : decode cX0_other 25 = .ok (.ixor, 1) := by decide +kernel
theorem dX0_other_26 : decode cX0_other 26 = .ok (.iand, 1) := by decide +kernel
theorem dX0_other_27 : decode cX0_other 27 = .ok (.iload_n 1, 1) := by decide +kernel
theorem dX0_other_28 : decode cX0_other 28 = .ok (.invokestatic 139, 3) := by decide +kernel
theorem dX0_other_31 : decode cX0_other 31 = .ok (.goto 4, 3) := by decide +kernel
theorem dX0_other_34 : decode cX0_other 34 = .ok (.iconst (-1), 1) := by decide +kernel
theorem dX0_other_35 : decode cX0_other 35 = .ok (.ireturn, 1) := by decide +kernel
theorem dX0_gain_0 : decode cX0_gain 0 = .ok (.iload_n 1, 1) := by decide +kernel
theorem dX0_gain_1 : decode cX0_gain 1 = .ok (.iconst (-1), 1) := by decide +kernel
theorem dX0_gain_2 : decode cX0_gain 2 = .ok (.if_icmp .ne 11, 3) := by decide +kernel
theorem dX0_gain_5 : decode cX0_gain 5 = .ok (.aload_n 0, 1) := by decide +kernel
theorem dX0_gain_6 : decode cX0_gain 6 = .ok (.getfield 28, 3) := by decide +kernel
theorem dX0_gain_9 : decode cX0_gain 9 = .ok (.getfield 119, 3) := by decide +kernel
theorem dX0_gain_12 : decode cX0_gain 12 = .ok (.lreturn, 1) := by decide +kernel
theorem dX0_gain_13 : decode cX0_gain 13 = .ok (.iload_n 1, 1) := by decide +kernel
theorem dX0_gain_14 : decode cX0_gain 14 = .ok (.invokestatic 39, 3) := by decide +kernel
theorem dX0_gain_17 : decode cX0_gain 17 = .ok (.ifCond .eq 15, 3) := by decide +kernel
theorem dX0_gain_20 : decode cX0_gain 20 = .ok (.aload_n 0, 1) := by decide +kernel
theorem dX0_gain_21 : decode cX0_gain 21 = .ok (.getfield 28, 3) := by decide +kernel
theorem dX0_gain_24 : decode cX0_gain 24 = .ok (.getfield 150, 3) := by decide +kernel
theorem dX0_gain_27 : decode cX0_gain 27 = .ok (.iload_n 1, 1) := by decide +kernel
theorem dX0_gain_28 : decode cX0_gain 28 = .ok (.laload, 1) := by decide +kernel
theorem dX0_gain_29 : decode cX0_gain 29 = .ok (.goto 4, 3) := by decide +kernel
theorem dX0_gain_32 : decode cX0_gain 32 = .ok (.lconst 0, 1) := by decide +kernel
theorem dX0_gain_33 : decode cX0_gain 33 = .ok (.lreturn, 1) := by decide +kernel
theorem dX0_proved_0 : decode cX0_proved 0 = .ok (.aload_n 0, 1) := by decide +kernel
theorem dX0_proved_1 : decode cX0_proved 1 = .ok (.getfield 28, 3) := by decide +kernel
theorem dX0_proved_4 : decode cX0_proved 4 = .ok (.getfield 133, 3) := by decide +kernel
theorem dX0_proved_7 : decode cX0_proved 7 = .ok (.ifCond .eq 17, 3) := by decide +kernel
theorem dX0_proved_10 : decode cX0_proved 10 = .ok (.aload_n 0, 1) := by decide +kernel
theorem dX0_proved_11 : decode cX0_proved 11 = .ok (.getfield 28, 3) := by decide +kernel
theorem dX0_proved_14 : decode cX0_proved 14 = .ok (.getfield 54, 3) := by decide +kernel
theorem dX0_proved_17 : decode cX0_proved 17 = .ok (.ifCond .eq 7, 3) := by decide +kernel
theorem dX0_proved_20 : decode cX0_proved 20 = .ok (.iconst 1, 1) := by decide +kernel
theorem dX0_proved_21 : decode cX0_proved 21 = .ok (.goto 4, 3) := by decide +kernel
theorem dX0_proved_24 : decode cX0_proved 24 = .ok (.iconst 0, 1) := by decide +kernel
theorem dX0_proved_25 : decode cX0_proved 25 = .ok (.ireturn, 1) := by decide +kernel
theorem dX0_bound_0 : decode cX0_bound 0 = .ok (.lconst 0, 1) := by decide +kernel
theorem dX0_bound_1 : decode cX0_bound 1 = .ok (.lstore_n 1, 1) := by decide +kernel
theorem dX0_bound_2 : decode cX0_bound 2 = .ok (.iconst 0, 1) := by decide +kernel
theorem dX0_bound_3 : decode cX0_bound 3 = .ok (.istore_n 3, 1) := by decide +kernel
theorem dX0_bound_4 : decode cX0_bound 4 = .ok (.iload_n 3, 1) := by decide +kernel
theorem dX0_bound_5 : decode cX0_bound 5 = .ok (.aload_n 0, 1) := by decide +kernel
theorem dX0_bound_6 : decode cX0_bound 6 = .ok (.getfield 12, 3) := by decide +kernel
theorem dX0_bound_9 : decode cX0_bound 9 = .ok (.getfield 153, 3) := by decide +kernel
theorem dX0_bound_12 : decode cX0_bound 12 = .ok (.if_icmp .ge 27, 3) := by decide +kernel
theorem dX0_bound_15 : decode cX0_bound 15 = .ok (.lload_n 1, 1) := by decide +kernel
theorem dX0_bound_16 : decode cX0_bound 16 = .ok (.aload_n 0, 1) := by decide +kernel
theorem dX0_bound_17 : decode cX0_bound 17 = .ok (.getfield 12, 3) := by decide +kernel
theorem dX0_bound_20 : decode cX0_bound 20 = .ok (.getfield 156, 3) := by decide +kernel
theorem dX0_bound_23 : decode cX0_bound 23 = .ok (.iload_n 3, 1) := by decide +kernel
theorem dX0_bound_24 : decode cX0_bound 24 = .ok (.laload, 1) := by decide +kernel
theorem dX0_bound_25 : decode cX0_bound 25 = .ok (.ldc2_w 107, 3) := by decide +kernel
theorem dX0_bound_28 : decode cX0_bound 28 = .ok (.lmul, 1) := by decide +kernel
theorem dX0_bound_29 : decode cX0_bound 29 = .ok (.invokestatic 159, 3) := by decide +kernel
theorem dX0_bound_32 : decode cX0_bound 32 = .ok (.lstore_n 1, 1) := by decide +kernel
theorem dX0_bound_33 : decode cX0_bound 33 = .ok (.iinc 3 1, 3) := by decide +kernel
theorem dX0_bound_36 : decode cX0_bound 36 = .ok (.goto (-32), 3) := by decide +kernel
theorem dX0_bound_39 : decode cX0_bound 39 = .ok (.iconst 0, 1) := by decide +kernel
theorem dX0_bound_40 : decode cX0_bound 40 = .ok (.istore_n 3, 1) := by decide +kernel
theorem dX0_bound_41 : decode cX0_bound 41 = .ok (.iload_n 3, 1) := by decide +kernel
theorem dX0_bound_42 : decode cX0_bound 42 = .ok (.bipush 12, 2) := by decide +kernel
theorem dX0_bound_44 : decode cX0_bound 44 = .ok (.if_icmp .ge 24, 3) := by decide +kernel
theorem dX0_bound_47 : decode cX0_bound 47 = .ok (.lload_n 1, 1) := by decide +kernel
theorem dX0_bound_48 : decode cX0_bound 48 = .ok (.lconst 0, 1) := by decide +kernel
theorem dX0_bound_49 : decode cX0_bound 49 = .ok (.aload_n 0, 1) := by decide +kernel
theorem dX0_bound_50 : decode cX0_bound 50 = .ok (.getfield 12, 3) := by decide +kernel
theorem dX0_bound_53 : decode cX0_bound 53 = .ok (.iload_n 3, 1) := by decide +kernel
theorem dX0_bound_54 : decode cX0_bound 54 = .ok (.invokevirtual 165, 3) := by decide +kernel
theorem dX0_bound_57 : decode cX0_bound 57 = .ok (.invokestatic 159, 3) := by decide +kernel
theorem dX0_bound_60 : decode cX0_bound 60 = .ok (.ladd, 1) := by decide +kernel
theorem dX0_bound_61 : decode cX0_bound 61 = .ok (.lstore_n 1, 1) := by decide +kernel
theorem dX0_bound_62 : decode cX0_bound 62 = .ok (.iinc 3 1, 3) := by decide +kernel
theorem dX0_bound_65 : decode cX0_bound 65 = .ok (.goto (-24), 3) := by decide +kernel
theorem dX0_bound_68 : decode cX0_bound 68 = .ok (.lload_n 1, 1) := by decide +kernel
theorem dX0_bound_69 : decode cX0_bound 69 = .ok (.lreturn, 1) := by decide +kernel
theorem dX0_test_0 : decode cX0_test 0 = .ok (.iload_n 1, 1) := by decide +kernel
theorem dX0_test_1 : decode cX0_test 1 = .ok (.invokestatic 39, 3) := by decide +kernel
theorem dX0_test_4 : decode cX0_test 4 = .ok (.ifCond .eq 10, 3) := by decide +kernel
theorem dX0_test_7 : decode cX0_test 7 = .ok (.lload_n 2, 1) := by decide +kernel
theorem dX0_test_8 : decode cX0_test 8 = .ok (.invokestatic 50, 3) := by decide +kernel
theorem dX0_test_11 : decode cX0_test 11 = .ok (.ifCond .ne 5, 3) := by decide +kernel
theorem dX0_test_14 : decode cX0_test 14 = .ok (.iconst (-1), 1) := by decide +kernel
theorem dX0_test_15 : decode cX0_test 15 = .ok (.ireturn, 1) := by decide +kernel
theorem dX0_test_16 : decode cX0_test 16 = .ok (.aload_n 0, 1) := by decide +kernel
theorem dX0_test_17 : decode cX0_test 17 = .ok (.getfield 21, 3) := by decide +kernel
theorem dX0_test_20 : decode cX0_test 20 = .ok (.invokevirtual 113, 3) := by decide +kernel
theorem dX0_test_23 : decode cX0_test 23 = .ok (.aload_n 0, 1) := by decide +kernel
theorem dX0_test_24 : decode cX0_test 24 = .ok (.getfield 21, 3) := by decide +kernel
theorem dX0_test_27 : decode cX0_test 27 = .ok (.invokevirtual 116, 3) := by decide +kernel
theorem dX0_test_30 : decode cX0_test 30 = .ok (.lstore 4, 2) := by decide +kernel
theorem dX0_test_32 : decode cX0_test 32 = .ok (.aload_n 0, 1) := by decide +kernel
theorem dX0_test_33 : decode cX0_test 33 = .ok (.getfield 21, 3) := by decide +kernel
theorem dX0_test_36 : decode cX0_test 36 = .ok (.iload_n 1, 1) := by decide +kernel
theorem dX0_test_37 : decode cX0_test 37 = .ok (.ldc2_w 107, 3) := by decide +kernel
theorem dX0_test_40 : decode cX0_test 40 = .ok (.invokevirtual 169, 3) := by decide +kernel
theorem dX0_test_43 : decode cX0_test 43 = .ok (.aload_n 0, 1) := by decide +kernel
theorem dX0_test_44 : decode cX0_test 44 = .ok (.getfield 21, 3) := by decide +kernel
theorem dX0_test_47 : decode cX0_test 47 = .ok (.invokevirtual 116, 3) := by decide +kernel
theorem dX0_test_50 : decode cX0_test 50 = .ok (.lstore 6, 2) := by decide +kernel
theorem dX0_test_52 : decode cX0_test 52 = .ok (.aload_n 0, 1) := by decide +kernel
theorem dX0_test_53 : decode cX0_test 53 = .ok (.getfield 21, 3) := by decide +kernel
theorem dX0_test_56 : decode cX0_test 56 = .ok (.iload_n 1, 1) := by decide +kernel
theorem dX0_test_57 : decode cX0_test 57 = .ok (.lconst 0, 1) := by decide +kernel
theorem dX0_test_58 : decode cX0_test 58 = .ok (.invokevirtual 169, 3) := by decide +kernel
theorem dX0_test_61 : decode cX0_test 61 = .ok (.aload_n 0, 1) := by decide +kernel
theorem dX0_test_62 : decode cX0_test 62 = .ok (.getfield 21, 3) := by decide +kernel
theorem dX0_test_65 : decode cX0_test 65 = .ok (.invokevirtual 116, 3) := by decide +kernel
theorem dX0_test_68 : decode cX0_test 68 = .ok (.lstore 8, 2) := by decide +kernel
theorem dX0_test_70 : decode cX0_test 70 = .ok (.aload_n 0, 1) := by decide +kernel
theorem dX0_test_71 : decode cX0_test 71 = .ok (.getfield 12, 3) := by decide +kernel
theorem dX0_test_74 : decode cX0_test 74 = .ok (.getfield 104, 3) := by decide +kernel
theorem dX0_test_77 : decode cX0_test 77 = .ok (.iload_n 1, 1) := by decide +kernel
theorem dX0_test_78 : decode cX0_test 78 = .ok (.laload, 1) := by decide +kernel
theorem dX0_test_79 : decode cX0_test 79 = .ok (.lstore 10, 2) := by decide +kernel
theorem dX0_test_81 : decode cX0_test 81 = .ok (.lload 10, 2) := by decide +kernel
theorem dX0_test_83 : decode cX0_test 83 = .ok (.lload 6, 2) := by decide +kernel
theorem dX0_test_85 : decode cX0_test 85 = .ok (.lmul, 1) := by decide +kernel
theorem dX0_test_86 : decode cX0_test 86 = .ok (.ldc2_w 107, 3) := by decide +kernel
theorem dX0_test_89 : decode cX0_test 89 = .ok (.lload 10, 2) := by decide +kernel
theorem dX0_test_91 : decode cX0_test 91 = .ok (.lsub, 1) := by decide +kernel
theorem dX0_test_92 : decode cX0_test 92 = .ok (.lload 8, 2) := by decide +kernel
theorem dX0_test_94 : decode cX0_test 94 = .ok (.lmul, 1) := by decide +kernel
theorem dX0_test_95 : decode cX0_test 95 = .ok (.ladd, 1) := by decide +kernel
theorem dX0_test_96 : decode cX0_test 96 = .ok (.lload_n 2, 1) := by decide +kernel
theorem dX0_test_97 : decode cX0_test 97 = .ok (.ldc2_w 107, 3) := by decide +kernel
theorem dX0_test_100 : decode cX0_test 100 = .ok (.lmul, 1) := by decide +kernel
theorem dX0_test_101 : decode cX0_test 101 = .ok (.ldc2_w 107, 3) := by decide +kernel
theorem dX0_test_104 : decode cX0_test 104 = .ok (.lmul, 1) := by decide +kernel
theorem dX0_test_105 : decode cX0_test 105 = .ok (.lsub, 1) := by decide +kernel
theorem dX0_test_106 : decode cX0_test 106 = .ok (.lstore 12, 2) := by decide +kernel
theorem dX0_test_108 : decode cX0_test 108 = .ok (.lload 12, 2) := by decide +kernel
theorem dX0_test_110 : decode cX0_test 110 = .ok (.lload 4, 2) := by decide +kernel
theorem dX0_test_112 : decode cX0_test 112 = .ok (.ldc2_w 107, 3) := by decide +kernel
theorem dX0_test_115 : decode cX0_test 115 = .ok (.lmul, 1) := by decide +kernel
theorem dX0_test_116 : decode cX0_test 116 = .ok (.lcmp, 1) := by decide +kernel
theorem dX0_test_117 : decode cX0_test 117 = .ok (.ifCond .le 7, 3) := by decide +kernel
theorem dX0_test_120 : decode cX0_test 120 = .ok (.iconst 1, 1) := by decide +kernel
theorem dX0_test_121 : decode cX0_test 121 = .ok (.goto 4, 3) := by decide +kernel
theorem dX0_test_124 : decode cX0_test 124 = .ok (.iconst 0, 1) := by decide +kernel
theorem dX0_test_125 : decode cX0_test 125 = .ok (.ireturn, 1) := by decide +kernel
theorem dX0_stations_0 : decode cX0_stations 0 = .ok (.aload_n 0, 1) := by decide +kernel
theorem dX0_stations_1 : decode cX0_stations 1 = .ok (.getfield 28, 3) := by decide +kernel
theorem dX0_stations_4 : decode cX0_stations 4 = .ok (.getfield 133, 3) := by decide +kernel
theorem dX0_stations_7 : decode cX0_stations 7 = .ok (.ifCond .eq 13, 3) := by decide +kernel
theorem dX0_stations_10 : decode cX0_stations 10 = .ok (.iload_n 1, 1) := by decide +kernel
theorem dX0_stations_11 : decode cX0_stations 11 = .ok (.iconst 1, 1) := by decide +kernel
theorem dX0_stations_12 : decode cX0_stations 12 = .ok (.if_icmp .lt 8, 3) := by decide +kernel
theorem dX0_stations_15 : decode cX0_stations 15 = .ok (.iload_n 1, 1) := by decide +kernel
theorem dX0_stations_16 : decode cX0_stations 16 = .ok (.iconst 4, 1) := by decide +kernel
theorem dX0_stations_17 : decode cX0_stations 17 = .ok (.if_icmp .le 5, 3) := by decide +kernel
theorem dX0_stations_20 : decode cX0_stations 20 = .ok (.iconst (-1), 1) := by decide +kernel
theorem dX0_stations_21 : decode cX0_stations 21 = .ok (.ireturn, 1) := by decide +kernel
theorem dX0_stations_22 : decode cX0_stations 22 = .ok (.aload_n 0, 1) := by decide +kernel
theorem dX0_stations_23 : decode cX0_stations 23 = .ok (.getfield 35, 3) := by decide +kernel
theorem dX0_stations_26 : decode cX0_stations 26 = .ok (.aload_n 0, 1) := by decide +kernel
theorem dX0_stations_27 : decode cX0_stations 27 = .ok (.getfield 28, 3) := by decide +kernel
theorem dX0_stations_30 : decode cX0_stations 30 = .ok (.getfield 147, 3) := by decide +kernel
theorem dX0_stations_33 : decode cX0_stations 33 = .ok (.iload_n 1, 1) := by decide +kernel
theorem dX0_stations_34 : decode cX0_stations 34 = .ok (.invokevirtual 173, 3) := by decide +kernel
theorem dX0_stations_37 : decode cX0_stations 37 = .ok (.l2i, 1) := by decide +kernel
theorem dX0_stations_38 : decode cX0_stations 38 = .ok (.ireturn, 1) := by decide +kernel
theorem dX0_station_0 : decode cX0_station 0 = .ok (.iload_n 1, 1) := by decide +kernel
theorem dX0_station_1 : decode cX0_station 1 = .ok (.ifCond .lt 21, 3) := by decide +kernel
theorem dX0_station_4 : decode cX0_station 4 = .ok (.iload_n 1, 1) := by decide +kernel
theorem dX0_station_5 : decode cX0_station 5 = .ok (.bipush 10, 2) := by decide +kernel
theorem dX0_station_7 : decode cX0_station 7 = .ok (.if_icmp .ge 15, 3) := by decide +kernel
theorem dX0_station_10 : decode cX0_station 10 = .ok (.aload_n 0, 1) := by decide +kernel
theorem dX0_station_11 : decode cX0_station 11 = .ok (.getfield 35, 3) := by decide +kernel
theorem dX0_station_14 : decode cX0_station 14 = .ok (.getfield 177, 3) := by decide +kernel
theorem dX0_station_17 : decode cX0_station 17 = .ok (.iload_n 1, 1) := by decide +kernel
theorem dX0_station_18 : decode cX0_station 18 = .ok (.iaload, 1) := by decide +kernel
theorem dX0_station_19 : decode cX0_station 19 = .ok (.goto 4, 3) := by decide +kernel
theorem dX0_station_22 : decode cX0_station 22 = .ok (.iconst (-1), 1) := by decide +kernel
theorem dX0_station_23 : decode cX0_station 23 = .ok (.ireturn, 1) := by decide +kernel
theorem dX1_init_0 : decode cX1_init 0 = .ok (.aload_n 0, 1) := by decide +kernel
theorem dX1_init_1 : decode cX1_init 1 = .ok (.invokespecial 3, 3) := by decide +kernel
theorem dX1_init_4 : decode cX1_init 4 = .ok (.aload_n 0, 1) := by decide +kernel
theorem dX1_init_5 : decode cX1_init 5 = .ok (.bipush 10, 2) := by decide +kernel
theorem dX1_init_7 : decode cX1_init 7 = .ok (.newarray .int, 2) := by decide +kernel
theorem dX1_init_9 : decode cX1_init 9 = .ok (.putfield 9, 3) := by decide +kernel
theorem dX1_init_12 : decode cX1_init 12 = .ok (.aload_n 0, 1) := by decide +kernel
theorem dX1_init_13 : decode cX1_init 13 = .ok (.bipush 10, 2) := by decide +kernel
theorem dX1_init_15 : decode cX1_init 15 = .ok (.newarray .int, 2) := by decide +kernel
theorem dX1_init_17 : decode cX1_init 17 = .ok (.putfield 15, 3) := by decide +kernel
theorem dX1_init_20 : decode cX1_init 20 = .ok (.aload_n 0, 1) := by decide +kernel
theorem dX1_init_21 : decode cX1_init 21 = .ok (.bipush 10, 2) := by decide +kernel
theorem dX1_init_23 : decode cX1_init 23 = .ok (.newarray .int, 2) := by decide +kernel
theorem dX1_init_25 : decode cX1_init 25 = .ok (.putfield 18, 3) := by decide +kernel
theorem dX1_init_28 : decode cX1_init 28 = .ok (.aload_n 0, 1) := by decide +kernel
theorem dX1_init_29 : decode cX1_init 29 = .ok (.bipush 10, 2) := by decide +kernel
theorem dX1_init_31 : decode cX1_init 31 = .ok (.newarray .long, 2) := by decide +kernel
theorem dX1_init_33 : decode cX1_init 33 = .ok (.putfield 21, 3) := by decide +kernel
theorem dX1_init_36 : decode cX1_init 36 = .ok (.aload_n 0, 1) := by decide +kernel
theorem dX1_init_37 : decode cX1_init 37 = .ok (.bipush 10, 2) := by decide +kernel
theorem dX1_init_39 : decode cX1_init 39 = .ok (.newarray .int, 2) := by decide +kernel
theorem dX1_init_41 : decode cX1_init 41 = .ok (.putfield 25, 3) := by decide +kernel
theorem dX1_init_44 : decode cX1_init 44 = .ok (.aload_n 0, 1) := by decide +kernel
theorem dX1_init_45 : decode cX1_init 45 = .ok (.bipush 36, 2) := by decide +kernel
theorem dX1_init_47 : decode cX1_init 47 = .ok (.newarray .long, 2) := by decide +kernel
theorem dX1_init_49 : decode cX1_init 49 = .ok (.putfield 28, 3) := by decide +kernel
theorem dX1_init_52 : decode cX1_init 52 = .ok (.aload_n 0, 1) := by decide +kernel
theorem dX1_init_53 : decode cX1_init 53 = .ok (.bipush 36, 2) := by decide +kernel
theorem dX1_init_55 : decode cX1_init 55 = .ok (.newarray .long, 2) := by decide +kernel
theorem dX1_init_57 : decode cX1_init 57 = .ok (.putfield 31, 3) := by decide +kernel
theorem dX1_init_60 : decode cX1_init 60 = .ok (.aload_n 0, 1) := by decide +kernel
theorem dX1_init_61 : decode cX1_init 61 = .ok (.bipush 12, 2) := by decide +kernel
theorem dX1_init_63 : decode cX1_init 63 = .ok (.newarray .long, 2) := by decide +kernel
theorem dX1_init_65 : decode cX1_init 65 = .ok (.putfield 34, 3) := by decide +kernel
theorem dX1_init_68 : decode cX1_init 68 = .ok (.aload_n 0, 1) := by decide +kernel
theorem dX1_init_69 : decode cX1_init 69 = .ok (.bipush 12, 2) := by decide +kernel
theorem dX1_init_71 : decode cX1_init 71 = .ok (.newarray .long, 2) := by decide +kernel
theorem dX1_init_73 : decode cX1_init 73 = .ok (.putfield 37, 3) := by decide +kernel
theorem dX1_init_76 : decode cX1_init 76 = .ok (.aload_n 0, 1) := by decide +kernel
theorem dX1_init_77 : decode cX1_init 77 = .ok (.bipush 16, 2) := by decide +kernel
theorem dX1_init_79 : decode cX1_init 79 = .ok (.newarray .int, 2) := by decide +kernel
theorem dX1_init_81 : decode cX1_init 81 = .ok (.putfield 40, 3) := by decide +kernel
theorem dX1_init_84 : decode cX1_init 84 = .ok (.aload_n 0, 1) := by decide +kernel
theorem dX1_init_85 : decode cX1_init 85 = .ok (.bipush 16, 2) := by decide +kernel
theorem dX1_init_87 : decode cX1_init 87 = .ok (.newarray .long, 2) := by decide +kernel
theorem dX1_init_89 : decode cX1_init 89 = .ok (.putfield 43, 3) := by decide +kernel
theorem dX1_init_92 : decode cX1_init 92 = .ok (.aload_n 0, 1) := by decide +kernel
theorem dX1_init_93 : decode cX1_init 93 = .ok (.getfield 37, 3) := by decide +kernel
theorem dX1_init_96 : decode cX1_init 96 = .ok (.ldc2_w 46, 3) := by decide +kernel
theorem dX1_init_99 : decode cX1_init 99 = .ok (.invokestatic 48, 3) := by decide +kernel
theorem dX1_init_102 : decode cX1_init 102 = .ok (.return_, 1) := by decide +kernel
theorem dX2_init_0 : decode cX2_init 0 = .ok (.aload_n 0, 1) := by decide +kernel
theorem dX2_init_1 : decode cX2_init 1 = .ok (.invokespecial 3, 3) := by decide +kernel
theorem dX2_init_4 : decode cX2_init 4 = .ok (.aload_n 0, 1) := by decide +kernel
theorem dX2_init_5 : decode cX2_init 5 = .ok (.bipush 12, 2) := by decide +kernel
theorem dX2_init_7 : decode cX2_init 7 = .ok (.newarray .long, 2) := by decide +kernel
theorem dX2_init_9 : decode cX2_init 9 = .ok (.putfield 9, 3) := by decide +kernel
theorem dX2_init_12 : decode cX2_init 12 = .ok (.aload_n 0, 1) := by decide +kernel
theorem dX2_init_13 : decode cX2_init 13 = .ok (.bipush 110, 2) := by decide +kernel
theorem dX2_init_15 : decode cX2_init 15 = .ok (.newarray .long, 2) := by decide +kernel
theorem dX2_init_17 : decode cX2_init 17 = .ok (.putfield 15, 3) := by decide +kernel
theorem dX2_init_20 : decode cX2_init 20 = .ok (.aload_n 0, 1) := by decide +kernel
theorem dX2_init_21 : decode cX2_init 21 = .ok (.sipush 10240, 3) := by decide +kernel
theorem dX2_init_24 : decode cX2_init 24 = .ok (.newarray .long, 2) := by decide +kernel
theorem dX2_init_26 : decode cX2_init 26 = .ok (.putfield 18, 3) := by decide +kernel
theorem dX2_init_29 : decode cX2_init 29 = .ok (.aload_n 0, 1) := by decide +kernel
theorem dX2_init_30 : decode cX2_init 30 = .ok (.aload_n 1, 1) := by decide +kernel
theorem dX2_init_31 : decode cX2_init 31 = .ok (.putfield 21, 3) := by decide +kernel
theorem dX2_init_34 : decode cX2_init 34 = .ok (.return_, 1) := by decide +kernel
theorem dX1_addAct_0 : decode cX1_addAct 0 = .ok (.aload_n 0, 1) := by decide +kernel
theorem dX1_addAct_1 : decode cX1_addAct 1 = .ok (.getfield 54, 3) := by decide +kernel
theorem dX1_addAct_4 : decode cX1_addAct 4 = .ok (.istore 6, 2) := by decide +kernel
theorem dX1_addAct_6 : decode cX1_addAct 6 = .ok (.aload_n 0, 1) := by decide +kernel
theorem dX1_addAct_7 : decode cX1_addAct 7 = .ok (.getfield 9, 3) := by decide +kernel
theorem dX1_addAct_10 : decode cX1_addAct 10 = .ok (.iload 6, 2) := by decide +kernel
theorem dX1_addAct_12 : decode cX1_addAct 12 = .ok (.iload_n 1, 1) := by decide +kernel
theorem dX1_addAct_13 : decode cX1_addAct 13 = .ok (.iastore, 1) := by decide +kernel
theorem dX1_addAct_14 : decode cX1_addAct 14 = .ok (.aload_n 0, 1) := by decide +kernel
theorem dX1_addAct_15 : decode cX1_addAct 15 = .ok (.getfield 15, 3) := by decide +kernel
theorem dX1_addAct_18 : decode cX1_addAct 18 = .ok (.iload 6, 2) := by decide +kernel
theorem dX1_addAct_20 : decode cX1_addAct 20 = .ok (.iload_n 2, 1) := by decide +kernel
theorem dX1_addAct_21 : decode cX1_addAct 21 = .ok (.iastore, 1) := by decide +kernel
theorem dX1_addAct_22 : decode cX1_addAct 22 = .ok (.aload_n 0, 1) := by decide +kernel
theorem dX1_addAct_23 : decode cX1_addAct 23 = .ok (.getfield 18, 3) := by decide +kernel
theorem dX1_addAct_26 : decode cX1_addAct 26 = .ok (.iload 6, 2) := by decide +kernel
theorem dX1_addAct_28 : decode cX1_addAct 28 = .ok (.iload_n 3, 1) := by decide +kernel
theorem dX1_addAct_29 : decode cX1_addAct 29 = .ok (.iastore, 1) := by decide +kernel
theorem dX1_addAct_30 : decode cX1_addAct 30 = .ok (.aload_n 0, 1) := by decide +kernel
theorem dX1_addAct_31 : decode cX1_addAct 31 = .ok (.getfield 21, 3) := by decide +kernel
theorem dX1_addAct_34 : decode cX1_addAct 34 = .ok (.iload 6, 2) := by decide +kernel
theorem dX1_addAct_36 : decode cX1_addAct 36 = .ok (.lload 4, 2) := by decide +kernel
theorem dX1_addAct_38 : decode cX1_addAct 38 = .ok (.lastore, 1) := by decide +kernel
theorem dX1_addAct_39 : decode cX1_addAct 39 = .ok (.aload_n 0, 1) := by decide +kernel
theorem dX1_addAct_40 : decode cX1_addAct 40 = .ok (.dup, 1) := by decide +kernel
theorem dX1_addAct_41 : decode cX1_addAct 41 = .ok (.getfield 54, 3) := by decide +kernel
theorem dX1_addAct_44 : decode cX1_addAct 44 = .ok (.iconst 1, 1) := by decide +kernel
theorem dX1_addAct_45 : decode cX1_addAct 45 = .ok (.iadd, 1) := by decide +kernel
theorem dX1_addAct_46 : decode cX1_addAct 46 = .ok (.putfield 54, 3) := by decide +kernel
theorem dX1_addAct_49 : decode cX1_addAct 49 = .ok (.iload 6, 2) := by decide +kernel
theorem dX1_addAct_51 : decode cX1_addAct 51 = .ok (.ireturn, 1) := by decide +kernel
theorem dX1_hasAct_0 : decode cX1_hasAct 0 = .ok (.iload_n 1, 1) := by decide +kernel
theorem dX1_hasAct_1 : decode cX1_hasAct 1 = .ok (.ifCond .lt 15, 3) := by decide +kernel
theorem dX1_hasAct_4 : decode cX1_hasAct 4 = .ok (.iload_n 1, 1) := by decide +kernel
theorem dX1_hasAct_5 : decode cX1_hasAct 5 = .ok (.aload_n 0, 1) := by decide +kernel
theorem dX1_hasAct_6 : decode cX1_hasAct 6 = .ok (.getfield 54, 3) := by decide +kernel
theorem dX1_hasAct_9 : decode cX1_hasAct 9 = .ok (.if_icmp .ge 7, 3) := by decide +kernel
theorem dX1_hasAct_12 : decode cX1_hasAct 12 = .ok (.iconst 1, 1) := by decide +kernel
theorem dX1_hasAct_13 : decode cX1_hasAct 13 = .ok (.goto 4, 3) := by decide +kernel
theorem dX1_hasAct_16 : decode cX1_hasAct 16 = .ok (.iconst 0, 1) := by decide +kernel
theorem dX1_hasAct_17 : decode cX1_hasAct 17 = .ok (.ireturn, 1) := by decide +kernel
theorem dX1_addNeed_0 : decode cX1_addNeed 0 = .ok (.aload_n 0, 1) := by decide +kernel
theorem dX1_addNeed_1 : decode cX1_addNeed 1 = .ok (.getfield 25, 3) := by decide +kernel
theorem dX1_addNeed_4 : decode cX1_addNeed 4 = .ok (.iload_n 1, 1) := by decide +kernel
theorem dX1_addNeed_5 : decode cX1_addNeed 5 = .ok (.iaload, 1) := by decide +kernel
theorem dX1_addNeed_6 : decode cX1_addNeed 6 = .ok (.iconst 1, 1) := by decide +kernel
theorem dX1_addNeed_7 : decode cX1_addNeed 7 = .ok (.iload_n 1, 1) := by decide +kernel
theorem dX1_addNeed_8 : decode cX1_addNeed 8 = .ok (.ishl, 1) := by decide +kernel
theorem dX1_addNeed_9 : decode cX1_addNeed 9 = .ok (.ior, 1) := by decide +kernel
theorem dX1_addNeed_10 : decode cX1_addNeed 10 = .ok (.istore_n 3, 1) := by decide +kernel
theorem dX1_addNeed_11 : decode cX1_addNeed 11 = .ok (.iconst 0, 1) := by decide +kernel
theorem dX1_addNeed_12 : decode cX1_addNeed 12 = .ok (.istore 4, 2) := by decide +kernel
theorem dX1_addNeed_14 : decode cX1_addNeed 14 = .ok (.iload 4, 2) := by decide +kernel
theorem dX1_addNeed_16 : decode cX1_addNeed 16 = .ok (.aload_n 0, 1) := by decide +kernel
theorem dX1_addNeed_17 : decode cX1_addNeed 17 = .ok (.getfield 54, 3) := by decide +kernel
theorem dX1_addNeed_20 : decode cX1_addNeed 20 = .ok (.if_icmp .ge 40, 3) := by decide +kernel
theorem dX1_addNeed_23 : decode cX1_addNeed 23 = .ok (.iload 4, 2) := by decide +kernel
theorem dX1_addNeed_25 : decode cX1_addNeed 25 = .ok (.iload_n 2, 1) := by decide +kernel
theorem dX1_addNeed_26 : decode cX1_addNeed 26 = .ok (.if_icmp .eq 17, 3) := by decide +kernel
theorem dX1_addNeed_29 : decode cX1_addNeed 29 = .ok (.aload_n 0, 1) := by decide +kernel
theorem dX1_addNeed_30 : decode cX1_addNeed 30 = .ok (.getfield 25, 3) := by decide +kernel
theorem dX1_addNeed_33 : decode cX1_addNeed 33 = .ok (.iload 4, 2) := by decide +kernel
theorem dX1_addNeed_35 : decode cX1_addNeed 35 = .ok (.iaload, 1) := by decide +kernel
theorem dX1_addNeed_36 : decode cX1_addNeed 36 = .ok (.iload_n 2, 1) := by decide +kernel
theorem dX1_addNeed_37 : decode cX1_addNeed 37 = .ok (.invokestatic 58, 3) := by decide +kernel
theorem dX1_addNeed_40 : decode cX1_addNeed 40 = .ok (.ifCond .eq 14, 3) := by decide +kernel
theorem dX1_addNeed_43 : decode cX1_addNeed 43 = .ok (.aload_n 0, 1) := by decide +kernel
theorem dX1_addNeed_44 : decode cX1_addNeed 44 = .ok (.getfield 25, 3) := by decide +kernel
theorem dX1_addNeed_47 : decode cX1_addNeed 47 = .ok (.iload 4, 2) := by decide +kernel
theorem dX1_addNeed_49 : decode cX1_addNeed 49 = .ok (.dup2, 1) := by decide +kernel
theorem dX1_addNeed_50 : decode cX1_addNeed 50 = .ok (.iaload, 1) := by decide +kernel
theorem dX1_addNeed_51 : decode cX1_addNeed 51 = .ok (.iload_n 3, 1) := by decide +kernel
theorem dX1_addNeed_52 : decode cX1_addNeed 52 = .ok (.ior, 1) := by decide +kernel
theorem dX1_addNeed_53 : decode cX1_addNeed 53 = .ok (.iastore, 1) := by decide +kernel
theorem dX1_addNeed_54 : decode cX1_addNeed 54 = .ok (.iinc 4 1, 3) := by decide +kernel
theorem dX1_addNeed_57 : decode cX1_addNeed 57 = .ok (.goto (-43), 3) := by decide +kernel
theorem dX1_addNeed_60 : decode cX1_addNeed 60 = .ok (.return_, 1) := by decide +kernel
theorem dX1_tellRest_0 : decode cX1_tellRest 0 = .ok (.aload_n 0, 1) := by decide +kernel
theorem dX1_tellRest_1 : decode cX1_tellRest 1 = .ok (.iload_n 1, 1) := by decide +kernel
theorem dX1_tellRest_2 : decode cX1_tellRest 2 = .ok (.invokevirtual 62, 3) := by decide +kernel
theorem dX1_tellRest_5 : decode cX1_tellRest 5 = .ok (.istore 4, 2) := by decide +kernel
theorem dX1_tellRest_7 : decode cX1_tellRest 7 = .ok (.iload 4, 2) := by decide +kernel
theorem dX1_tellRest_9 : decode cX1_tellRest 9 = .ok (.bipush 16, 2) := by decide +kernel
theorem dX1_tellRest_11 : decode cX1_tellRest 11 = .ok (.if_icmp .lt 5, 3) := by decide +kernel
theorem dX1_tellRest_14 : decode cX1_tellRest 14 = .ok (.iconst 0, 1) := by decide +kernel
theorem dX1_tellRest_15 : decode cX1_tellRest 15 = .ok (.ireturn, 1) := by decide +kernel
theorem dX1_tellRest_16 : decode cX1_tellRest 16 = .ok (.iload 4, 2) := by decide +kernel
theorem dX1_tellRest_18 : decode cX1_tellRest 18 = .ok (.aload_n 0, 1) := by decide +kernel
theorem dX1_tellRest_19 : decode cX1_tellRest 19 = .ok (.getfield 66, 3) := by decide +kernel
theorem dX1_tellRest_22 : decode cX1_tellRest 22 = .ok (.if_icmp .ne 13, 3) := by decide +kernel
theorem dX1_tellRest_25 : decode cX1_tellRest 25 = .ok (.aload_n 0, 1) := by decide +kernel
theorem dX1_tellRest_26 : decode cX1_tellRest 26 = .ok (.dup, 1) := by decide +kernel
theorem dX1_tellRest_27 : decode cX1_tellRest 27 = .ok (.getfield 66, 3) := by decide +kernel
theorem dX1_tellRest_30 : decode cX1_tellRest 30 = .ok (.iconst 1, 1) := by decide +kernel
theorem dX1_tellRest_31 : decode cX1_tellRest 31 = .ok (.iadd, 1) := by decide +kernel
theorem dX1_tellRest_32 : decode cX1_tellRest 32 = .ok (.putfield 66, 3) := by decide +kernel
theorem dX1_tellRest_35 : decode cX1_tellRest 35 = .ok (.aload_n 0, 1) := by decide +kernel
theorem dX1_tellRest_36 : decode cX1_tellRest 36 = .ok (.getfield 40, 3) := by decide +kernel
theorem dX1_tellRest_39 : decode cX1_tellRest 39 = .ok (.iload 4, 2) := by decide +kernel
theorem dX1_tellRest_41 : decode cX1_tellRest 41 = .ok (.iload_n 1, 1) := by decide +kernel
theorem dX1_tellRest_42 : decode cX1_tellRest 42 = .ok (.iastore, 1) := by decide +kernel
theorem dX1_tellRest_43 : decode cX1_tellRest 43 = .ok (.aload_n 0, 1) := by decide +kernel
theorem dX1_tellRest_44 : decode cX1_tellRest 44 = .ok (.getfield 43, 3) := by decide +kernel
theorem dX1_tellRest_47 : decode cX1_tellRest 47 = .ok (.iload 4, 2) := by decide +kernel
theorem dX1_tellRest_49 : decode cX1_tellRest 49 = .ok (.lload_n 2, 1) := by decide +kernel
theorem dX1_tellRest_50 : decode cX1_tellRest 50 = .ok (.lastore, 1) := by decide +kernel
theorem dX1_tellRest_51 : decode cX1_tellRest 51 = .ok (.iconst 1, 1) := by decide +kernel
theorem dX1_tellRest_52 : decode cX1_tellRest 52 = .ok (.ireturn, 1) := by decide +kernel
theorem dX1_placeOfRest_0 : decode cX1_placeOfRest 0 = .ok (.iconst 0, 1) := by decide +kernel
theorem dX1_placeOfRest_1 : decode cX1_placeOfRest 1 = .ok (.istore_n 2, 1) := by decide +kernel
theorem dX1_placeOfRest_2 : decode cX1_placeOfRest 2 = .ok (.iload_n 2, 1) := by decide +kernel
theorem dX1_placeOfRest_3 : decode cX1_placeOfRest 3 = .ok (.aload_n 0, 1) := by decide +kernel
theorem dX1_placeOfRest_4 : decode cX1_placeOfRest 4 = .ok (.getfield 66, 3) := by decide +kernel
theorem dX1_placeOfRest_7 : decode cX1_placeOfRest 7 = .ok (.if_icmp .ge 21, 3) := by decide +kernel
theorem dX1_placeOfRest_10 : decode cX1_placeOfRest 10 = .ok (.aload_n 0, 1) := by decide +kernel
theorem dX1_placeOfRest_11 : decode cX1_placeOfRest 11 = .ok (.getfield 40, 3) := by decide +kernel
theorem dX1_placeOfRest_14 : decode cX1_placeOfRest 14 = .ok (.iload_n 2, 1) := by decide +kernel
theorem dX1_placeOfRest_15 : decode cX1_placeOfRest 15 = .ok (.iaload, 1) := by decide +kernel
theorem dX1_placeOfRest_16 : decode cX1_placeOfRest 16 = .ok (.iload_n 1, 1) := by decide +kernel
theorem dX1_placeOfRest_17 : decode cX1_placeOfRest 17 = .ok (.if_icmp .ne 5, 3) := by decide +kernel
theorem dX1_placeOfRest_20 : decode cX1_placeOfRest 20 = .ok (.iload_n 2, 1) := by decide +kernel
theorem dX1_placeOfRest_21 : decode cX1_placeOfRest 21 = .ok (.ireturn, 1) := by decide +kernel
theorem dX1_placeOfRest_22 : decode cX1_placeOfRest 22 = .ok (.iinc 2 1, 3) := by decide +kernel
theorem dX1_placeOfRest_25 : decode cX1_placeOfRest 25 = .ok (.goto (-23), 3) := by decide +kernel
theorem dX1_placeOfRest_28 : decode cX1_placeOfRest 28 = .ok (.aload_n 0, 1) := by decide +kernel
theorem dX1_placeOfRest_29 : decode cX1_placeOfRest 29 = .ok (.getfield 66, 3) := by decide +kernel
theorem dX1_placeOfRest_32 : decode cX1_placeOfRest 32 = .ok (.ireturn, 1) := by decide +kernel
theorem dX1_countStates_0 : decode cX1_countStates 0 = .ok (.lconst 1, 1) := by decide +kernel
theorem dX1_countStates_1 : decode cX1_countStates 1 = .ok (.lstore_n 1, 1) := by decide +kernel
theorem dX1_countStates_2 : decode cX1_countStates 2 = .ok (.iconst 1, 1) := by decide +kernel
theorem dX1_countStates_3 : decode cX1_countStates 3 = .ok (.istore_n 3, 1) := by decide +kernel
theorem dX1_countStates_4 : decode cX1_countStates 4 = .ok (.iload_n 3, 1) := by decide +kernel
theorem dX1_countStates_5 : decode cX1_countStates 5 = .ok (.aload_n 0, 1) := by decide +kernel
theorem dX1_countStates_6 : decode cX1_countStates 6 = .ok (.invokevirtual 78, 3) := by decide +kernel
theorem dX1_countStates_9 : decode cX1_countStates 9 = .ok (.if_icmp .gt 21, 3) := by decide +kernel
theorem dX1_countStates_12 : decode cX1_countStates 12 = .ok (.lload_n 1, 1) := by decide +kernel
theorem dX1_countStates_13 : decode cX1_countStates 13 = .ok (.aload_n 0, 1) := by decide +kernel
theorem dX1_countStates_14 : decode cX1_countStates 14 = .ok (.iload_n 3, 1) := by decide +kernel
theorem dX1_countStates_15 : decode cX1_countStates 15 = .ok (.invokevirtual 82, 3) := by decide +kernel
theorem dX1_countStates_18 : decode cX1_countStates 18 = .ok (.invokestatic 85, 3) := by decide +kernel
theorem dX1_countStates_21 : decode cX1_countStates 21 = .ok (.i2l, 1) := by decide +kernel
theorem dX1_countStates_22 : decode cX1_countStates 22 = .ok (.ladd, 1) := by decide +kernel
theorem dX1_countStates_23 : decode cX1_countStates 23 = .ok (.lstore_n 1, 1) := by decide +kernel
theorem dX1_countStates_24 : decode cX1_countStates 24 = .ok (.iinc 3 1, 3) := by decide +kernel
theorem dX1_countStates_27 : decode cX1_countStates 27 = .ok (.goto (-23), 3) := by decide +kernel
theorem dX1_countStates_30 : decode cX1_countStates 30 = .ok (.lload_n 1, 1) := by decide +kernel
theorem dX1_countStates_31 : decode cX1_countStates 31 = .ok (.lreturn, 1) := by decide +kernel
theorem dX1_allActs_0 : decode cX1_allActs 0 = .ok (.iconst 1, 1) := by decide +kernel
theorem dX1_allActs_1 : decode cX1_allActs 1 = .ok (.aload_n 0, 1) := by decide +kernel
theorem dX1_allActs_2 : decode cX1_allActs 2 = .ok (.getfield 54, 3) := by decide +kernel
theorem dX1_allActs_5 : decode cX1_allActs 5 = .ok (.ishl, 1) := by decide +kernel
theorem dX1_allActs_6 : decode cX1_allActs 6 = .ok (.iconst 1, 1) := by decide +kernel
theorem dX1_allActs_7 : decode cX1_allActs 7 = .ok (.isub, 1) := by decide +kernel
theorem dX1_allActs_8 : decode cX1_allActs 8 = .ok (.ireturn, 1) := by decide +kernel
theorem dX1_lastsOf_0 : decode cX1_lastsOf 0 = .ok (.aload_n 0, 1) := by decide +kernel
theorem dX1_lastsOf_1 : decode cX1_lastsOf 1 = .ok (.iload_n 1, 1) := by decide +kernel
theorem dX1_lastsOf_2 : decode cX1_lastsOf 2 = .ok (.invokevirtual 75, 3) := by decide +kernel
theorem dX1_lastsOf_5 : decode cX1_lastsOf 5 = .ok (.istore_n 2, 1) := by decide +kernel
theorem dX1_lastsOf_6 : decode cX1_lastsOf 6 = .ok (.iload_n 2, 1) := by decide +kernel
theorem dX1_lastsOf_7 : decode cX1_lastsOf 7 = .ok (.iload_n 1, 1) := by decide +kernel
theorem dX1_lastsOf_8 : decode cX1_lastsOf 8 = .ok (.iconst (-1), 1) := by decide +kernel
theorem dX1_lastsOf_9 : decode cX1_lastsOf 9 = .ok (.ixor, 1) := by decide +kernel
theorem dX1_lastsOf_10 : decode cX1_lastsOf 10 = .ok (.iand, 1) := by decide +kernel
theorem dX1_lastsOf_11 : decode cX1_lastsOf 11 = .ok (.ifCond .ne 11, 3) := by decide +kernel
theorem dX1_lastsOf_14 : decode cX1_lastsOf 14 = .ok (.iload_n 1, 1) := by decide +kernel
theorem dX1_lastsOf_15 : decode cX1_lastsOf 15 = .ok (.iload_n 2, 1) := by decide +kernel
theorem dX1_lastsOf_16 : decode cX1_lastsOf 16 = .ok (.iconst (-1), 1) := by decide +kernel
theorem dX1_lastsOf_17 : decode cX1_lastsOf 17 = .ok (.ixor, 1) := by decide +kernel
theorem dX1_lastsOf_18 : decode cX1_lastsOf 18 = .ok (.iand, 1) := by decide +kernel
theorem dX1_lastsOf_19 : decode cX1_lastsOf 19 = .ok (.goto 4, 3) := by decide +kernel
theorem dX1_lastsOf_22 : decode cX1_lastsOf 22 = .ok (.iconst 0, 1) := by decide +kernel
theorem dX1_lastsOf_23 : decode cX1_lastsOf 23 = .ok (.ireturn, 1) := by decide +kernel
theorem dX1_neededBy_0 : decode cX1_neededBy 0 = .ok (.iconst 0, 1) := by decide +kernel
theorem dX1_neededBy_1 : decode cX1_neededBy 1 = .ok (.istore_n 2, 1) := by decide +kernel
theorem dX1_neededBy_2 : decode cX1_neededBy 2 = .ok (.iconst 0, 1) := by decide +kernel
theorem dX1_neededBy_3 : decode cX1_neededBy 3 = .ok (.istore_n 3, 1) := by decide +kernel
theorem dX1_neededBy_4 : decode cX1_neededBy 4 = .ok (.iload_n 3, 1) := by decide +kernel
theorem dX1_neededBy_5 : decode cX1_neededBy 5 = .ok (.aload_n 0, 1) := by decide +kernel
theorem dX1_neededBy_6 : decode cX1_neededBy 6 = .ok (.getfield 54, 3) := by decide +kernel
theorem dX1_neededBy_9 : decode cX1_neededBy 9 = .ok (.if_icmp .ge 26, 3) := by decide +kernel
theorem dX1_neededBy_12 : decode cX1_neededBy 12 = .ok (.iload_n 1, 1) := by decide +kernel
theorem dX1_neededBy_13 : decode cX1_neededBy 13 = .ok (.iload_n 3, 1) := by decide +kernel
theorem dX1_neededBy_14 : decode cX1_neededBy 14 = .ok (.invokestatic 58, 3) := by decide +kernel
theorem dX1_neededBy_17 : decode cX1_neededBy 17 = .ok (.ifCond .eq 12, 3) := by decide +kernel
theorem dX1_neededBy_20 : decode cX1_neededBy 20 = .ok (.iload_n 2, 1) := by decide +kernel
theorem dX1_neededBy_21 : decode cX1_neededBy 21 = .ok (.aload_n 0, 1) := by decide +kernel
theorem dX1_neededBy_22 : decode cX1_neededBy 22 = .ok (.getfield 25, 3) := by decide +kernel
theorem dX1_neededBy_25 : decode cX1_neededBy 25 = .ok (.iload_n 3, 1) := by decide +kernel
theorem dX1_neededBy_26 : decode cX1_neededBy 26 = .ok (.iaload, 1) := by decide +kernel
theorem dX1_neededBy_27 : decode cX1_neededBy 27 = .ok (.ior, 1) := by decide +kernel
theorem dX1_neededBy_28 : decode cX1_neededBy 28 = .ok (.istore_n 2, 1) := by decide +kernel
theorem dX1_neededBy_29 : decode cX1_neededBy 29 = .ok (.iinc 3 1, 3) := by decide +kernel
theorem dX1_neededBy_32 : decode cX1_neededBy 32 = .ok (.goto (-28), 3) := by decide +kernel
theorem dX1_neededBy_35 : decode cX1_neededBy 35 = .ok (.iload_n 2, 1) := by decide +kernel
theorem dX1_neededBy_36 : decode cX1_neededBy 36 = .ok (.ireturn, 1) := by decide +kernel
theorem dX2_valueAsTold_0 : decode cX2_valueAsTold 0 = .ok (.iconst 0, 1) := by decide +kernel
theorem dX2_valueAsTold_1 : decode cX2_valueAsTold 1 = .ok (.istore_n 1, 1) := by decide +kernel
theorem dX2_valueAsTold_2 : decode cX2_valueAsTold 2 = .ok (.iload_n 1, 1) := by decide +kernel
theorem dX2_valueAsTold_3 : decode cX2_valueAsTold 3 = .ok (.bipush 12, 2) := by decide +kernel
theorem dX2_valueAsTold_5 : decode cX2_valueAsTold 5 = .ok (.if_icmp .ge 23, 3) := by decide +kernel
theorem dX2_valueAsTold_8 : decode cX2_valueAsTold 8 = .ok (.aload_n 0, 1) := by decide +kernel
theorem dX2_valueAsTold_9 : decode cX2_valueAsTold 9 = .ok (.getfield 9, 3) := by decide +kernel
theorem dX2_valueAsTold_12 : decode cX2_valueAsTold 12 = .ok (.iload_n 1, 1) := by decide +kernel
theorem dX2_valueAsTold_13 : decode cX2_valueAsTold 13 = .ok (.aload_n 0, 1) := by decide +kernel
theorem dX2_valueAsTold_14 : decode cX2_valueAsTold 14 = .ok (.getfield 21, 3) := by decide +kernel
theorem dX2_valueAsTold_17 : decode cX2_valueAsTold 17 = .ok (.iload_n 1, 1) := by decide +kernel
theorem dX2_valueAsTold_18 : decode cX2_valueAsTold 18 = .ok (.invokevirtual 25, 3) := by decide +kernel
theorem dX2_valueAsTold_21 : decode cX2_valueAsTold 21 = .ok (.lastore, 1) := by decide +kernel
theorem dX2_valueAsTold_22 : decode cX2_valueAsTold 22 = .ok (.iinc 1 1, 3) := by decide +kernel
theorem dX2_valueAsTold_25 : decode cX2_valueAsTold 25 = .ok (.goto (-23), 3) := by decide +kernel
theorem dX2_valueAsTold_28 : decode cX2_valueAsTold 28 = .ok (.return_, 1) := by decide +kernel
theorem dX1_valueOf_0 : decode cX1_valueOf 0 = .ok (.aload_n 0, 1) := by decide +kernel
theorem dX1_valueOf_1 : decode cX1_valueOf 1 = .ok (.getfield 34, 3) := by decide +kernel
theorem dX1_valueOf_4 : decode cX1_valueOf 4 = .ok (.iload_n 1, 1) := by decide +kernel
theorem dX1_valueOf_5 : decode cX1_valueOf 5 = .ok (.laload, 1) := by decide +kernel
theorem dX1_valueOf_6 : decode cX1_valueOf 6 = .ok (.aload_n 0, 1) := by decide +kernel
theorem dX1_valueOf_7 : decode cX1_valueOf 7 = .ok (.getfield 37, 3) := by decide +kernel
theorem dX1_valueOf_10 : decode cX1_valueOf 10 = .ok (.iload_n 1, 1) := by decide +kernel
theorem dX1_valueOf_11 : decode cX1_valueOf 11 = .ok (.laload, 1) := by decide +kernel
theorem dX1_valueOf_12 : decode cX1_valueOf 12 = .ok (.lmul, 1) := by decide +kernel
theorem dX1_valueOf_13 : decode cX1_valueOf 13 = .ok (.lreturn, 1) := by decide +kernel
theorem dX2_greatestGain_0 : decode cX2_greatestGain 0 = .ok (.aload_n 0, 1) := by decide +kernel
theorem dX2_greatestGain_1 : decode cX2_greatestGain 1 = .ok (.invokevirtual 34, 3) := by decide +kernel
theorem dX2_greatestGain_4 : decode cX2_greatestGain 4 = .ok (.aload_n 0, 1) := by decide +kernel
theorem dX2_greatestGain_5 : decode cX2_greatestGain 5 = .ok (.getfield 21, 3) := by decide +kernel
theorem dX2_greatestGain_8 : decode cX2_greatestGain 8 = .ok (.invokevirtual 37, 3) := by decide +kernel
theorem dX2_greatestGain_11 : decode cX2_greatestGain 11 = .ok (.istore_n 1, 1) := by decide +kernel
theorem dX2_greatestGain_12 : decode cX2_greatestGain 12 = .ok (.iload_n 1, 1) := by decide +kernel
theorem dX2_greatestGain_13 : decode cX2_greatestGain 13 = .ok (.ifCond .le 14, 3) := by decide +kernel
theorem dX2_greatestGain_16 : decode cX2_greatestGain 16 = .ok (.aload_n 0, 1) := by decide +kernel
theorem dX2_greatestGain_17 : decode cX2_greatestGain 17 = .ok (.iload_n 1, 1) := by decide +kernel
theorem dX2_greatestGain_18 : decode cX2_greatestGain 18 = .ok (.invokevirtual 41, 3) := by decide +kernel
theorem dX2_greatestGain_21 : decode cX2_greatestGain 21 = .ok (.iinc 1 (-1), 3) := by decide +kernel
theorem dX2_greatestGain_24 : decode cX2_greatestGain 24 = .ok (.goto (-12), 3) := by decide +kernel
theorem dX2_greatestGain_27 : decode cX2_greatestGain 27 = .ok (.aload_n 0, 1) := by decide +kernel
theorem dX2_greatestGain_28 : decode cX2_greatestGain 28 = .ok (.iconst (-1), 1) := by decide +kernel
theorem dX2_greatestGain_29 : decode cX2_greatestGain 29 = .ok (.iconst 0, 1) := by decide +kernel
theorem dX2_greatestGain_30 : decode cX2_greatestGain 30 = .ok (.aload_n 0, 1) := by decide +kernel
theorem dX2_greatestGain_31 : decode cX2_greatestGain 31 = .ok (.getfield 21, 3) := by decide +kernel
theorem dX2_greatestGain_34 : decode cX2_greatestGain 34 = .ok (.iconst 0, 1) := by decide +kernel
theorem dX2_greatestGain_35 : decode cX2_greatestGain 35 = .ok (.invokevirtual 45, 3) := by decide +kernel
theorem dX2_greatestGain_38 : decode cX2_greatestGain 38 = .ok (.aload_n 0, 1) := by decide +kernel
theorem dX2_greatestGain_39 : decode cX2_greatestGain 39 = .ok (.iconst 0, 1) := by decide +kernel
theorem dX2_greatestGain_40 : decode cX2_greatestGain 40 = .ok (.invokevirtual 49, 3) := by decide +kernel
theorem dX2_greatestGain_43 : decode cX2_greatestGain 43 = .ok (.invokevirtual 52, 3) := by decide +kernel
theorem dX2_greatestGain_46 : decode cX2_greatestGain 46 = .ok (.lreturn, 1) := by decide +kernel
theorem dX2_setSteps_0 : decode cX2_setSteps 0 = .ok (.iconst 0, 1) := by decide +kernel
theorem dX2_setSteps_1 : decode cX2_setSteps 1 = .ok (.istore_n 1, 1) := by decide +kernel
theorem dX2_setSteps_2 : decode cX2_setSteps 2 = .ok (.iload_n 1, 1) := by decide +kernel
theorem dX2_setSteps_3 : decode cX2_setSteps 3 = .ok (.aload_n 0, 1) := by decide +kernel
theorem dX2_setSteps_4 : decode cX2_setSteps 4 = .ok (.getfield 21, 3) := by decide +kernel
theorem dX2_setSteps_7 : decode cX2_setSteps 7 = .ok (.getfield 56, 3) := by decide +kernel
theorem dX2_setSteps_10 : decode cX2_setSteps 10 = .ok (.if_icmp .ge 51, 3) := by decide +kernel
theorem dX2_setSteps_13 : decode cX2_setSteps 13 = .ok (.iconst (-1), 1) := by decide +kernel
theorem dX2_setSteps_14 : decode cX2_setSteps 14 = .ok (.istore_n 2, 1) := by decide +kernel
theorem dX2_setSteps_15 : decode cX2_setSteps 15 = .ok (.iload_n 2, 1) := by decide +kernel
theorem dX2_setSteps_16 : decode cX2_setSteps 16 = .ok (.aload_n 0, 1) := by decide +kernel
theorem dX2_setSteps_17 : decode cX2_setSteps 17 = .ok (.getfield 21, 3) := by decide +kernel
theorem dX2_setSteps_20 : decode cX2_setSteps 20 = .ok (.getfield 56, 3) := by decide +kernel
theorem dX2_setSteps_23 : decode cX2_setSteps 23 = .ok (.if_icmp .ge 32, 3) := by decide +kernel
theorem dX2_setSteps_26 : decode cX2_setSteps 26 = .ok (.aload_n 0, 1) := by decide +kernel
theorem dX2_setSteps_27 : decode cX2_setSteps 27 = .ok (.getfield 15, 3) := by decide +kernel
theorem dX2_setSteps_30 : decode cX2_setSteps 30 = .ok (.iload_n 2, 1) := by decide +kernel
theorem dX2_setSteps_31 : decode cX2_setSteps 31 = .ok (.iload_n 1, 1) := by decide +kernel
theorem dX2_setSteps_32 : decode cX2_setSteps 32 = .ok (.invokestatic 68, 3) := by decide +kernel
theorem dX2_setSteps_35 : decode cX2_setSteps 35 = .ok (.aload_n 0, 1) := by decide +kernel
theorem dX2_setSteps_36 : decode cX2_setSteps 36 = .ok (.getfield 21, 3) := by decide +kernel
theorem dX2_setSteps_39 : decode cX2_setSteps 39 = .ok (.iload_n 2, 1) := by decide +kernel
theorem dX2_setSteps_40 : decode cX2_setSteps 40 = .ok (.iload_n 1, 1) := by decide +kernel
theorem dX2_setSteps_41 : decode cX2_setSteps 41 = .ok (.invokevirtual 72, 3) := by decide +kernel
theorem dX2_setSteps_44 : decode cX2_setSteps 44 = .ok (.ldc2_w 76, 3) := by decide +kernel
theorem dX2_setSteps_47 : decode cX2_setSteps 47 = .ok (.lmul, 1) := by decide +kernel
theorem dX2_setSteps_48 : decode cX2_setSteps 48 = .ok (.lastore, 1) := by decide +kernel
theorem dX2_setSteps_49 : decode cX2_setSteps 49 = .ok (.iinc 2 1, 3) := by decide +kernel
theorem dX2_setSteps_52 : decode cX2_setSteps 52 = .ok (.goto (-37), 3) := by decide +kernel
theorem dX2_setSteps_55 : decode cX2_setSteps 55 = .ok (.iinc 1 1, 3) := by decide +kernel
theorem dX2_setSteps_58 : decode cX2_setSteps 58 = .ok (.goto (-56), 3) := by decide +kernel
theorem dX2_setSteps_61 : decode cX2_setSteps 61 = .ok (.return_, 1) := by decide +kernel
theorem dX2_stepPlace_0 : decode cX2_stepPlace 0 = .ok (.iload_n 0, 1) := by decide +kernel
theorem dX2_stepPlace_1 : decode cX2_stepPlace 1 = .ok (.iconst (-1), 1) := by decide +kernel
theorem dX2_stepPlace_2 : decode cX2_stepPlace 2 = .ok (.if_icmp .ne 8, 3) := by decide +kernel
theorem dX2_stepPlace_5 : decode cX2_stepPlace 5 = .ok (.bipush 10, 2) := by decide +kernel
theorem dX2_stepPlace_7 : decode cX2_stepPlace 7 = .ok (.goto 4, 3) := by decide +kernel
theorem dX2_stepPlace_10 : decode cX2_stepPlace 10 = .ok (.iload_n 0, 1) := by decide +kernel
theorem dX2_stepPlace_11 : decode cX2_stepPlace 11 = .ok (.bipush 10, 2) := by decide +kernel
theorem dX2_stepPlace_13 : decode cX2_stepPlace 13 = .ok (.imul, 1) := by decide +kernel
theorem dX2_stepPlace_14 : decode cX2_stepPlace 14 = .ok (.iload_n 1, 1) := by decide +kernel
theorem dX2_stepPlace_15 : decode cX2_stepPlace 15 = .ok (.iadd, 1) := by decide +kernel
theorem dX2_stepPlace_16 : decode cX2_stepPlace 16 = .ok (.ireturn, 1) := by decide +kernel
theorem dX1_centsOfStep_0 : decode cX1_centsOfStep 0 = .ok (.iload_n 1, 1) := by decide +kernel
theorem dX1_centsOfStep_1 : decode cX1_centsOfStep 1 = .ok (.iconst (-1), 1) := by decide +kernel
theorem dX1_centsOfStep_2 : decode cX1_centsOfStep 2 = .ok (.if_icmp .ne 10, 3) := by decide +kernel
theorem dX1_centsOfStep_5 : decode cX1_centsOfStep 5 = .ok (.aload_n 0, 1) := by decide +kernel
theorem dX1_centsOfStep_6 : decode cX1_centsOfStep 6 = .ok (.getfield 21, 3) := by decide +kernel
theorem dX1_centsOfStep_9 : decode cX1_centsOfStep 9 = .ok (.iload_n 2, 1) := by decide +kernel
theorem dX1_centsOfStep_10 : decode cX1_centsOfStep 10 = .ok (.laload, 1) := by decide +kernel
theorem dX1_centsOfStep_11 : decode cX1_centsOfStep 11 = .ok (.lreturn, 1) := by decide +kernel
theorem dX1_centsOfStep_12 : decode cX1_centsOfStep 12 = .ok (.aload_n 0, 1) := by decide +kernel
theorem dX1_centsOfStep_13 : decode cX1_centsOfStep 13 = .ok (.getfield 28, 3) := by decide +kernel
theorem dX1_centsOfStep_16 : decode cX1_centsOfStep 16 = .ok (.aload_n 0, 1) := by decide +kernel
theorem dX1_centsOfStep_17 : decode cX1_centsOfStep 17 = .ok (.getfield 15, 3) := by decide +kernel
theorem dX1_centsOfStep_20 : decode cX1_centsOfStep 20 = .ok (.iload_n 1, 1) := by decide +kernel
theorem dX1_centsOfStep_21 : decode cX1_centsOfStep 21 = .ok (.iaload, 1) := by decide +kernel
theorem dX1_centsOfStep_22 : decode cX1_centsOfStep 22 = .ok (.bipush 6, 2) := by decide +kernel
theorem dX1_centsOfStep_24 : decode cX1_centsOfStep 24 = .ok (.imul, 1) := by decide +kernel
theorem dX1_centsOfStep_25 : decode cX1_centsOfStep 25 = .ok (.aload_n 0, 1) := by decide +kernel
theorem dX1_centsOfStep_26 : decode cX1_centsOfStep 26 = .ok (.getfield 15, 3) := by decide +kernel
theorem dX1_centsOfStep_29 : decode cX1_centsOfStep 29 = .ok (.iload_n 2, 1) := by decide +kernel
theorem dX1_centsOfStep_30 : decode cX1_centsOfStep 30 = .ok (.iaload, 1) := by decide +kernel
theorem dX1_centsOfStep_31 : decode cX1_centsOfStep 31 = .ok (.iadd, 1) := by decide +kernel
theorem dX1_centsOfStep_32 : decode cX1_centsOfStep 32 = .ok (.laload, 1) := by decide +kernel
theorem dX1_centsOfStep_33 : decode cX1_centsOfStep 33 = .ok (.lstore_n 3, 1) := by decide +kernel
theorem dX1_centsOfStep_34 : decode cX1_centsOfStep 34 = .ok (.aload_n 0, 1) := by decide +kernel
theorem dX1_centsOfStep_35 : decode cX1_centsOfStep 35 = .ok (.getfield 31, 3) := by decide +kernel
theorem dX1_centsOfStep_38 : decode cX1_centsOfStep 38 = .ok (.aload_n 0, 1) := by decide +kernel
theorem dX1_centsOfStep_39 : decode cX1_centsOfStep 39 = .ok (.getfield 18, 3) := by decide +kernel
theorem dX1_centsOfStep_42 : decode cX1_centsOfStep 42 = .ok (.iload_n 1, 1) := by decide +kernel
theorem dX1_centsOfStep_43 : decode cX1_centsOfStep 43 = .ok (.iaload, 1) := by decide +kernel
theorem dX1_centsOfStep_44 : decode cX1_centsOfStep 44 = .ok (.bipush 6, 2) := by decide +kernel
theorem dX1_centsOfStep_46 : decode cX1_centsOfStep 46 = .ok (.imul, 1) := by decide +kernel
theorem dX1_centsOfStep_47 : decode cX1_centsOfStep 47 = .ok (.aload_n 0, 1) := by decide +kernel
theorem dX1_centsOfStep_48 : decode cX1_centsOfStep 48 = .ok (.getfield 18, 3) := by decide +kernel
theorem dX1_centsOfStep_51 : decode cX1_centsOfStep 51 = .ok (.iload_n 2, 1) := by decide +kernel
theorem dX1_centsOfStep_52 : decode cX1_centsOfStep 52 = .ok (.iaload, 1) := by decide +kernel
theorem dX1_centsOfStep_53 : decode cX1_centsOfStep 53 = .ok (.iadd, 1) := by decide +kernel
theorem dX1_centsOfStep_54 : decode cX1_centsOfStep 54 = .ok (.laload, 1) := by decide +kernel
theorem dX1_centsOfStep_55 : decode cX1_centsOfStep 55 = .ok (.lstore 5, 2) := by decide +kernel
theorem dX1_centsOfStep_57 : decode cX1_centsOfStep 57 = .ok (.aload_n 0, 1) := by decide +kernel
theorem dX1_centsOfStep_58 : decode cX1_centsOfStep 58 = .ok (.getfield 21, 3) := by decide +kernel
theorem dX1_centsOfStep_61 : decode cX1_centsOfStep 61 = .ok (.iload_n 2, 1) := by decide +kernel
theorem dX1_centsOfStep_62 : decode cX1_centsOfStep 62 = .ok (.laload, 1) := by decide +kernel
theorem dX1_centsOfStep_63 : decode cX1_centsOfStep 63 = .ok (.lload_n 3, 1) := by decide +kernel
theorem dX1_centsOfStep_64 : decode cX1_centsOfStep 64 = .ok (.ladd, 1) := by decide +kernel
theorem dX1_centsOfStep_65 : decode cX1_centsOfStep 65 = .ok (.lload 5, 2) := by decide +kernel
theorem dX1_centsOfStep_67 : decode cX1_centsOfStep 67 = .ok (.ladd, 1) := by decide +kernel
theorem dX1_centsOfStep_68 : decode cX1_centsOfStep 68 = .ok (.lreturn, 1) := by decide +kernel
theorem dX2_setMost_0 : decode cX2_setMost 0 = .ok (.aload_n 0, 1) := by decide +kernel
theorem dX2_setMost_1 : decode cX2_setMost 1 = .ok (.getfield 21, 3) := by decide +kernel
theorem dX2_setMost_4 : decode cX2_setMost 4 = .ok (.iload_n 1, 1) := by decide +kernel
theorem dX2_setMost_5 : decode cX2_setMost 5 = .ok (.invokevirtual 78, 3) := by decide +kernel
theorem dX2_setMost_8 : decode cX2_setMost 8 = .ok (.istore_n 2, 1) := by decide +kernel
theorem dX2_setMost_9 : decode cX2_setMost 9 = .ok (.iload_n 2, 1) := by decide +kernel
theorem dX2_setMost_10 : decode cX2_setMost 10 = .ok (.ifCond .ne 4, 3) := by decide +kernel
theorem dX2_setMost_13 : decode cX2_setMost 13 = .ok (.return_, 1) := by decide +kernel
theorem dX2_setMost_14 : decode cX2_setMost 14 = .ok (.aload_n 0, 1) := by decide +kernel
theorem dX2_setMost_15 : decode cX2_setMost 15 = .ok (.getfield 21, 3) := by decide +kernel
theorem dX2_setMost_18 : decode cX2_setMost 18 = .ok (.iload_n 1, 1) := by decide +kernel
theorem dX2_setMost_19 : decode cX2_setMost 19 = .ok (.invokevirtual 45, 3) := by decide +kernel
theorem dX2_setMost_22 : decode cX2_setMost 22 = .ok (.istore_n 3, 1) := by decide +kernel
theorem dX2_setMost_23 : decode cX2_setMost 23 = .ok (.aload_n 0, 1) := by decide +kernel
theorem dX2_setMost_24 : decode cX2_setMost 24 = .ok (.iload_n 1, 1) := by decide +kernel
theorem dX2_setMost_25 : decode cX2_setMost 25 = .ok (.invokevirtual 49, 3) := by decide +kernel
theorem dX2_setMost_28 : decode cX2_setMost 28 = .ok (.lstore 4, 2) := by decide +kernel
theorem dX2_setMost_30 : decode cX2_setMost 30 = .ok (.iconst 0, 1) := by decide +kernel
theorem dX2_setMost_31 : decode cX2_setMost 31 = .ok (.istore 6, 2) := by decide +kernel
theorem dX2_setMost_33 : decode cX2_setMost 33 = .ok (.iload 6, 2) := by decide +kernel
theorem dX2_setMost_35 : decode cX2_setMost 35 = .ok (.aload_n 0, 1) := by decide +kernel
theorem dX2_setMost_36 : decode cX2_setMost 36 = .ok (.getfield 21, 3) := by decide +kernel
theorem dX2_setMost_39 : decode cX2_setMost 39 = .ok (.getfield 56, 3) := by decide +kernel
theorem dX2_setMost_42 : decode cX2_setMost 42 = .ok (.if_icmp .ge 40, 3) := by decide +kernel
theorem dX2_setMost_45 : decode cX2_setMost 45 = .ok (.iload_n 2, 1) := by decide +kernel
theorem dX2_setMost_46 : decode cX2_setMost 46 = .ok (.iload 6, 2) := by decide +kernel
theorem dX2_setMost_48 : decode cX2_setMost 48 = .ok (.invokestatic 60, 3) := by decide +kernel
theorem dX2_setMost_51 : decode cX2_setMost 51 = .ok (.ifCond .eq 25, 3) := by decide +kernel
theorem dX2_setMost_54 : decode cX2_setMost 54 = .ok (.aload_n 0, 1) := by decide +kernel
theorem dX2_setMost_55 : decode cX2_setMost 55 = .ok (.getfield 18, 3) := by decide +kernel
theorem dX2_setMost_58 : decode cX2_setMost 58 = .ok (.iload_n 1, 1) := by decide +kernel
theorem dX2_setMost_59 : decode cX2_setMost 59 = .ok (.bipush 10, 2) := by decide +kernel
theorem dX2_setMost_61 : decode cX2_setMost 61 = .ok (.imul, 1) := by decide +kernel
theorem dX2_setMost_62 : decode cX2_setMost 62 = .ok (.iload 6, 2) := by decide +kernel
theorem dX2_setMost_64 : decode cX2_setMost 64 = .ok (.iadd, 1) := by decide +kernel
theorem dX2_setMost_65 : decode cX2_setMost 65 = .ok (.aload_n 0, 1) := by decide +kernel
theorem dX2_setMost_66 : decode cX2_setMost 66 = .ok (.iload 6, 2) := by decide +kernel
theorem dX2_setMost_68 : decode cX2_setMost 68 = .ok (.iload_n 1, 1) := by decide +kernel
theorem dX2_setMost_69 : decode cX2_setMost 69 = .ok (.iload_n 3, 1) := by decide +kernel
theorem dX2_setMost_70 : decode cX2_setMost 70 = .ok (.lload 4, 2) := by decide +kernel
theorem dX2_setMost_72 : decode cX2_setMost 72 = .ok (.invokevirtual 52, 3) := by decide +kernel
theorem dX2_setMost_75 : decode cX2_setMost 75 = .ok (.lastore, 1) := by decide +kernel
theorem dX2_setMost_76 : decode cX2_setMost 76 = .ok (.iinc 6 1, 3) := by decide +kernel
theorem dX2_setMost_79 : decode cX2_setMost 79 = .ok (.goto (-46), 3) := by decide +kernel
theorem dX2_setMost_82 : decode cX2_setMost 82 = .ok (.return_, 1) := by decide +kernel
theorem dX1_nextsOf_0 : decode cX1_nextsOf 0 = .ok (.iconst 0, 1) := by decide +kernel
theorem dX1_nextsOf_1 : decode cX1_nextsOf 1 = .ok (.istore_n 2, 1) := by decide +kernel
theorem dX1_nextsOf_2 : decode cX1_nextsOf 2 = .ok (.iconst 0, 1) := by decide +kernel
theorem dX1_nextsOf_3 : decode cX1_nextsOf 3 = .ok (.istore_n 3, 1) := by decide +kernel
theorem dX1_nextsOf_4 : decode cX1_nextsOf 4 = .ok (.iload_n 3, 1) := by decide +kernel
theorem dX1_nextsOf_5 : decode cX1_nextsOf 5 = .ok (.aload_n 0, 1) := by decide +kernel
theorem dX1_nextsOf_6 : decode cX1_nextsOf 6 = .ok (.getfield 54, 3) := by decide +kernel
theorem dX1_nextsOf_9 : decode cX1_nextsOf 9 = .ok (.if_icmp .ge 36, 3) := by decide +kernel
theorem dX1_nextsOf_12 : decode cX1_nextsOf 12 = .ok (.iload_n 1, 1) := by decide +kernel
theorem dX1_nextsOf_13 : decode cX1_nextsOf 13 = .ok (.iload_n 3, 1) := by decide +kernel
theorem dX1_nextsOf_14 : decode cX1_nextsOf 14 = .ok (.invokestatic 58, 3) := by decide +kernel
theorem dX1_nextsOf_17 : decode cX1_nextsOf 17 = .ok (.ifCond .ne 22, 3) := by decide +kernel
theorem dX1_nextsOf_20 : decode cX1_nextsOf 20 = .ok (.aload_n 0, 1) := by decide +kernel
theorem dX1_nextsOf_21 : decode cX1_nextsOf 21 = .ok (.getfield 25, 3) := by decide +kernel
theorem dX1_nextsOf_24 : decode cX1_nextsOf 24 = .ok (.iload_n 3, 1) := by decide +kernel
theorem dX1_nextsOf_25 : decode cX1_nextsOf 25 = .ok (.iaload, 1) := by decide +kernel
theorem dX1_nextsOf_26 : decode cX1_nextsOf 26 = .ok (.iload_n 1, 1) := by decide +kernel
theorem dX1_nextsOf_27 : decode cX1_nextsOf 27 = .ok (.iconst (-1), 1) := by decide +kernel
theorem dX1_nextsOf_28 : decode cX1_nextsOf 28 = .ok (.ixor, 1) := by decide +kernel
theorem dX1_nextsOf_29 : decode cX1_nextsOf 29 = .ok (.iand, 1) := by decide +kernel
theorem dX1_nextsOf_30 : decode cX1_nextsOf 30 = .ok (.ifCond .ne 9, 3) := by decide +kernel
theorem dX1_nextsOf_33 : decode cX1_nextsOf 33 = .ok (.iload_n 2, 1) := by decide +kernel
theorem dX1_nextsOf_34 : decode cX1_nextsOf 34 = .ok (.iconst 1, 1) := by decide +kernel
theorem dX1_nextsOf_35 : decode cX1_nextsOf 35 = .ok (.iload_n 3, 1) := by decide +kernel
theorem dX1_nextsOf_36 : decode cX1_nextsOf 36 = .ok (.ishl, 1) := by decide +kernel
theorem dX1_nextsOf_37 : decode cX1_nextsOf 37 = .ok (.ior, 1) := by decide +kernel
theorem dX1_nextsOf_38 : decode cX1_nextsOf 38 = .ok (.istore_n 2, 1) := by decide +kernel
theorem dX1_nextsOf_39 : decode cX1_nextsOf 39 = .ok (.iinc 3 1, 3) := by decide +kernel
theorem dX1_nextsOf_42 : decode cX1_nextsOf 42 = .ok (.goto (-38), 3) := by decide +kernel
theorem dX1_nextsOf_45 : decode cX1_nextsOf 45 = .ok (.iload_n 2, 1) := by decide +kernel
theorem dX1_nextsOf_46 : decode cX1_nextsOf 46 = .ok (.ireturn, 1) := by decide +kernel
theorem dX2_endOf_0 : decode cX2_endOf 0 = .ok (.aload_n 0, 1) := by decide +kernel
theorem dX2_endOf_1 : decode cX2_endOf 1 = .ok (.getfield 21, 3) := by decide +kernel
theorem dX2_endOf_4 : decode cX2_endOf 4 = .ok (.iload_n 1, 1) := by decide +kernel
theorem dX2_endOf_5 : decode cX2_endOf 5 = .ok (.invokevirtual 87, 3) := by decide +kernel
theorem dX2_endOf_8 : decode cX2_endOf 8 = .ok (.istore_n 2, 1) := by decide +kernel
theorem dX2_endOf_9 : decode cX2_endOf 9 = .ok (.aload_n 0, 1) := by decide +kernel
theorem dX2_endOf_10 : decode cX2_endOf 10 = .ok (.getfield 21, 3) := by decide +kernel
theorem dX2_endOf_13 : decode cX2_endOf 13 = .ok (.sipush 4095, 3) := by decide +kernel
theorem dX2_endOf_16 : decode cX2_endOf 16 = .ok (.aload_n 0, 1) := by decide +kernel
theorem dX2_endOf_17 : decode cX2_endOf 17 = .ok (.getfield 21, 3) := by decide +kernel
theorem dX2_endOf_20 : decode cX2_endOf 20 = .ok (.iload_n 1, 1) := by decide +kernel
theorem dX2_endOf_21 : decode cX2_endOf 21 = .ok (.invokevirtual 90, 3) := by decide +kernel
theorem dX2_endOf_24 : decode cX2_endOf 24 = .ok (.iconst (-1), 1) := by decide +kernel
theorem dX2_endOf_25 : decode cX2_endOf 25 = .ok (.ixor, 1) := by decide +kernel
theorem dX2_endOf_26 : decode cX2_endOf 26 = .ok (.iand, 1) := by decide +kernel
theorem dX2_endOf_27 : decode cX2_endOf 27 = .ok (.invokevirtual 93, 3) := by decide +kernel
theorem dX2_endOf_30 : decode cX2_endOf 30 = .ok (.ldc2_w 76, 3) := by decide +kernel
theorem dX2_endOf_33 : decode cX2_endOf 33 = .ok (.lmul, 1) := by decide +kernel
theorem dX2_endOf_34 : decode cX2_endOf 34 = .ok (.lstore_n 3, 1) := by decide +kernel
theorem dX2_endOf_35 : decode cX2_endOf 35 = .ok (.iconst 0, 1) := by decide +kernel
theorem dX2_endOf_36 : decode cX2_endOf 36 = .ok (.istore 5, 2) := by decide +kernel
theorem dX2_endOf_38 : decode cX2_endOf 38 = .ok (.iload 5, 2) := by decide +kernel
theorem dX2_endOf_40 : decode cX2_endOf 40 = .ok (.bipush 12, 2) := by decide +kernel
theorem dX2_endOf_42 : decode cX2_endOf 42 = .ok (.if_icmp .ge 28, 3) := by decide +kernel
theorem dX2_endOf_45 : decode cX2_endOf 45 = .ok (.iload_n 2, 1) := by decide +kernel
theorem dX2_endOf_46 : decode cX2_endOf 46 = .ok (.iload 5, 2) := by decide +kernel
theorem dX2_endOf_48 : decode cX2_endOf 48 = .ok (.invokestatic 60, 3) := by decide +kernel
theorem dX2_endOf_51 : decode cX2_endOf 51 = .ok (.ifCond .eq 13, 3) := by decide +kernel
theorem dX2_endOf_54 : decode cX2_endOf 54 = .ok (.lload_n 3, 1) := by decide +kernel
theorem dX2_endOf_55 : decode cX2_endOf 55 = .ok (.aload_n 0, 1) := by decide +kernel
theorem dX2_endOf_56 : decode cX2_endOf 56 = .ok (.getfield 9, 3) := by decide +kernel
theorem dX2_endOf_59 : decode cX2_endOf 59 = .ok (.iload 5, 2) := by decide +kernel
theorem dX2_endOf_61 : decode cX2_endOf 61 = .ok (.laload, 1) := by decide +kernel
theorem dX2_endOf_62 : decode cX2_endOf 62 = .ok (.ladd, 1) := by decide +kernel
theorem dX2_endOf_63 : decode cX2_endOf 63 = .ok (.lstore_n 3, 1) := by decide +kernel
theorem dX2_endOf_64 : decode cX2_endOf 64 = .ok (.iinc 5 1, 3) := by decide +kernel
theorem dX2_endOf_67 : decode cX2_endOf 67 = .ok (.goto (-29), 3) := by decide +kernel
theorem dX2_endOf_70 : decode cX2_endOf 70 = .ok (.lload_n 3, 1) := by decide +kernel
theorem dX2_endOf_71 : decode cX2_endOf 71 = .ok (.lreturn, 1) := by decide +kernel
theorem dX1_wholeBy_0 : decode cX1_wholeBy 0 = .ok (.aload_n 0, 1) := by decide +kernel
theorem dX1_wholeBy_1 : decode cX1_wholeBy 1 = .ok (.iload_n 1, 1) := by decide +kernel
theorem dX1_wholeBy_2 : decode cX1_wholeBy 2 = .ok (.invokevirtual 69, 3) := by decide +kernel
theorem dX1_wholeBy_5 : decode cX1_wholeBy 5 = .ok (.aload_n 0, 1) := by decide +kernel
theorem dX1_wholeBy_6 : decode cX1_wholeBy 6 = .ok (.iload_n 1, 1) := by decide +kernel
theorem dX1_wholeBy_7 : decode cX1_wholeBy 7 = .ok (.aload_n 0, 1) := by decide +kernel
theorem dX1_wholeBy_8 : decode cX1_wholeBy 8 = .ok (.getfield 72, 3) := by decide +kernel
theorem dX1_wholeBy_11 : decode cX1_wholeBy 11 = .ok (.iand, 1) := by decide +kernel
theorem dX1_wholeBy_12 : decode cX1_wholeBy 12 = .ok (.invokevirtual 69, 3) := by decide +kernel
theorem dX1_wholeBy_15 : decode cX1_wholeBy 15 = .ok (.iconst (-1), 1) := by decide +kernel
theorem dX1_wholeBy_16 : decode cX1_wholeBy 16 = .ok (.ixor, 1) := by decide +kernel
theorem dX1_wholeBy_17 : decode cX1_wholeBy 17 = .ok (.iand, 1) := by decide +kernel
theorem dX1_wholeBy_18 : decode cX1_wholeBy 18 = .ok (.ireturn, 1) := by decide +kernel
theorem dX1_freedBy_0 : decode cX1_freedBy 0 = .ok (.iconst 0, 1) := by decide +kernel
theorem dX1_freedBy_1 : decode cX1_freedBy 1 = .ok (.istore_n 2, 1) := by decide +kernel
theorem dX1_freedBy_2 : decode cX1_freedBy 2 = .ok (.iconst 0, 1) := by decide +kernel
theorem dX1_freedBy_3 : decode cX1_freedBy 3 = .ok (.istore_n 3, 1) := by decide +kernel
theorem dX1_freedBy_4 : decode cX1_freedBy 4 = .ok (.iload_n 3, 1) := by decide +kernel
theorem dX1_freedBy_5 : decode cX1_freedBy 5 = .ok (.aload_n 0, 1) := by decide +kernel
theorem dX1_freedBy_6 : decode cX1_freedBy 6 = .ok (.getfield 54, 3) := by decide +kernel
theorem dX1_freedBy_9 : decode cX1_freedBy 9 = .ok (.if_icmp .ge 38, 3) := by decide +kernel
theorem dX1_freedBy_12 : decode cX1_freedBy 12 = .ok (.iload_n 1, 1) := by decide +kernel
theorem dX1_freedBy_13 : decode cX1_freedBy 13 = .ok (.iload_n 3, 1) := by decide +kernel
theorem dX1_freedBy_14 : decode cX1_freedBy 14 = .ok (.invokestatic 58, 3) := by decide +kernel
theorem dX1_freedBy_17 : decode cX1_freedBy 17 = .ok (.ifCond .eq 24, 3) := by decide +kernel
theorem dX1_freedBy_20 : decode cX1_freedBy 20 = .ok (.aload_n 0, 1) := by decide +kernel
theorem dX1_freedBy_21 : decode cX1_freedBy 21 = .ok (.getfield 9, 3) := by decide +kernel
theorem dX1_freedBy_24 : decode cX1_freedBy 24 = .ok (.iload_n 3, 1) := by decide +kernel
theorem dX1_freedBy_25 : decode cX1_freedBy 25 = .ok (.iaload, 1) := by decide +kernel
theorem dX1_freedBy_26 : decode cX1_freedBy 26 = .ok (.iconst (-1), 1) := by decide +kernel
theorem dX1_freedBy_27 : decode cX1_freedBy 27 = .ok (.if_icmp .eq 14, 3) := by decide +kernel
theorem dX1_freedBy_30 : decode cX1_freedBy 30 = .ok (.iload_n 2, 1) := by decide +kernel
theorem dX1_freedBy_31 : decode cX1_freedBy 31 = .ok (.iconst 1, 1) := by decide +kernel
theorem dX1_freedBy_32 : decode cX1_freedBy 32 = .ok (.aload_n 0, 1) := by decide +kernel
theorem dX1_freedBy_33 : decode cX1_freedBy 33 = .ok (.getfield 9, 3) := by decide +kernel
theorem dX1_freedBy_36 : decode cX1_freedBy 36 = .ok (.iload_n 3, 1) := by decide +kernel
theorem dX1_freedBy_37 : decode cX1_freedBy 37 = .ok (.iaload, 1) := by decide +kernel
theorem dX1_freedBy_38 : decode cX1_freedBy 38 = .ok (.ishl, 1) := by decide +kernel
theorem dX1_freedBy_39 : decode cX1_freedBy 39 = .ok (.ior, 1) := by decide +kernel
theorem dX1_freedBy_40 : decode cX1_freedBy 40 = .ok (.istore_n 2, 1) := by decide +kernel
theorem dX1_freedBy_41 : decode cX1_freedBy 41 = .ok (.iinc 3 1, 3) := by decide +kernel
theorem dX1_freedBy_44 : decode cX1_freedBy 44 = .ok (.goto (-40), 3) := by decide +kernel
theorem dX1_freedBy_47 : decode cX1_freedBy 47 = .ok (.iload_n 2, 1) := by decide +kernel
theorem dX1_freedBy_48 : decode cX1_freedBy 48 = .ok (.ireturn, 1) := by decide +kernel
theorem dX1_restWorth_0 : decode cX1_restWorth 0 = .ok (.aload_n 0, 1) := by decide +kernel
theorem dX1_restWorth_1 : decode cX1_restWorth 1 = .ok (.iload_n 1, 1) := by decide +kernel
theorem dX1_restWorth_2 : decode cX1_restWorth 2 = .ok (.invokevirtual 62, 3) := by decide +kernel
theorem dX1_restWorth_5 : decode cX1_restWorth 5 = .ok (.istore_n 2, 1) := by decide +kernel
theorem dX1_restWorth_6 : decode cX1_restWorth 6 = .ok (.iload_n 2, 1) := by decide +kernel
theorem dX1_restWorth_7 : decode cX1_restWorth 7 = .ok (.aload_n 0, 1) := by decide +kernel
theorem dX1_restWorth_8 : decode cX1_restWorth 8 = .ok (.getfield 66, 3) := by decide +kernel
theorem dX1_restWorth_11 : decode cX1_restWorth 11 = .ok (.if_icmp .ge 12, 3) := by decide +kernel
theorem dX1_restWorth_14 : decode cX1_restWorth 14 = .ok (.aload_n 0, 1) := by decide +kernel
theorem dX1_restWorth_15 : decode cX1_restWorth 15 = .ok (.getfield 43, 3) := by decide +kernel
theorem dX1_restWorth_18 : decode cX1_restWorth 18 = .ok (.iload_n 2, 1) := by decide +kernel
theorem dX1_restWorth_19 : decode cX1_restWorth 19 = .ok (.laload, 1) := by decide +kernel
theorem dX1_restWorth_20 : decode cX1_restWorth 20 = .ok (.goto 4, 3) := by decide +kernel
theorem dX1_restWorth_23 : decode cX1_restWorth 23 = .ok (.lconst 0, 1) := by decide +kernel
theorem dX1_restWorth_24 : decode cX1_restWorth 24 = .ok (.lreturn, 1) := by decide +kernel
theorem dX2_mostFrom_0 : decode cX2_mostFrom 0 = .ok (.lload 4, 2) := by decide +kernel
theorem dX2_mostFrom_2 : decode cX2_mostFrom 2 = .ok (.lstore 6, 2) := by decide +kernel
theorem dX2_mostFrom_4 : decode cX2_mostFrom 4 = .ok (.iconst 0, 1) := by decide +kernel
theorem dX2_mostFrom_5 : decode cX2_mostFrom 5 = .ok (.istore 8, 2) := by decide +kernel
theorem dX2_mostFrom_7 : decode cX2_mostFrom 7 = .ok (.iload 8, 2) := by decide +kernel
theorem dX2_mostFrom_9 : decode cX2_mostFrom 9 = .ok (.aload_n 0, 1) := by decide +kernel
theorem dX2_mostFrom_10 : decode cX2_mostFrom 10 = .ok (.getfield 21, 3) := by decide +kernel
theorem dX2_mostFrom_13 : decode cX2_mostFrom 13 = .ok (.getfield 56, 3) := by decide +kernel
theorem dX2_mostFrom_16 : decode cX2_mostFrom 16 = .ok (.if_icmp .ge 33, 3) := by decide +kernel
theorem dX2_mostFrom_19 : decode cX2_mostFrom 19 = .ok (.iload_n 3, 1) := by decide +kernel
theorem dX2_mostFrom_20 : decode cX2_mostFrom 20 = .ok (.iload 8, 2) := by decide +kernel
theorem dX2_mostFrom_22 : decode cX2_mostFrom 22 = .ok (.invokestatic 60, 3) := by decide +kernel
theorem dX2_mostFrom_25 : decode cX2_mostFrom 25 = .ok (.ifCond .eq 18, 3) := by decide +kernel
theorem dX2_mostFrom_28 : decode cX2_mostFrom 28 = .ok (.lload 6, 2) := by decide +kernel
theorem dX2_mostFrom_30 : decode cX2_mostFrom 30 = .ok (.aload_n 0, 1) := by decide +kernel
theorem dX2_mostFrom_31 : decode cX2_mostFrom 31 = .ok (.iload_n 1, 1) := by decide +kernel
theorem dX2_mostFrom_32 : decode cX2_mostFrom 32 = .ok (.iload_n 2, 1) := by decide +kernel
theorem dX2_mostFrom_33 : decode cX2_mostFrom 33 = .ok (.iload 8, 2) := by decide +kernel
theorem dX2_mostFrom_35 : decode cX2_mostFrom 35 = .ok (.invokevirtual 64, 3) := by decide +kernel
theorem dX2_mostFrom_38 : decode cX2_mostFrom 38 = .ok (.invokestatic 81, 3) := by decide +kernel
theorem dX2_mostFrom_41 : decode cX2_mostFrom 41 = .ok (.lstore 6, 2) := by decide +kernel
theorem dX2_mostFrom_43 : decode cX2_mostFrom 43 = .ok (.iinc 8 1, 3) := by decide +kernel
theorem dX2_mostFrom_46 : decode cX2_mostFrom 46 = .ok (.goto (-39), 3) := by decide +kernel
theorem dX2_mostFrom_49 : decode cX2_mostFrom 49 = .ok (.lload 6, 2) := by decide +kernel
theorem dX2_mostFrom_51 : decode cX2_mostFrom 51 = .ok (.lreturn, 1) := by decide +kernel
theorem dX2_mostBy_0 : decode cX2_mostBy 0 = .ok (.aload_n 0, 1) := by decide +kernel
theorem dX2_mostBy_1 : decode cX2_mostBy 1 = .ok (.getfield 18, 3) := by decide +kernel
theorem dX2_mostBy_4 : decode cX2_mostBy 4 = .ok (.iload_n 2, 1) := by decide +kernel
theorem dX2_mostBy_5 : decode cX2_mostBy 5 = .ok (.iconst 1, 1) := by decide +kernel
theorem dX2_mostBy_6 : decode cX2_mostBy 6 = .ok (.iload_n 3, 1) := by decide +kernel
theorem dX2_mostBy_7 : decode cX2_mostBy 7 = .ok (.ishl, 1) := by decide +kernel
theorem dX2_mostBy_8 : decode cX2_mostBy 8 = .ok (.ior, 1) := by decide +kernel
theorem dX2_mostBy_9 : decode cX2_mostBy 9 = .ok (.bipush 10, 2) := by decide +kernel
theorem dX2_mostBy_11 : decode cX2_mostBy 11 = .ok (.imul, 1) := by decide +kernel
theorem dX2_mostBy_12 : decode cX2_mostBy 12 = .ok (.iload_n 3, 1) := by decide +kernel
theorem dX2_mostBy_13 : decode cX2_mostBy 13 = .ok (.iadd, 1) := by decide +kernel
theorem dX2_mostBy_14 : decode cX2_mostBy 14 = .ok (.laload, 1) := by decide +kernel
theorem dX2_mostBy_15 : decode cX2_mostBy 15 = .ok (.aload_n 0, 1) := by decide +kernel
theorem dX2_mostBy_16 : decode cX2_mostBy 16 = .ok (.getfield 15, 3) := by decide +kernel
theorem dX2_mostBy_19 : decode cX2_mostBy 19 = .ok (.iload_n 1, 1) := by decide +kernel
theorem dX2_mostBy_20 : decode cX2_mostBy 20 = .ok (.iload_n 3, 1) := by decide +kernel
theorem dX2_mostBy_21 : decode cX2_mostBy 21 = .ok (.invokestatic 68, 3) := by decide +kernel
theorem dX2_mostBy_24 : decode cX2_mostBy 24 = .ok (.laload, 1) := by decide +kernel
theorem dX2_mostBy_25 : decode cX2_mostBy 25 = .ok (.lsub, 1) := by decide +kernel
theorem dX2_mostBy_26 : decode cX2_mostBy 26 = .ok (.lreturn, 1) := by decide +kernel
theorem dX2_bestNext_0 : decode cX2_bestNext 0 = .ok (.aload_n 0, 1) := by decide +kernel
theorem dX2_bestNext_1 : decode cX2_bestNext 1 = .ok (.getfield 21, 3) := by decide +kernel
theorem dX2_bestNext_4 : decode cX2_bestNext 4 = .ok (.iload_n 1, 1) := by decide +kernel
theorem dX2_bestNext_5 : decode cX2_bestNext 5 = .ok (.invokevirtual 45, 3) := by decide +kernel
theorem dX2_bestNext_8 : decode cX2_bestNext 8 = .ok (.istore_n 3, 1) := by decide +kernel
theorem dX2_bestNext_9 : decode cX2_bestNext 9 = .ok (.aload_n 0, 1) := by decide +kernel
theorem dX2_bestNext_10 : decode cX2_bestNext 10 = .ok (.iload_n 1, 1) := by decide +kernel
theorem dX2_bestNext_11 : decode cX2_bestNext 11 = .ok (.invokevirtual 49, 3) := by decide +kernel
theorem dX2_bestNext_14 : decode cX2_bestNext 14 = .ok (.lstore 4, 2) := by decide +kernel
theorem dX2_bestNext_16 : decode cX2_bestNext 16 = .ok (.aload_n 0, 1) := by decide +kernel
theorem dX2_bestNext_17 : decode cX2_bestNext 17 = .ok (.iload_n 2, 1) := by decide +kernel
theorem dX2_bestNext_18 : decode cX2_bestNext 18 = .ok (.iload_n 1, 1) := by decide +kernel
theorem dX2_bestNext_19 : decode cX2_bestNext 19 = .ok (.iload_n 3, 1) := by decide +kernel
theorem dX2_bestNext_20 : decode cX2_bestNext 20 = .ok (.lload 4, 2) := by decide +kernel
theorem dX2_bestNext_22 : decode cX2_bestNext 22 = .ok (.invokevirtual 52, 3) := by decide +kernel
theorem dX2_bestNext_25 : decode cX2_bestNext 25 = .ok (.lstore 6, 2) := by decide +kernel
theorem dX2_bestNext_27 : decode cX2_bestNext 27 = .ok (.lload 6, 2) := by decide +kernel
theorem dX2_bestNext_29 : decode cX2_bestNext 29 = .ok (.lload 4, 2) := by decide +kernel
theorem dX2_bestNext_31 : decode cX2_bestNext 31 = .ok (.lcmp, 1) := by decide +kernel
theorem dX2_bestNext_32 : decode cX2_bestNext 32 = .ok (.ifCond .ne 5, 3) := by decide +kernel
theorem dX2_bestNext_35 : decode cX2_bestNext 35 = .ok (.iconst (-1), 1) := by decide +kernel
theorem dX2_bestNext_36 : decode cX2_bestNext 36 = .ok (.ireturn, 1) := by decide +kernel
theorem dX2_bestNext_37 : decode cX2_bestNext 37 = .ok (.iconst 0, 1) := by decide +kernel
theorem dX2_bestNext_38 : decode cX2_bestNext 38 = .ok (.istore 8, 2) := by decide +kernel
theorem dX2_bestNext_40 : decode cX2_bestNext 40 = .ok (.iload 8, 2) := by decide +kernel
theorem dX2_bestNext_42 : decode cX2_bestNext 42 = .ok (.aload_n 0, 1) := by decide +kernel
theorem dX2_bestNext_43 : decode cX2_bestNext 43 = .ok (.getfield 21, 3) := by decide +kernel
theorem dX2_bestNext_46 : decode cX2_bestNext 46 = .ok (.getfield 56, 3) := by decide +kernel
theorem dX2_bestNext_49 : decode cX2_bestNext 49 = .ok (.if_icmp .ge 35, 3) := by decide +kernel
theorem dX2_bestNext_52 : decode cX2_bestNext 52 = .ok (.iload_n 3, 1) := by decide +kernel
theorem dX2_bestNext_53 : decode cX2_bestNext 53 = .ok (.iload 8, 2) := by decide +kernel
theorem dX2_bestNext_55 : decode cX2_bestNext 55 = .ok (.invokestatic 60, 3) := by decide +kernel
theorem dX2_bestNext_58 : decode cX2_bestNext 58 = .ok (.ifCond .eq 20, 3) := by decide +kernel
theorem dX2_bestNext_61 : decode cX2_bestNext 61 = .ok (.aload_n 0, 1) := by decide +kernel
theorem dX2_bestNext_62 : decode cX2_bestNext 62 = .ok (.iload_n 2, 1) := by decide +kernel
theorem dX2_bestNext_63 : decode cX2_bestNext 63 = .ok (.iload_n 1, 1) := by decide +kernel
theorem dX2_bestNext_64 : decode cX2_bestNext 64 = .ok (.iload 8, 2) := by decide +kernel
theorem dX2_bestNext_66 : decode cX2_bestNext 66 = .ok (.invokevirtual 64, 3) := by decide +kernel
theorem dX2_bestNext_69 : decode cX2_bestNext 69 = .ok (.lload 6, 2) := by decide +kernel
theorem dX2_bestNext_71 : decode cX2_bestNext 71 = .ok (.lcmp, 1) := by decide +kernel
theorem dX2_bestNext_72 : decode cX2_bestNext 72 = .ok (.ifCond .ne 6, 3) := by decide +kernel
theorem dX2_bestNext_75 : decode cX2_bestNext 75 = .ok (.iload 8, 2) := by decide +kernel
theorem dX2_bestNext_77 : decode cX2_bestNext 77 = .ok (.ireturn, 1) := by decide +kernel
theorem dX2_bestNext_78 : decode cX2_bestNext 78 = .ok (.iinc 8 1, 3) := by decide +kernel
theorem dX2_bestNext_81 : decode cX2_bestNext 81 = .ok (.goto (-41), 3) := by decide +kernel
theorem dX2_bestNext_84 : decode cX2_bestNext 84 = .ok (.iconst (-1), 1) := by decide +kernel
theorem dX2_bestNext_85 : decode cX2_bestNext 85 = .ok (.ireturn, 1) := by decide +kernel
theorem dX2_valueByShare_0 : decode cX2_valueByShare 0 = .ok (.aload_n 0, 1) := by decide +kernel
theorem dX2_valueByShare_1 : decode cX2_valueByShare 1 = .ok (.getfield 9, 3) := by decide +kernel
theorem dX2_valueByShare_4 : decode cX2_valueByShare 4 = .ok (.iload_n 1, 1) := by decide +kernel
theorem dX2_valueByShare_5 : decode cX2_valueByShare 5 = .ok (.aload_n 0, 1) := by decide +kernel
theorem dX2_valueByShare_6 : decode cX2_valueByShare 6 = .ok (.getfield 21, 3) := by decide +kernel
theorem dX2_valueByShare_9 : decode cX2_valueByShare 9 = .ok (.getfield 31, 3) := by decide +kernel
theorem dX2_valueByShare_12 : decode cX2_valueByShare 12 = .ok (.iload_n 1, 1) := by decide +kernel
theorem dX2_valueByShare_13 : decode cX2_valueByShare 13 = .ok (.laload, 1) := by decide +kernel
theorem dX2_valueByShare_14 : decode cX2_valueByShare 14 = .ok (.lload_n 2, 1) := by decide +kernel
theorem dX2_valueByShare_15 : decode cX2_valueByShare 15 = .ok (.lmul, 1) := by decide +kernel
theorem dX2_valueByShare_16 : decode cX2_valueByShare 16 = .ok (.lastore, 1) := by decide +kernel
theorem dX2_valueByShare_17 : decode cX2_valueByShare 17 = .ok (.return_, 1) := by decide +kernel
theorem dX3_init_0 : decode cX3_init 0 = .ok (.aload_n 0, 1) := by decide +kernel
theorem dX3_init_1 : decode cX3_init 1 = .ok (.invokespecial 3, 3) := by decide +kernel
theorem dX3_init_4 : decode cX3_init 4 = .ok (.aload_n 0, 1) := by decide +kernel
theorem dX3_init_5 : decode cX3_init 5 = .ok (.bipush 10, 2) := by decide +kernel
theorem dX3_init_7 : decode cX3_init 7 = .ok (.newarray .int, 2) := by decide +kernel
theorem dX3_init_9 : decode cX3_init 9 = .ok (.putfield 9, 3) := by decide +kernel
theorem dX3_init_12 : decode cX3_init 12 = .ok (.aload_n 0, 1) := by decide +kernel
theorem dX3_init_13 : decode cX3_init 13 = .ok (.bipush 12, 2) := by decide +kernel
theorem dX3_init_15 : decode cX3_init 15 = .ok (.newarray .long, 2) := by decide +kernel
theorem dX3_init_17 : decode cX3_init 17 = .ok (.putfield 15, 3) := by decide +kernel
theorem dX3_init_20 : decode cX3_init 20 = .ok (.return_, 1) := by decide +kernel
theorem dX4_init_0 : decode cX4_init 0 = .ok (.aload_n 0, 1) := by decide +kernel
theorem dX4_init_1 : decode cX4_init 1 = .ok (.invokespecial 3, 3) := by decide +kernel
theorem dX4_init_4 : decode cX4_init 4 = .ok (.aload_n 0, 1) := by decide +kernel
theorem dX4_init_5 : decode cX4_init 5 = .ok (.bipush 10, 2) := by decide +kernel
theorem dX4_init_7 : decode cX4_init 7 = .ok (.newarray .int, 2) := by decide +kernel
theorem dX4_init_9 : decode cX4_init 9 = .ok (.putfield 9, 3) := by decide +kernel
theorem dX4_init_12 : decode cX4_init 12 = .ok (.aload_n 0, 1) := by decide +kernel
theorem dX4_init_13 : decode cX4_init 13 = .ok (.bipush 10, 2) := by decide +kernel
theorem dX4_init_15 : decode cX4_init 15 = .ok (.newarray .int, 2) := by decide +kernel
theorem dX4_init_17 : decode cX4_init 17 = .ok (.putfield 15, 3) := by decide +kernel
theorem dX4_init_20 : decode cX4_init 20 = .ok (.aload_n 0, 1) := by decide +kernel
theorem dX4_init_21 : decode cX4_init 21 = .ok (.iconst 4, 1) := by decide +kernel
theorem dX4_init_22 : decode cX4_init 22 = .ok (.newarray .long, 2) := by decide +kernel
theorem dX4_init_24 : decode cX4_init 24 = .ok (.putfield 18, 3) := by decide +kernel
theorem dX4_init_27 : decode cX4_init 27 = .ok (.aload_n 0, 1) := by decide +kernel
theorem dX4_init_28 : decode cX4_init 28 = .ok (.aload_n 1, 1) := by decide +kernel
theorem dX4_init_29 : decode cX4_init 29 = .ok (.putfield 22, 3) := by decide +kernel
theorem dX4_init_32 : decode cX4_init 32 = .ok (.aload_n 0, 1) := by decide +kernel
theorem dX4_init_33 : decode cX4_init 33 = .ok (.getfield 9, 3) := by decide +kernel
theorem dX4_init_36 : decode cX4_init 36 = .ok (.iconst (-1), 1) := by decide +kernel
theorem dX4_init_37 : decode cX4_init 37 = .ok (.invokestatic 26, 3) := by decide +kernel
theorem dX4_init_40 : decode cX4_init 40 = .ok (.return_, 1) := by decide +kernel
theorem dX3_keepRow_0 : decode cX3_keepRow 0 = .ok (.aload_n 0, 1) := by decide +kernel
theorem dX3_keepRow_1 : decode cX3_keepRow 1 = .ok (.iconst 0, 1) := by decide +kernel
theorem dX3_keepRow_2 : decode cX3_keepRow 2 = .ok (.putfield 19, 3) := by decide +kernel
theorem dX3_keepRow_5 : decode cX3_keepRow 5 = .ok (.aload_n 0, 1) := by decide +kernel
theorem dX3_keepRow_6 : decode cX3_keepRow 6 = .ok (.iconst 0, 1) := by decide +kernel
theorem dX3_keepRow_7 : decode cX3_keepRow 7 = .ok (.putfield 23, 3) := by decide +kernel
theorem dX3_keepRow_10 : decode cX3_keepRow 10 = .ok (.aload_n 1, 1) := by decide +kernel
theorem dX3_keepRow_11 : decode cX3_keepRow 11 = .ok (.iconst 0, 1) := by decide +kernel
theorem dX3_keepRow_12 : decode cX3_keepRow 12 = .ok (.iconst (-1), 1) := by decide +kernel
theorem dX3_keepRow_13 : decode cX3_keepRow 13 = .ok (.invokevirtual 26, 3) := by decide +kernel
theorem dX3_keepRow_16 : decode cX3_keepRow 16 = .ok (.istore_n 2, 1) := by decide +kernel
theorem dX3_keepRow_17 : decode cX3_keepRow 17 = .ok (.iload_n 2, 1) := by decide +kernel
theorem dX3_keepRow_18 : decode cX3_keepRow 18 = .ok (.iconst (-1), 1) := by decide +kernel
theorem dX3_keepRow_19 : decode cX3_keepRow 19 = .ok (.if_icmp .eq 57, 3) := by decide +kernel
theorem dX3_keepRow_22 : decode cX3_keepRow 22 = .ok (.aload_n 0, 1) := by decide +kernel
theorem dX3_keepRow_23 : decode cX3_keepRow 23 = .ok (.getfield 19, 3) := by decide +kernel
theorem dX3_keepRow_26 : decode cX3_keepRow 26 = .ok (.bipush 10, 2) := by decide +kernel
theorem dX3_keepRow_28 : decode cX3_keepRow 28 = .ok (.if_icmp .ge 48, 3) := by decide +kernel
theorem dX3_keepRow_31 : decode cX3_keepRow 31 = .ok (.aload_n 0, 1) := by decide +kernel
theorem dX3_keepRow_32 : decode cX3_keepRow 32 = .ok (.getfield 9, 3) := by decide +kernel
theorem dX3_keepRow_35 : decode cX3_keepRow 35 = .ok (.aload_n 0, 1) := by decide +kernel
theorem dX3_keepRow_36 : decode cX3_keepRow 36 = .ok (.getfield 19, 3) := by decide +kernel
theorem dX3_keepRow_39 : decode cX3_keepRow 39 = .ok (.iload_n 2, 1) := by decide +kernel
theorem dX3_keepRow_40 : decode cX3_keepRow 40 = .ok (.iastore, 1) := by decide +kernel
theorem dX3_keepRow_41 : decode cX3_keepRow 41 = .ok (.aload_n 0, 1) := by decide +kernel
theorem dX3_keepRow_42 : decode cX3_keepRow 42 = .ok (.dup, 1) := by decide +kernel
theorem dX3_keepRow_43 : decode cX3_keepRow 43 = .ok (.getfield 19, 3) := by decide +kernel
theorem dX3_keepRow_46 : decode cX3_keepRow 46 = .ok (.iconst 1, 1) := by decide +kernel
theorem dX3_keepRow_47 : decode cX3_keepRow 47 = .ok (.iadd, 1) := by decide +kernel
theorem dX3_keepRow_48 : decode cX3_keepRow 48 = .ok (.putfield 19, 3) := by decide +kernel
theorem dX3_keepRow_51 : decode cX3_keepRow 51 = .ok (.aload_n 0, 1) := by decide +kernel
theorem dX3_keepRow_52 : decode cX3_keepRow 52 = .ok (.dup, 1) := by decide +kernel
theorem dX3_keepRow_53 : decode cX3_keepRow 53 = .ok (.getfield 23, 3) := by decide +kernel
theorem dX3_keepRow_56 : decode cX3_keepRow 56 = .ok (.iconst 1, 1) := by decide +kernel
theorem dX3_keepRow_57 : decode cX3_keepRow 57 = .ok (.iload_n 2, 1) := by decide +kernel
theorem dX3_keepRow_58 : decode cX3_keepRow 58 = .ok (.ishl, 1) := by decide +kernel
theorem dX3_keepRow_59 : decode cX3_keepRow 59 = .ok (.ior, 1) := by decide +kernel
theorem dX3_keepRow_60 : decode cX3_keepRow 60 = .ok (.putfield 23, 3) := by decide +kernel
theorem dX3_keepRow_63 : decode cX3_keepRow 63 = .ok (.aload_n 1, 1) := by decide +kernel
theorem dX3_keepRow_64 : decode cX3_keepRow 64 = .ok (.aload_n 0, 1) := by decide +kernel
theorem dX3_keepRow_65 : decode cX3_keepRow 65 = .ok (.getfield 23, 3) := by decide +kernel
theorem dX3_keepRow_68 : decode cX3_keepRow 68 = .ok (.iload_n 2, 1) := by decide +kernel
theorem dX3_keepRow_69 : decode cX3_keepRow 69 = .ok (.invokevirtual 26, 3) := by decide +kernel
theorem dX3_keepRow_72 : decode cX3_keepRow 72 = .ok (.istore_n 2, 1) := by decide +kernel
theorem dX3_keepRow_73 : decode cX3_keepRow 73 = .ok (.goto (-56), 3) := by decide +kernel
theorem dX3_keepRow_76 : decode cX3_keepRow 76 = .ok (.aload_n 0, 1) := by decide +kernel
theorem dX3_keepRow_77 : decode cX3_keepRow 77 = .ok (.aload_n 1, 1) := by decide +kernel
theorem dX3_keepRow_78 : decode cX3_keepRow 78 = .ok (.invokevirtual 32, 3) := by decide +kernel
theorem dX3_keepRow_81 : decode cX3_keepRow 81 = .ok (.aload_n 0, 1) := by decide +kernel
theorem dX3_keepRow_82 : decode cX3_keepRow 82 = .ok (.iconst 1, 1) := by decide +kernel
theorem dX3_keepRow_83 : decode cX3_keepRow 83 = .ok (.putfield 36, 3) := by decide +kernel
theorem dX3_keepRow_86 : decode cX3_keepRow 86 = .ok (.aload_n 0, 1) := by decide +kernel
theorem dX3_keepRow_87 : decode cX3_keepRow 87 = .ok (.iconst 1, 1) := by decide +kernel
theorem dX3_keepRow_88 : decode cX3_keepRow 88 = .ok (.putfield 40, 3) := by decide +kernel
theorem dX3_keepRow_91 : decode cX3_keepRow 91 = .ok (.return_, 1) := by decide +kernel
theorem dX3_keepParts_0 : decode cX3_keepParts 0 = .ok (.aload_n 0, 1) := by decide +kernel
theorem dX3_keepParts_1 : decode cX3_keepParts 1 = .ok (.aload_n 1, 1) := by decide +kernel
theorem dX3_keepParts_2 : decode cX3_keepParts 2 = .ok (.getfield 43, 3) := by decide +kernel
theorem dX3_keepParts_5 : decode cX3_keepParts 5 = .ok (.aload_n 0, 1) := by decide +kernel
theorem dX3_keepParts_6 : decode cX3_keepParts 6 = .ok (.getfield 23, 3) := by decide +kernel
theorem dX3_keepParts_9 : decode cX3_keepParts 9 = .ok (.invokevirtual 47, 3) := by decide +kernel
theorem dX3_keepParts_12 : decode cX3_keepParts 12 = .ok (.putfield 53, 3) := by decide +kernel
theorem dX3_keepParts_15 : decode cX3_keepParts 15 = .ok (.aload_n 1, 1) := by decide +kernel
theorem dX3_keepParts_16 : decode cX3_keepParts 16 = .ok (.getfield 43, 3) := by decide +kernel
theorem dX3_keepParts_19 : decode cX3_keepParts 19 = .ok (.aload_n 0, 1) := by decide +kernel
theorem dX3_keepParts_20 : decode cX3_keepParts 20 = .ok (.getfield 23, 3) := by decide +kernel
theorem dX3_keepParts_23 : decode cX3_keepParts 23 = .ok (.invokevirtual 56, 3) := by decide +kernel
theorem dX3_keepParts_26 : decode cX3_keepParts 26 = .ok (.istore_n 2, 1) := by decide +kernel
theorem dX3_keepParts_27 : decode cX3_keepParts 27 = .ok (.iconst 0, 1) := by decide +kernel
theorem dX3_keepParts_28 : decode cX3_keepParts 28 = .ok (.istore_n 3, 1) := by decide +kernel
theorem dX3_keepParts_29 : decode cX3_keepParts 29 = .ok (.iload_n 3, 1) := by decide +kernel
theorem dX3_keepParts_30 : decode cX3_keepParts 30 = .ok (.bipush 12, 2) := by decide +kernel
theorem dX3_keepParts_32 : decode cX3_keepParts 32 = .ok (.if_icmp .ge 33, 3) := by decide +kernel
theorem dX3_keepParts_35 : decode cX3_keepParts 35 = .ok (.aload_n 0, 1) := by decide +kernel
theorem dX3_keepParts_36 : decode cX3_keepParts 36 = .ok (.getfield 15, 3) := by decide +kernel
theorem dX3_keepParts_39 : decode cX3_keepParts 39 = .ok (.iload_n 3, 1) := by decide +kernel
theorem dX3_keepParts_40 : decode cX3_keepParts 40 = .ok (.iload_n 2, 1) := by decide +kernel
theorem dX3_keepParts_41 : decode cX3_keepParts 41 = .ok (.iload_n 3, 1) := by decide +kernel
theorem dX3_keepParts_42 : decode cX3_keepParts 42 = .ok (.invokestatic 59, 3) := by decide +kernel
theorem dX3_keepParts_45 : decode cX3_keepParts 45 = .ok (.ifCond .eq 12, 3) := by decide +kernel
theorem dX3_keepParts_48 : decode cX3_keepParts 48 = .ok (.aload_n 1, 1) := by decide +kernel
theorem dX3_keepParts_49 : decode cX3_keepParts 49 = .ok (.getfield 63, 3) := by decide +kernel
theorem dX3_keepParts_52 : decode cX3_keepParts 52 = .ok (.iload_n 3, 1) := by decide +kernel
theorem dX3_keepParts_53 : decode cX3_keepParts 53 = .ok (.laload, 1) := by decide +kernel
theorem dX3_keepParts_54 : decode cX3_keepParts 54 = .ok (.goto 4, 3) := by decide +kernel
theorem dX3_keepParts_57 : decode cX3_keepParts 57 = .ok (.lconst 0, 1) := by decide +kernel
theorem dX3_keepParts_58 : decode cX3_keepParts 58 = .ok (.lastore, 1) := by decide +kernel
theorem dX3_keepParts_59 : decode cX3_keepParts 59 = .ok (.iinc 3 1, 3) := by decide +kernel
theorem dX3_keepParts_62 : decode cX3_keepParts 62 = .ok (.goto (-33), 3) := by decide +kernel
theorem dX3_keepParts_65 : decode cX3_keepParts 65 = .ok (.return_, 1) := by decide +kernel
theorem dX4_shareOut_0 : decode cX4_shareOut 0 = .ok (.aload_n 0, 1) := by decide +kernel
theorem dX4_shareOut_1 : decode cX4_shareOut 1 = .ok (.iload_n 1, 1) := by decide +kernel
theorem dX4_shareOut_2 : decode cX4_shareOut 2 = .ok (.putfield 32, 3) := by decide +kernel
theorem dX4_shareOut_5 : decode cX4_shareOut 5 = .ok (.aload_n 0, 1) := by decide +kernel
theorem dX4_shareOut_6 : decode cX4_shareOut 6 = .ok (.iload_n 2, 1) := by decide +kernel
theorem dX4_shareOut_7 : decode cX4_shareOut 7 = .ok (.putfield 36, 3) := by decide +kernel
theorem dX4_shareOut_10 : decode cX4_shareOut 10 = .ok (.aload_n 0, 1) := by decide +kernel
theorem dX4_shareOut_11 : decode cX4_shareOut 11 = .ok (.invokevirtual 39, 3) := by decide +kernel
theorem dX4_shareOut_14 : decode cX4_shareOut 14 = .ok (.aload_n 0, 1) := by decide +kernel
theorem dX4_shareOut_15 : decode cX4_shareOut 15 = .ok (.getfield 18, 3) := by decide +kernel
theorem dX4_shareOut_18 : decode cX4_shareOut 18 = .ok (.lconst 0, 1) := by decide +kernel
theorem dX4_shareOut_19 : decode cX4_shareOut 19 = .ok (.invokestatic 42, 3) := by decide +kernel
theorem dX4_shareOut_22 : decode cX4_shareOut 22 = .ok (.aload_n 0, 1) := by decide +kernel
theorem dX4_shareOut_23 : decode cX4_shareOut 23 = .ok (.iconst 0, 1) := by decide +kernel
theorem dX4_shareOut_24 : decode cX4_shareOut 24 = .ok (.lconst 0, 1) := by decide +kernel
theorem dX4_shareOut_25 : decode cX4_shareOut 25 = .ok (.invokestatic 45, 3) := by decide +kernel
theorem dX4_shareOut_28 : decode cX4_shareOut 28 = .ok (.aload_n 0, 1) := by decide +kernel
theorem dX4_shareOut_29 : decode cX4_shareOut 29 = .ok (.getfield 49, 3) := by decide +kernel
theorem dX4_shareOut_32 : decode cX4_shareOut 32 = .ok (.lreturn, 1) := by decide +kernel
theorem dX4_setLimits_0 : decode cX4_setLimits 0 = .ok (.lconst 0, 1) := by decide +kernel
theorem dX4_setLimits_1 : decode cX4_setLimits 1 = .ok (.lstore_n 1, 1) := by decide +kernel
theorem dX4_setLimits_2 : decode cX4_setLimits 2 = .ok (.lconst 0, 1) := by decide +kernel
theorem dX4_setLimits_3 : decode cX4_setLimits 3 = .ok (.lstore_n 3, 1) := by decide +kernel
theorem dX4_setLimits_4 : decode cX4_setLimits 4 = .ok (.iconst 0, 1) := by decide +kernel
theorem dX4_setLimits_5 : decode cX4_setLimits 5 = .ok (.istore 5, 2) := by decide +kernel
theorem dX4_setLimits_7 : decode cX4_setLimits 7 = .ok (.iload 5, 2) := by decide +kernel
theorem dX4_setLimits_9 : decode cX4_setLimits 9 = .ok (.aload_n 0, 1) := by decide +kernel
theorem dX4_setLimits_10 : decode cX4_setLimits 10 = .ok (.getfield 22, 3) := by decide +kernel
theorem dX4_setLimits_13 : decode cX4_setLimits 13 = .ok (.getfield 53, 3) := by decide +kernel
theorem dX4_setLimits_16 : decode cX4_setLimits 16 = .ok (.if_icmp .ge 49, 3) := by decide +kernel
theorem dX4_setLimits_19 : decode cX4_setLimits 19 = .ok (.aload_n 0, 1) := by decide +kernel
theorem dX4_setLimits_20 : decode cX4_setLimits 20 = .ok (.getfield 32, 3) := by decide +kernel
theorem dX4_setLimits_23 : decode cX4_setLimits 23 = .ok (.iload 5, 2) := by decide +kernel
theorem dX4_setLimits_25 : decode cX4_setLimits 25 = .ok (.invokestatic 58, 3) := by decide +kernel
theorem dX4_setLimits_28 : decode cX4_setLimits 28 = .ok (.ifCond .eq 31, 3) := by decide +kernel
theorem dX4_setLimits_31 : decode cX4_setLimits 31 = .ok (.lload_n 1, 1) := by decide +kernel
theorem dX4_setLimits_32 : decode cX4_setLimits 32 = .ok (.aload_n 0, 1) := by decide +kernel
theorem dX4_setLimits_33 : decode cX4_setLimits 33 = .ok (.getfield 22, 3) := by decide +kernel
theorem dX4_setLimits_36 : decode cX4_setLimits 36 = .ok (.getfield 62, 3) := by decide +kernel
theorem dX4_setLimits_39 : decode cX4_setLimits 39 = .ok (.iload 5, 2) := by decide +kernel
theorem dX4_setLimits_41 : decode cX4_setLimits 41 = .ok (.laload, 1) := by decide +kernel
theorem dX4_setLimits_42 : decode cX4_setLimits 42 = .ok (.ladd, 1) := by decide +kernel
theorem dX4_setLimits_43 : decode cX4_setLimits 43 = .ok (.lstore_n 1, 1) := by decide +kernel
theorem dX4_setLimits_44 : decode cX4_setLimits 44 = .ok (.lload_n 3, 1) := by decide +kernel
theorem dX4_setLimits_45 : decode cX4_setLimits 45 = .ok (.aload_n 0, 1) := by decide +kernel
theorem dX4_setLimits_46 : decode cX4_setLimits 46 = .ok (.getfield 22, 3) := by decide +kernel
theorem dX4_setLimits_49 : decode cX4_setLimits 49 = .ok (.getfield 62, 3) := by decide +kernel
theorem dX4_setLimits_52 : decode cX4_setLimits 52 = .ok (.iload 5, 2) := by decide +kernel
theorem dX4_setLimits_54 : decode cX4_setLimits 54 = .ok (.laload, 1) := by decide +kernel
theorem dX4_setLimits_55 : decode cX4_setLimits 55 = .ok (.invokestatic 65, 3) := by decide +kernel
theorem dX4_setLimits_58 : decode cX4_setLimits 58 = .ok (.lstore_n 3, 1) := by decide +kernel
theorem dX4_setLimits_59 : decode cX4_setLimits 59 = .ok (.iinc 5 1, 3) := by decide +kernel
theorem dX4_setLimits_62 : decode cX4_setLimits 62 = .ok (.goto (-55), 3) := by decide +kernel
theorem dX4_setLimits_65 : decode cX4_setLimits 65 = .ok (.aload_n 0, 1) := by decide +kernel
theorem dX4_setLimits_66 : decode cX4_setLimits 66 = .ok (.lload_n 1, 1) := by decide +kernel
theorem dX4_setLimits_67 : decode cX4_setLimits 67 = .ok (.lconst 1, 1) := by decide +kernel
theorem dX4_setLimits_68 : decode cX4_setLimits 68 = .ok (.ladd, 1) := by decide +kernel
theorem dX4_setLimits_69 : decode cX4_setLimits 69 = .ok (.putfield 49, 3) := by decide +kernel
theorem dX4_setLimits_72 : decode cX4_setLimits 72 = .ok (.aload_n 0, 1) := by decide +kernel
theorem dX4_setLimits_73 : decode cX4_setLimits 73 = .ok (.aload_n 0, 1) := by decide +kernel
theorem dX4_setLimits_74 : decode cX4_setLimits 74 = .ok (.getfield 36, 3) := by decide +kernel
theorem dX4_setLimits_77 : decode cX4_setLimits 77 = .ok (.ifCond .le 25, 3) := by decide +kernel
theorem dX4_setLimits_80 : decode cX4_setLimits 80 = .ok (.lload_n 3, 1) := by decide +kernel
theorem dX4_setLimits_81 : decode cX4_setLimits 81 = .ok (.lload_n 1, 1) := by decide +kernel
theorem dX4_setLimits_82 : decode cX4_setLimits 82 = .ok (.aload_n 0, 1) := by decide +kernel
theorem dX4_setLimits_83 : decode cX4_setLimits 83 = .ok (.getfield 36, 3) := by decide +kernel
theorem dX4_setLimits_86 : decode cX4_setLimits 86 = .ok (.i2l, 1) := by decide +kernel
theorem dX4_setLimits_87 : decode cX4_setLimits 87 = .ok (.ladd, 1) := by decide +kernel
theorem dX4_setLimits_88 : decode cX4_setLimits 88 = .ok (.lconst 1, 1) := by decide +kernel
theorem dX4_setLimits_89 : decode cX4_setLimits 89 = .ok (.lsub, 1) := by decide +kernel
theorem dX4_setLimits_90 : decode cX4_setLimits 90 = .ok (.aload_n 0, 1) := by decide +kernel
theorem dX4_setLimits_91 : decode cX4_setLimits 91 = .ok (.getfield 36, 3) := by decide +kernel
theorem dX4_setLimits_94 : decode cX4_setLimits 94 = .ok (.i2l, 1) := by decide +kernel
theorem dX4_setLimits_95 : decode cX4_setLimits 95 = .ok (.ldiv, 1) := by decide +kernel
theorem dX4_setLimits_96 : decode cX4_setLimits 96 = .ok (.invokestatic 65, 3) := by decide +kernel
theorem dX4_setLimits_99 : decode cX4_setLimits 99 = .ok (.goto 4, 3) := by decide +kernel
theorem dX4_setLimits_102 : decode cX4_setLimits 102 = .ok (.lload_n 1, 1) := by decide +kernel
theorem dX4_setLimits_103 : decode cX4_setLimits 103 = .ok (.putfield 71, 3) := by decide +kernel
theorem dX4_setLimits_106 : decode cX4_setLimits 106 = .ok (.return_, 1) := by decide +kernel
theorem dX4_tryFrom_0 : decode cX4_tryFrom 0 = .ok (.iload_n 1, 1) := by decide +kernel
theorem dX4_tryFrom_1 : decode cX4_tryFrom 1 = .ok (.aload_n 0, 1) := by decide +kernel
theorem dX4_tryFrom_2 : decode cX4_tryFrom 2 = .ok (.getfield 22, 3) := by decide +kernel
theorem dX4_tryFrom_5 : decode cX4_tryFrom 5 = .ok (.getfield 53, 3) := by decide +kernel
theorem dX4_tryFrom_8 : decode cX4_tryFrom 8 = .ok (.if_icmp .lt 9, 3) := by decide +kernel
theorem dX4_tryFrom_11 : decode cX4_tryFrom 11 = .ok (.aload_n 0, 1) := by decide +kernel
theorem dX4_tryFrom_12 : decode cX4_tryFrom 12 = .ok (.lload_n 2, 1) := by decide +kernel
theorem dX4_tryFrom_13 : decode cX4_tryFrom 13 = .ok (.invokevirtual 74, 3) := by decide +kernel
theorem dX4_tryFrom_16 : decode cX4_tryFrom 16 = .ok (.return_, 1) := by decide +kernel
theorem dX4_tryFrom_17 : decode cX4_tryFrom 17 = .ok (.aload_n 0, 1) := by decide +kernel
theorem dX4_tryFrom_18 : decode cX4_tryFrom 18 = .ok (.getfield 32, 3) := by decide +kernel
theorem dX4_tryFrom_21 : decode cX4_tryFrom 21 = .ok (.iload_n 1, 1) := by decide +kernel
theorem dX4_tryFrom_22 : decode cX4_tryFrom 22 = .ok (.invokestatic 58, 3) := by decide +kernel
theorem dX4_tryFrom_25 : decode cX4_tryFrom 25 = .ok (.ifCond .ne 12, 3) := by decide +kernel
theorem dX4_tryFrom_28 : decode cX4_tryFrom 28 = .ok (.aload_n 0, 1) := by decide +kernel
theorem dX4_tryFrom_29 : decode cX4_tryFrom 29 = .ok (.iload_n 1, 1) := by decide +kernel
theorem dX4_tryFrom_30 : decode cX4_tryFrom 30 = .ok (.iconst 1, 1) := by decide +kernel
theorem dX4_tryFrom_31 : decode cX4_tryFrom 31 = .ok (.iadd, 1) := by decide +kernel
theorem dX4_tryFrom_32 : decode cX4_tryFrom 32 = .ok (.lload_n 2, 1) := by decide +kernel
theorem dX4_tryFrom_33 : decode cX4_tryFrom 33 = .ok (.invokestatic 45, 3) := by decide +kernel
theorem dX4_tryFrom_36 : decode cX4_tryFrom 36 = .ok (.return_, 1) := by decide +kernel
theorem dX4_tryFrom_37 : decode cX4_tryFrom 37 = .ok (.aload_n 0, 1) := by decide +kernel
theorem dX4_tryFrom_38 : decode cX4_tryFrom 38 = .ok (.getfield 22, 3) := by decide +kernel
theorem dX4_tryFrom_41 : decode cX4_tryFrom 41 = .ok (.getfield 62, 3) := by decide +kernel
theorem dX4_tryFrom_44 : decode cX4_tryFrom 44 = .ok (.iload_n 1, 1) := by decide +kernel
theorem dX4_tryFrom_45 : decode cX4_tryFrom 45 = .ok (.laload, 1) := by decide +kernel
theorem dX4_tryFrom_46 : decode cX4_tryFrom 46 = .ok (.lstore 4, 2) := by decide +kernel
theorem dX4_tryFrom_48 : decode cX4_tryFrom 48 = .ok (.aload_n 0, 1) := by decide +kernel
theorem dX4_tryFrom_49 : decode cX4_tryFrom 49 = .ok (.iload_n 1, 1) := by decide +kernel
theorem dX4_tryFrom_50 : decode cX4_tryFrom 50 = .ok (.invokevirtual 78, 3) := by decide +kernel
theorem dX4_tryFrom_53 : decode cX4_tryFrom 53 = .ok (.istore 6, 2) := by decide +kernel
theorem dX4_tryFrom_55 : decode cX4_tryFrom 55 = .ok (.aload_n 0, 1) := by decide +kernel
theorem dX4_tryFrom_56 : decode cX4_tryFrom 56 = .ok (.iload_n 1, 1) := by decide +kernel
theorem dX4_tryFrom_57 : decode cX4_tryFrom 57 = .ok (.invokevirtual 82, 3) := by decide +kernel
theorem dX4_tryFrom_60 : decode cX4_tryFrom 60 = .ok (.istore 7, 2) := by decide +kernel
theorem dX4_tryFrom_62 : decode cX4_tryFrom 62 = .ok (.iload 7, 2) := by decide +kernel
theorem dX4_tryFrom_64 : decode cX4_tryFrom 64 = .ok (.iload 6, 2) := by decide +kernel
theorem dX4_tryFrom_66 : decode cX4_tryFrom 66 = .ok (.if_icmp .gt 88, 3) := by decide +kernel
theorem dX4_tryFrom_69 : decode cX4_tryFrom 69 = .ok (.aload_n 0, 1) := by decide +kernel
theorem dX4_tryFrom_70 : decode cX4_tryFrom 70 = .ok (.getfield 49, 3) := by decide +kernel
theorem dX4_tryFrom_73 : decode cX4_tryFrom 73 = .ok (.aload_n 0, 1) := by decide +kernel
theorem dX4_tryFrom_74 : decode cX4_tryFrom 74 = .ok (.getfield 71, 3) := by decide +kernel
theorem dX4_tryFrom_77 : decode cX4_tryFrom 77 = .ok (.lcmp, 1) := by decide +kernel
theorem dX4_tryFrom_78 : decode cX4_tryFrom 78 = .ok (.ifCond .le 76, 3) := by decide +kernel
theorem dX4_tryFrom_81 : decode cX4_tryFrom 81 = .ok (.lload_n 2, 1) := by decide +kernel
theorem dX4_tryFrom_82 : decode cX4_tryFrom 82 = .ok (.aload_n 0, 1) := by decide +kernel
theorem dX4_tryFrom_83 : decode cX4_tryFrom 83 = .ok (.getfield 18, 3) := by decide +kernel
theorem dX4_tryFrom_86 : decode cX4_tryFrom 86 = .ok (.iload 7, 2) := by decide +kernel
theorem dX4_tryFrom_88 : decode cX4_tryFrom 88 = .ok (.laload, 1) := by decide +kernel
theorem dX4_tryFrom_89 : decode cX4_tryFrom 89 = .ok (.lload 4, 2) := by decide +kernel
theorem dX4_tryFrom_91 : decode cX4_tryFrom 91 = .ok (.ladd, 1) := by decide +kernel
theorem dX4_tryFrom_92 : decode cX4_tryFrom 92 = .ok (.invokestatic 65, 3) := by decide +kernel
theorem dX4_tryFrom_95 : decode cX4_tryFrom 95 = .ok (.lstore 8, 2) := by decide +kernel
theorem dX4_tryFrom_97 : decode cX4_tryFrom 97 = .ok (.lload 8, 2) := by decide +kernel
theorem dX4_tryFrom_99 : decode cX4_tryFrom 99 = .ok (.aload_n 0, 1) := by decide +kernel
theorem dX4_tryFrom_100 : decode cX4_tryFrom 100 = .ok (.getfield 49, 3) := by decide +kernel
theorem dX4_tryFrom_103 : decode cX4_tryFrom 103 = .ok (.lcmp, 1) := by decide +kernel
theorem dX4_tryFrom_104 : decode cX4_tryFrom 104 = .ok (.ifCond .ge 44, 3) := by decide +kernel
theorem dX4_tryFrom_107 : decode cX4_tryFrom 107 = .ok (.aload_n 0, 1) := by decide +kernel
theorem dX4_tryFrom_108 : decode cX4_tryFrom 108 = .ok (.getfield 15, 3) := by decide +kernel
theorem dX4_tryFrom_111 : decode cX4_tryFrom 111 = .ok (.iload_n 1, 1) := by decide +kernel
theorem dX4_tryFrom_112 : decode cX4_tryFrom 112 = .ok (.iload 7, 2) := by decide +kernel
theorem dX4_tryFrom_114 : decode cX4_tryFrom 114 = .ok (.iastore, 1) := by decide +kernel
theorem dX4_tryFrom_115 : decode cX4_tryFrom 115 = .ok (.aload_n 0, 1) := by decide +kernel
theorem dX4_tryFrom_116 : decode cX4_tryFrom 116 = .ok (.getfield 18, 3) := by decide +kernel
theorem dX4_tryFrom_119 : decode cX4_tryFrom 119 = .ok (.iload 7, 2) := by decide +kernel
theorem dX4_tryFrom_121 : decode cX4_tryFrom 121 = .ok (.dup2, 1) := by decide +kernel
theorem dX4_tryFrom_122 : decode cX4_tryFrom 122 = .ok (.laload, 1) := by decide +kernel
theorem dX4_tryFrom_123 : decode cX4_tryFrom 123 = .ok (.lload 4, 2) := by decide +kernel
theorem dX4_tryFrom_125 : decode cX4_tryFrom 125 = .ok (.ladd, 1) := by decide +kernel
theorem dX4_tryFrom_126 : decode cX4_tryFrom 126 = .ok (.lastore, 1) := by decide +kernel
theorem dX4_tryFrom_127 : decode cX4_tryFrom 127 = .ok (.aload_n 0, 1) := by decide +kernel
theorem dX4_tryFrom_128 : decode cX4_tryFrom 128 = .ok (.iload_n 1, 1) := by decide +kernel
theorem dX4_tryFrom_129 : decode cX4_tryFrom 129 = .ok (.iconst 1, 1) := by decide +kernel
theorem dX4_tryFrom_130 : decode cX4_tryFrom 130 = .ok (.iadd, 1) := by decide +kernel
theorem dX4_tryFrom_131 : decode cX4_tryFrom 131 = .ok (.lload 8, 2) := by decide +kernel
theorem dX4_tryFrom_133 : decode cX4_tryFrom 133 = .ok (.invokestatic 45, 3) := by decide +kernel
theorem dX4_tryFrom_136 : decode cX4_tryFrom 136 = .ok (.aload_n 0, 1) := by decide +kernel
theorem dX4_tryFrom_137 : decode cX4_tryFrom 137 = .ok (.getfield 18, 3) := by decide +kernel
theorem dX4_tryFrom_140 : decode cX4_tryFrom 140 = .ok (.iload 7, 2) := by decide +kernel
theorem dX4_tryFrom_142 : decode cX4_tryFrom 142 = .ok (.dup2, 1) := by decide +kernel
theorem dX4_tryFrom_143 : decode cX4_tryFrom 143 = .ok (.laload, 1) := by decide +kernel
theorem dX4_tryFrom_144 : decode cX4_tryFrom 144 = .ok (.lload 4, 2) := by decide +kernel
theorem dX4_tryFrom_146 : decode cX4_tryFrom 146 = .ok (.lsub, 1) := by decide +kernel
theorem dX4_tryFrom_147 : decode cX4_tryFrom 147 = .ok (.lastore, 1) := by decide +kernel
theorem dX4_tryFrom_148 : decode cX4_tryFrom 148 = .ok (.iinc 7 1, 3) := by decide +kernel
theorem dX4_tryFrom_151 : decode cX4_tryFrom 151 = .ok (.goto (-89), 3) := by decide +kernel
theorem dX4_tryFrom_154 : decode cX4_tryFrom 154 = .ok (.return_, 1) := by decide +kernel
theorem dX4_keepTrial_0 : decode cX4_keepTrial 0 = .ok (.aload_n 0, 1) := by decide +kernel
theorem dX4_keepTrial_1 : decode cX4_keepTrial 1 = .ok (.lload_n 1, 1) := by decide +kernel
theorem dX4_keepTrial_2 : decode cX4_keepTrial 2 = .ok (.putfield 49, 3) := by decide +kernel
theorem dX4_keepTrial_5 : decode cX4_keepTrial 5 = .ok (.iconst 0, 1) := by decide +kernel
theorem dX4_keepTrial_6 : decode cX4_keepTrial 6 = .ok (.istore_n 3, 1) := by decide +kernel
theorem dX4_keepTrial_7 : decode cX4_keepTrial 7 = .ok (.iload_n 3, 1) := by decide +kernel
theorem dX4_keepTrial_8 : decode cX4_keepTrial 8 = .ok (.aload_n 0, 1) := by decide +kernel
theorem dX4_keepTrial_9 : decode cX4_keepTrial 9 = .ok (.getfield 22, 3) := by decide +kernel
theorem dX4_keepTrial_12 : decode cX4_keepTrial 12 = .ok (.getfield 53, 3) := by decide +kernel
theorem dX4_keepTrial_15 : decode cX4_keepTrial 15 = .ok (.if_icmp .ge 36, 3) := by decide +kernel
theorem dX4_keepTrial_18 : decode cX4_keepTrial 18 = .ok (.aload_n 0, 1) := by decide +kernel
theorem dX4_keepTrial_19 : decode cX4_keepTrial 19 = .ok (.getfield 9, 3) := by decide +kernel
theorem dX4_keepTrial_22 : decode cX4_keepTrial 22 = .ok (.iload_n 3, 1) := by decide +kernel
theorem dX4_keepTrial_23 : decode cX4_keepTrial 23 = .ok (.aload_n 0, 1) := by decide +kernel
theorem dX4_keepTrial_24 : decode cX4_keepTrial 24 = .ok (.getfield 32, 3) := by decide +kernel
theorem dX4_keepTrial_27 : decode cX4_keepTrial 27 = .ok (.iload_n 3, 1) := by decide +kernel
theorem dX4_keepTrial_28 : decode cX4_keepTrial 28 = .ok (.invokestatic 58, 3) := by decide +kernel
theorem dX4_keepTrial_31 : decode cX4_keepTrial 31 = .ok (.ifCond .eq 12, 3) := by decide +kernel
theorem dX4_keepTrial_34 : decode cX4_keepTrial 34 = .ok (.aload_n 0, 1) := by decide +kernel
theorem dX4_keepTrial_35 : decode cX4_keepTrial 35 = .ok (.getfield 15, 3) := by decide +kernel
theorem dX4_keepTrial_38 : decode cX4_keepTrial 38 = .ok (.iload_n 3, 1) := by decide +kernel
theorem dX4_keepTrial_39 : decode cX4_keepTrial 39 = .ok (.iaload, 1) := by decide +kernel
theorem dX4_keepTrial_40 : decode cX4_keepTrial 40 = .ok (.goto 4, 3) := by decide +kernel
theorem dX4_keepTrial_43 : decode cX4_keepTrial 43 = .ok (.iconst (-1), 1) := by decide +kernel
theorem dX4_keepTrial_44 : decode cX4_keepTrial 44 = .ok (.iastore, 1) := by decide +kernel
theorem dX4_keepTrial_45 : decode cX4_keepTrial 45 = .ok (.iinc 3 1, 3) := by decide +kernel
theorem dX4_keepTrial_48 : decode cX4_keepTrial 48 = .ok (.goto (-41), 3) := by decide +kernel
theorem dX4_keepTrial_51 : decode cX4_keepTrial 51 = .ok (.return_, 1) := by decide +kernel
theorem dX4_latestFor_0 : decode cX4_latestFor 0 = .ok (.aload_n 0, 1) := by decide +kernel
theorem dX4_latestFor_1 : decode cX4_latestFor 1 = .ok (.getfield 36, 3) := by decide +kernel
theorem dX4_latestFor_4 : decode cX4_latestFor 4 = .ok (.iconst 1, 1) := by decide +kernel
theorem dX4_latestFor_5 : decode cX4_latestFor 5 = .ok (.isub, 1) := by decide +kernel
theorem dX4_latestFor_6 : decode cX4_latestFor 6 = .ok (.istore_n 2, 1) := by decide +kernel
theorem dX4_latestFor_7 : decode cX4_latestFor 7 = .ok (.iconst 0, 1) := by decide +kernel
theorem dX4_latestFor_8 : decode cX4_latestFor 8 = .ok (.istore_n 3, 1) := by decide +kernel
theorem dX4_latestFor_9 : decode cX4_latestFor 9 = .ok (.iload_n 3, 1) := by decide +kernel
theorem dX4_latestFor_10 : decode cX4_latestFor 10 = .ok (.iload_n 1, 1) := by decide +kernel
theorem dX4_latestFor_11 : decode cX4_latestFor 11 = .ok (.if_icmp .ge 47, 3) := by decide +kernel
theorem dX4_latestFor_14 : decode cX4_latestFor 14 = .ok (.aload_n 0, 1) := by decide +kernel
theorem dX4_latestFor_15 : decode cX4_latestFor 15 = .ok (.getfield 32, 3) := by decide +kernel
theorem dX4_latestFor_18 : decode cX4_latestFor 18 = .ok (.iload_n 3, 1) := by decide +kernel
theorem dX4_latestFor_19 : decode cX4_latestFor 19 = .ok (.invokestatic 58, 3) := by decide +kernel
theorem dX4_latestFor_22 : decode cX4_latestFor 22 = .ok (.ifCond .eq 30, 3) := by decide +kernel
theorem dX4_latestFor_25 : decode cX4_latestFor 25 = .ok (.aload_n 0, 1) := by decide +kernel
theorem dX4_latestFor_26 : decode cX4_latestFor 26 = .ok (.getfield 22, 3) := by decide +kernel
theorem dX4_latestFor_29 : decode cX4_latestFor 29 = .ok (.getfield 85, 3) := by decide +kernel
theorem dX4_latestFor_32 : decode cX4_latestFor 32 = .ok (.iload_n 3, 1) := by decide +kernel
theorem dX4_latestFor_33 : decode cX4_latestFor 33 = .ok (.iaload, 1) := by decide +kernel
theorem dX4_latestFor_34 : decode cX4_latestFor 34 = .ok (.iload_n 1, 1) := by decide +kernel
theorem dX4_latestFor_35 : decode cX4_latestFor 35 = .ok (.invokestatic 58, 3) := by decide +kernel
theorem dX4_latestFor_38 : decode cX4_latestFor 38 = .ok (.ifCond .eq 14, 3) := by decide +kernel
theorem dX4_latestFor_41 : decode cX4_latestFor 41 = .ok (.iload_n 2, 1) := by decide +kernel
theorem dX4_latestFor_42 : decode cX4_latestFor 42 = .ok (.aload_n 0, 1) := by decide +kernel
theorem dX4_latestFor_43 : decode cX4_latestFor 43 = .ok (.getfield 15, 3) := by decide +kernel
theorem dX4_latestFor_46 : decode cX4_latestFor 46 = .ok (.iload_n 3, 1) := by decide +kernel
theorem dX4_latestFor_47 : decode cX4_latestFor 47 = .ok (.iaload, 1) := by decide +kernel
theorem dX4_latestFor_48 : decode cX4_latestFor 48 = .ok (.invokestatic 91, 3) := by decide +kernel
theorem dX4_latestFor_51 : decode cX4_latestFor 51 = .ok (.istore_n 2, 1) := by decide +kernel
theorem dX4_latestFor_52 : decode cX4_latestFor 52 = .ok (.iinc 3 1, 3) := by decide +kernel
theorem dX4_latestFor_55 : decode cX4_latestFor 55 = .ok (.goto (-46), 3) := by decide +kernel
theorem dX4_latestFor_58 : decode cX4_latestFor 58 = .ok (.iload_n 2, 1) := by decide +kernel
theorem dX4_latestFor_59 : decode cX4_latestFor 59 = .ok (.ireturn, 1) := by decide +kernel
theorem dX4_earliestFor_0 : decode cX4_earliestFor 0 = .ok (.iconst 0, 1) := by decide +kernel
theorem dX4_earliestFor_1 : decode cX4_earliestFor 1 = .ok (.istore_n 2, 1) := by decide +kernel
theorem dX4_earliestFor_2 : decode cX4_earliestFor 2 = .ok (.iconst 0, 1) := by decide +kernel
theorem dX4_earliestFor_3 : decode cX4_earliestFor 3 = .ok (.istore_n 3, 1) := by decide +kernel
theorem dX4_earliestFor_4 : decode cX4_earliestFor 4 = .ok (.iload_n 3, 1) := by decide +kernel
theorem dX4_earliestFor_5 : decode cX4_earliestFor 5 = .ok (.iload_n 1, 1) := by decide +kernel
theorem dX4_earliestFor_6 : decode cX4_earliestFor 6 = .ok (.if_icmp .ge 41, 3) := by decide +kernel
theorem dX4_earliestFor_9 : decode cX4_earliestFor 9 = .ok (.aload_n 0, 1) := by decide +kernel
theorem dX4_earliestFor_10 : decode cX4_earliestFor 10 = .ok (.getfield 32, 3) := by decide +kernel
theorem dX4_earliestFor_13 : decode cX4_earliestFor 13 = .ok (.aload_n 0, 1) := by decide +kernel
theorem dX4_earliestFor_14 : decode cX4_earliestFor 14 = .ok (.getfield 22, 3) := by decide +kernel
theorem dX4_earliestFor_17 : decode cX4_earliestFor 17 = .ok (.getfield 85, 3) := by decide +kernel
theorem dX4_earliestFor_20 : decode cX4_earliestFor 20 = .ok (.iload_n 1, 1) := by decide +kernel
theorem dX4_earliestFor_21 : decode cX4_earliestFor 21 = .ok (.iaload, 1) := by decide +kernel
theorem dX4_earliestFor_22 : decode cX4_earliestFor 22 = .ok (.iand, 1) := by decide +kernel
theorem dX4_earliestFor_23 : decode cX4_earliestFor 23 = .ok (.iload_n 3, 1) := by decide +kernel
theorem dX4_earliestFor_24 : decode cX4_earliestFor 24 = .ok (.invokestatic 58, 3) := by decide +kernel
theorem dX4_earliestFor_27 : decode cX4_earliestFor 27 = .ok (.ifCond .eq 14, 3) := by decide +kernel
theorem dX4_earliestFor_30 : decode cX4_earliestFor 30 = .ok (.iload_n 2, 1) := by decide +kernel
theorem dX4_earliestFor_31 : decode cX4_earliestFor 31 = .ok (.aload_n 0, 1) := by decide +kernel
theorem dX4_earliestFor_32 : decode cX4_earliestFor 32 = .ok (.getfield 15, 3) := by decide +kernel
theorem dX4_earliestFor_35 : decode cX4_earliestFor 35 = .ok (.iload_n 3, 1) := by decide +kernel
theorem dX4_earliestFor_36 : decode cX4_earliestFor 36 = .ok (.iaload, 1) := by decide +kernel
theorem dX4_earliestFor_37 : decode cX4_earliestFor 37 = .ok (.invokestatic 88, 3) := by decide +kernel
theorem dX4_earliestFor_40 : decode cX4_earliestFor 40 = .ok (.istore_n 2, 1) := by decide +kernel
theorem dX4_earliestFor_41 : decode cX4_earliestFor 41 = .ok (.iinc 3 1, 3) := by decide +kernel
theorem dX4_earliestFor_44 : decode cX4_earliestFor 44 = .ok (.goto (-40), 3) := by decide +kernel
theorem dX4_earliestFor_47 : decode cX4_earliestFor 47 = .ok (.iload_n 2, 1) := by decide +kernel
theorem dX4_earliestFor_48 : decode cX4_earliestFor 48 = .ok (.ireturn, 1) := by decide +kernel
