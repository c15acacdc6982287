theorem dX0_init_0 : decode cX0_init 0 = .ok (.aload_n 0, 1) := by decide +kernel
theorem dX0_init_1 : decode cX0_init 1 = .ok (.invokespecial 3, 3) := by decide +kernel
theorem dX0_init_4 : decode cX0_init 4 = .ok (.aload_n 0, 1) := by decide +kernel
theorem dX0_init_5 : decode cX0_init 5 = .ok (.new 9, 3) := by decide +kernel
theorem dX0_init_8 : decode cX0_init 8 = .ok (.dup, 1) := by decide +kernel
theorem dX0_init_9 : decode cX0_init 9 = .ok (.invokespecial 11, 3) := by decide +kernel
theorem dX0_init_12 : decode cX0_init 12 = .ok (.putfield 12, 3) := by decide +kernel
theorem dX0_init_15 : decode cX0_init 15 = .ok (.aload_n 0, 1) := by decide +kernel
theorem dX0_init_16 : decode cX0_init 16 = .ok (.new 16, 3) := by decide +kernel
theorem dX0_init_19 : decode cX0_init 19 = .ok (.dup, 1) := by decide +kernel
theorem dX0_init_20 : decode cX0_init 20 = .ok (.aload_n 0, 1) := by decide +kernel
theorem dX0_init_21 : decode cX0_init 21 = .ok (.getfield 12, 3) := by decide +kernel
theorem dX0_init_24 : decode cX0_init 24 = .ok (.invokespecial 18, 3) := by decide +kernel
theorem dX0_init_27 : decode cX0_init 27 = .ok (.putfield 21, 3) := by decide +kernel
theorem dX0_init_30 : decode cX0_init 30 = .ok (.aload_n 0, 1) := by decide +kernel
theorem dX0_init_31 : decode cX0_init 31 = .ok (.new 25, 3) := by decide +kernel
theorem dX0_init_34 : decode cX0_init 34 = .ok (.dup, 1) := by decide +kernel
theorem dX0_init_35 : decode cX0_init 35 = .ok (.invokespecial 27, 3) := by decide +kernel
theorem dX0_init_38 : decode cX0_init 38 = .ok (.putfield 28, 3) := by decide +kernel
theorem dX0_init_41 : decode cX0_init 41 = .ok (.aload_n 0, 1) := by decide +kernel
theorem dX0_init_42 : decode cX0_init 42 = .ok (.new 32, 3) := by decide +kernel
theorem dX0_init_45 : decode cX0_init 45 = .ok (.dup, 1) := by decide +kernel
theorem dX0_init_46 : decode cX0_init 46 = .ok (.aload_n 0, 1) := by decide +kernel
theorem dX0_init_47 : decode cX0_init 47 = .ok (.getfield 12, 3) := by decide +kernel
theorem dX0_init_50 : decode cX0_init 50 = .ok (.invokespecial 34, 3) := by decide +kernel
theorem dX0_init_53 : decode cX0_init 53 = .ok (.putfield 35, 3) := by decide +kernel
theorem dX0_init_56 : decode cX0_init 56 = .ok (.return_, 1) := by decide +kernel
theorem dJA_fillJ_0 : decode cJA_fillJ 0 = .ok (.iconst 0, 1) := by decide +kernel
theorem dJA_fillJ_1 : decode cJA_fillJ 1 = .ok (.istore_n 3, 1) := by decide +kernel
theorem dJA_fillJ_2 : decode cJA_fillJ 2 = .ok (.aload_n 0, 1) := by decide +kernel
theorem dJA_fillJ_3 : decode cJA_fillJ 3 = .ok (.arraylength, 1) := by decide +kernel
theorem dJA_fillJ_4 : decode cJA_fillJ 4 = .ok (.istore 4, 2) := by decide +kernel
theorem dJA_fillJ_6 : decode cJA_fillJ 6 = .ok (.iload_n 3, 1) := by decide +kernel
theorem dJA_fillJ_7 : decode cJA_fillJ 7 = .ok (.iload 4, 2) := by decide +kernel
theorem dJA_fillJ_9 : decode cJA_fillJ 9 = .ok (.if_icmp .ge 13, 3) := by decide +kernel
theorem dJA_fillJ_12 : decode cJA_fillJ 12 = .ok (.aload_n 0, 1) := by decide +kernel
theorem dJA_fillJ_13 : decode cJA_fillJ 13 = .ok (.iload_n 3, 1) := by decide +kernel
theorem dJA_fillJ_14 : decode cJA_fillJ 14 = .ok (.lload_n 1, 1) := by decide +kernel
theorem dJA_fillJ_15 : decode cJA_fillJ 15 = .ok (.lastore, 1) := by decide +kernel
theorem dJA_fillJ_16 : decode cJA_fillJ 16 = .ok (.iinc 3 1, 3) := by decide +kernel
theorem dJA_fillJ_19 : decode cJA_fillJ 19 = .ok (.goto (-13), 3) := by decide +kernel
theorem dJA_fillJ_22 : decode cJA_fillJ 22 = .ok (.return_, 1) := by decide +kernel
theorem dJA_fillI_0 : decode cJA_fillI 0 = .ok (.iconst 0, 1) := by decide +kernel
theorem dJA_fillI_1 : decode cJA_fillI 1 = .ok (.istore_n 2, 1) := by decide +kernel
theorem dJA_fillI_2 : decode cJA_fillI 2 = .ok (.aload_n 0, 1) := by decide +kernel
theorem dJA_fillI_3 : decode cJA_fillI 3 = .ok (.arraylength, 1) := by decide +kernel
theorem dJA_fillI_4 : decode cJA_fillI 4 = .ok (.istore_n 3, 1) := by decide +kernel
theorem dJA_fillI_5 : decode cJA_fillI 5 = .ok (.iload_n 2, 1) := by decide +kernel
theorem dJA_fillI_6 : decode cJA_fillI 6 = .ok (.iload_n 3, 1) := by decide +kernel
theorem dJA_fillI_7 : decode cJA_fillI 7 = .ok (.if_icmp .ge 13, 3) := by decide +kernel
theorem dJA_fillI_10 : decode cJA_fillI 10 = .ok (.aload_n 0, 1) := by decide +kernel
theorem dJA_fillI_11 : decode cJA_fillI 11 = .ok (.iload_n 2, 1) := by decide +kernel
theorem dJA_fillI_12 : decode cJA_fillI 12 = .ok (.iload_n 1, 1) := by decide +kernel
theorem dJA_fillI_13 : decode cJA_fillI 13 = .ok (.iastore, 1) := by decide +kernel
theorem dJA_fillI_14 : decode cJA_fillI 14 = .ok (.iinc 2 1, 3) := by decide +kernel
theorem dJA_fillI_17 : decode cJA_fillI 17 = .ok (.goto (-12), 3) := by decide +kernel
theorem dJA_fillI_20 : decode cJA_fillI 20 = .ok (.return_, 1) := by decide +kernel
theorem dX0_act_0 : decode cX0_act 0 = .ok (.iload_n 1, 1) := by decide +kernel
theorem dX0_act_1 : decode cX0_act 1 = .ok (.iconst (-1), 1) := by decide +kernel
theorem dX0_act_2 : decode cX0_act 2 = .ok (.if_icmp .eq 10, 3) := by decide +kernel
theorem dX0_act_5 : decode cX0_act 5 = .ok (.iload_n 1, 1) := by decide +kernel
theorem dX0_act_6 : decode cX0_act 6 = .ok (.invokestatic 39, 3) := by decide +kernel
theorem dX0_act_9 : decode cX0_act 9 = .ok (.ifCond .eq 7, 3) := by decide +kernel
theorem dX0_act_12 : decode cX0_act 12 = .ok (.iconst 1, 1) := by decide +kernel
theorem dX0_act_13 : decode cX0_act 13 = .ok (.goto 4, 3) := by decide +kernel
theorem dX0_act_16 : decode cX0_act 16 = .ok (.iconst 0, 1) := by decide +kernel
theorem dX0_act_17 : decode cX0_act 17 = .ok (.istore 6, 2) := by decide +kernel
theorem dX0_act_19 : decode cX0_act 19 = .ok (.aload_n 0, 1) := by decide +kernel
theorem dX0_act_20 : decode cX0_act 20 = .ok (.getfield 12, 3) := by decide +kernel
theorem dX0_act_23 : decode cX0_act 23 = .ok (.getfield 43, 3) := by decide +kernel
theorem dX0_act_26 : decode cX0_act 26 = .ok (.bipush 10, 2) := by decide +kernel
theorem dX0_act_28 : decode cX0_act 28 = .ok (.if_icmp .ge 30, 3) := by decide +kernel
theorem dX0_act_31 : decode cX0_act 31 = .ok (.iload 6, 2) := by decide +kernel
theorem dX0_act_33 : decode cX0_act 33 = .ok (.ifCond .eq 25, 3) := by decide +kernel
theorem dX0_act_36 : decode cX0_act 36 = .ok (.iload_n 2, 1) := by decide +kernel
theorem dX0_act_37 : decode cX0_act 37 = .ok (.invokestatic 47, 3) := by decide +kernel
theorem dX0_act_40 : decode cX0_act 40 = .ok (.ifCond .eq 18, 3) := by decide +kernel
theorem dX0_act_43 : decode cX0_act 43 = .ok (.iload_n 3, 1) := by decide +kernel
theorem dX0_act_44 : decode cX0_act 44 = .ok (.invokestatic 47, 3) := by decide +kernel
theorem dX0_act_47 : decode cX0_act 47 = .ok (.ifCond .eq 11, 3) := by decide +kernel
theorem dX0_act_50 : decode cX0_act 50 = .ok (.lload 4, 2) := by decide +kernel
theorem dX0_act_52 : decode cX0_act 52 = .ok (.invokestatic 50, 3) := by decide +kernel
theorem dX0_act_55 : decode cX0_act 55 = .ok (.ifCond .ne 5, 3) := by decide +kernel
theorem dX0_act_58 : decode cX0_act 58 = .ok (.iconst (-1), 1) := by decide +kernel
theorem dX0_act_59 : decode cX0_act 59 = .ok (.ireturn, 1) := by decide +kernel
theorem dX0_act_60 : decode cX0_act 60 = .ok (.aload_n 0, 1) := by decide +kernel
theorem dX0_act_61 : decode cX0_act 61 = .ok (.getfield 28, 3) := by decide +kernel
theorem dX0_act_64 : decode cX0_act 64 = .ok (.iconst 0, 1) := by decide +kernel
theorem dX0_act_65 : decode cX0_act 65 = .ok (.putfield 54, 3) := by decide +kernel
theorem dX0_act_68 : decode cX0_act 68 = .ok (.aload_n 0, 1) := by decide +kernel
theorem dX0_act_69 : decode cX0_act 69 = .ok (.getfield 12, 3) := by decide +kernel
theorem dX0_act_72 : decode cX0_act 72 = .ok (.iload_n 1, 1) := by decide +kernel
theorem dX0_act_73 : decode cX0_act 73 = .ok (.iload_n 2, 1) := by decide +kernel
theorem dX0_act_74 : decode cX0_act 74 = .ok (.iload_n 3, 1) := by decide +kernel
theorem dX0_act_75 : decode cX0_act 75 = .ok (.lload 4, 2) := by decide +kernel
theorem dX0_act_77 : decode cX0_act 77 = .ok (.invokevirtual 58, 3) := by decide +kernel
theorem dX0_act_80 : decode cX0_act 80 = .ok (.ireturn, 1) := by decide +kernel
theorem dX0_isPart_0 : decode cX0_isPart 0 = .ok (.iload_n 0, 1) := by decide +kernel
theorem dX0_isPart_1 : decode cX0_isPart 1 = .ok (.ifCond .lt 13, 3) := by decide +kernel
theorem dX0_isPart_4 : decode cX0_isPart 4 = .ok (.iload_n 0, 1) := by decide +kernel
theorem dX0_isPart_5 : decode cX0_isPart 5 = .ok (.bipush 12, 2) := by decide +kernel
theorem dX0_isPart_7 : decode cX0_isPart 7 = .ok (.if_icmp .ge 7, 3) := by decide +kernel
theorem dX0_isPart_10 : decode cX0_isPart 10 = .ok (.iconst 1, 1) := by decide +kernel
theorem dX0_isPart_11 : decode cX0_isPart 11 = .ok (.goto 4, 3) := by decide +kernel
theorem dX0_isPart_14 : decode cX0_isPart 14 = .ok (.iconst 0, 1) := by decide +kernel
theorem dX0_isPart_15 : decode cX0_isPart 15 = .ok (.ireturn, 1) := by decide +kernel
theorem dX0_isKind_0 : decode cX0_isKind 0 = .ok (.iload_n 0, 1) := by decide +kernel
theorem dX0_isKind_1 : decode cX0_isKind 1 = .ok (.ifCond .lt 13, 3) := by decide +kernel
theorem dX0_isKind_4 : decode cX0_isKind 4 = .ok (.iload_n 0, 1) := by decide +kernel
theorem dX0_isKind_5 : decode cX0_isKind 5 = .ok (.bipush 6, 2) := by decide +kernel
theorem dX0_isKind_7 : decode cX0_isKind 7 = .ok (.if_icmp .ge 7, 3) := by decide +kernel
theorem dX0_isKind_10 : decode cX0_isKind 10 = .ok (.iconst 1, 1) := by decide +kernel
theorem dX0_isKind_11 : decode cX0_isKind 11 = .ok (.goto 4, 3) := by decide +kernel
theorem dX0_isKind_14 : decode cX0_isKind 14 = .ok (.iconst 0, 1) := by decide +kernel
theorem dX0_isKind_15 : decode cX0_isKind 15 = .ok (.ireturn, 1) := by decide +kernel
theorem dX0_isPrice_0 : decode cX0_isPrice 0 = .ok (.lload_n 0, 1) := by decide +kernel
theorem dX0_isPrice_1 : decode cX0_isPrice 1 = .ok (.lconst 0, 1) := by decide +kernel
theorem dX0_isPrice_2 : decode cX0_isPrice 2 = .ok (.lcmp, 1) := by decide +kernel
theorem dX0_isPrice_3 : decode cX0_isPrice 3 = .ok (.ifCond .lt 15, 3) := by decide +kernel
theorem dX0_isPrice_6 : decode cX0_isPrice 6 = .ok (.lload_n 0, 1) := by decide +kernel
theorem dX0_isPrice_7 : decode cX0_isPrice 7 = .ok (.ldc2_w 180, 3) := by decide +kernel
theorem dX0_isPrice_10 : decode cX0_isPrice 10 = .ok (.lcmp, 1) := by decide +kernel
theorem dX0_isPrice_11 : decode cX0_isPrice 11 = .ok (.ifCond .gt 7, 3) := by decide +kernel
theorem dX0_isPrice_14 : decode cX0_isPrice 14 = .ok (.iconst 1, 1) := by decide +kernel
theorem dX0_isPrice_15 : decode cX0_isPrice 15 = .ok (.goto 4, 3) := by decide +kernel
theorem dX0_isPrice_18 : decode cX0_isPrice 18 = .ok (.iconst 0, 1) := by decide +kernel
theorem dX0_isPrice_19 : decode cX0_isPrice 19 = .ok (.ireturn, 1) := by decide +kernel
theorem dX0_before_0 : decode cX0_before 0 = .ok (.aload_n 0, 1) := by decide +kernel
theorem dX0_before_1 : decode cX0_before 1 = .ok (.getfield 12, 3) := by decide +kernel
theorem dX0_before_4 : decode cX0_before 4 = .ok (.iload_n 1, 1) := by decide +kernel
theorem dX0_before_5 : decode cX0_before 5 = .ok (.invokevirtual 62, 3) := by decide +kernel
theorem dX0_before_8 : decode cX0_before 8 = .ok (.ifCond .eq 35, 3) := by decide +kernel
theorem dX0_before_11 : decode cX0_before 11 = .ok (.aload_n 0, 1) := by decide +kernel
theorem dX0_before_12 : decode cX0_before 12 = .ok (.getfield 12, 3) := by decide +kernel
theorem dX0_before_15 : decode cX0_before 15 = .ok (.iload_n 2, 1) := by decide +kernel
theorem dX0_before_16 : decode cX0_before 16 = .ok (.invokevirtual 62, 3) := by decide +kernel
theorem dX0_before_19 : decode cX0_before 19 = .ok (.ifCond .eq 24, 3) := by decide +kernel
theorem dX0_before_22 : decode cX0_before 22 = .ok (.iload_n 1, 1) := by decide +kernel
theorem dX0_before_23 : decode cX0_before 23 = .ok (.iload_n 2, 1) := by decide +kernel
theorem dX0_before_24 : decode cX0_before 24 = .ok (.if_icmp .eq 19, 3) := by decide +kernel
theorem dX0_before_27 : decode cX0_before 27 = .ok (.aload_n 0, 1) := by decide +kernel
theorem dX0_before_28 : decode cX0_before 28 = .ok (.getfield 12, 3) := by decide +kernel
theorem dX0_before_31 : decode cX0_before 31 = .ok (.getfield 65, 3) := by decide +kernel
theorem dX0_before_34 : decode cX0_before 34 = .ok (.iload_n 1, 1) := by decide +kernel
theorem dX0_before_35 : decode cX0_before 35 = .ok (.iaload, 1) := by decide +kernel
theorem dX0_before_36 : decode cX0_before 36 = .ok (.iload_n 2, 1) := by decide +kernel
theorem dX0_before_37 : decode cX0_before 37 = .ok (.invokestatic 69, 3) := by decide +kernel
theorem dX0_before_40 : decode cX0_before 40 = .ok (.ifCond .eq 5, 3) := by decide +kernel
theorem dX0_before_43 : decode cX0_before 43 = .ok (.iconst 0, 1) := by decide +kernel
theorem dX0_before_44 : decode cX0_before 44 = .ok (.ireturn, 1) := by decide +kernel
theorem dX0_before_45 : decode cX0_before 45 = .ok (.aload_n 0, 1) := by decide +kernel
theorem dX0_before_46 : decode cX0_before 46 = .ok (.getfield 12, 3) := by decide +kernel
theorem dX0_before_49 : decode cX0_before 49 = .ok (.iload_n 1, 1) := by decide +kernel
theorem dX0_before_50 : decode cX0_before 50 = .ok (.iload_n 2, 1) := by decide +kernel
theorem dX0_before_51 : decode cX0_before 51 = .ok (.invokevirtual 73, 3) := by decide +kernel
theorem dX0_before_54 : decode cX0_before 54 = .ok (.aload_n 0, 1) := by decide +kernel
theorem dX0_before_55 : decode cX0_before 55 = .ok (.getfield 28, 3) := by decide +kernel
theorem dX0_before_58 : decode cX0_before 58 = .ok (.iconst 0, 1) := by decide +kernel
theorem dX0_before_59 : decode cX0_before 59 = .ok (.putfield 54, 3) := by decide +kernel
theorem dX0_before_62 : decode cX0_before 62 = .ok (.iconst 1, 1) := by decide +kernel
theorem dX0_before_63 : decode cX0_before 63 = .ok (.ireturn, 1) := by decide +kernel
theorem dX0_has_0 : decode cX0_has 0 = .ok (.iload_n 0, 1) := by decide +kernel
theorem dX0_has_1 : decode cX0_has 1 = .ok (.iload_n 1, 1) := by decide +kernel
theorem dX0_has_2 : decode cX0_has 2 = .ok (.ishr, 1) := by decide +kernel
theorem dX0_has_3 : decode cX0_has 3 = .ok (.iconst 1, 1) := by decide +kernel
theorem dX0_has_4 : decode cX0_has 4 = .ok (.iand, 1) := by decide +kernel
theorem dX0_has_5 : decode cX0_has 5 = .ok (.ifCond .eq 7, 3) := by decide +kernel
theorem dX0_has_8 : decode cX0_has 8 = .ok (.iconst 1, 1) := by decide +kernel
theorem dX0_has_9 : decode cX0_has 9 = .ok (.goto 4, 3) := by decide +kernel
theorem dX0_has_12 : decode cX0_has 12 = .ok (.iconst 0, 1) := by decide +kernel
theorem dX0_has_13 : decode cX0_has 13 = .ok (.ireturn, 1) := by decide +kernel
theorem dX0_change_0 : decode cX0_change 0 = .ok (.iload_n 1, 1) := by decide +kernel
theorem dX0_change_1 : decode cX0_change 1 = .ok (.iload_n 2, 1) := by decide +kernel
theorem dX0_change_2 : decode cX0_change 2 = .ok (.invokestatic 77, 3) := by decide +kernel
theorem dX0_change_5 : decode cX0_change 5 = .ok (.ifCond .eq 10, 3) := by decide +kernel
theorem dX0_change_8 : decode cX0_change 8 = .ok (.lload_n 3, 1) := by decide +kernel
theorem dX0_change_9 : decode cX0_change 9 = .ok (.invokestatic 50, 3) := by decide +kernel
theorem dX0_change_12 : decode cX0_change 12 = .ok (.ifCond .ne 5, 3) := by decide +kernel
theorem dX0_change_15 : decode cX0_change 15 = .ok (.iconst 0, 1) := by decide +kernel
theorem dX0_change_16 : decode cX0_change 16 = .ok (.ireturn, 1) := by decide +kernel
theorem dX0_change_17 : decode cX0_change 17 = .ok (.aload_n 0, 1) := by decide +kernel
theorem dX0_change_18 : decode cX0_change 18 = .ok (.getfield 12, 3) := by decide +kernel
theorem dX0_change_21 : decode cX0_change 21 = .ok (.getfield 80, 3) := by decide +kernel
theorem dX0_change_24 : decode cX0_change 24 = .ok (.iload_n 1, 1) := by decide +kernel
theorem dX0_change_25 : decode cX0_change 25 = .ok (.bipush 6, 2) := by decide +kernel
theorem dX0_change_27 : decode cX0_change 27 = .ok (.imul, 1) := by decide +kernel
theorem dX0_change_28 : decode cX0_change 28 = .ok (.iload_n 2, 1) := by decide +kernel
theorem dX0_change_29 : decode cX0_change 29 = .ok (.iadd, 1) := by decide +kernel
theorem dX0_change_30 : decode cX0_change 30 = .ok (.lload_n 3, 1) := by decide +kernel
theorem dX0_change_31 : decode cX0_change 31 = .ok (.lastore, 1) := by decide +kernel
theorem dX0_change_32 : decode cX0_change 32 = .ok (.aload_n 0, 1) := by decide +kernel
theorem dX0_change_33 : decode cX0_change 33 = .ok (.getfield 28, 3) := by decide +kernel
theorem dX0_change_36 : decode cX0_change 36 = .ok (.iconst 0, 1) := by decide +kernel
theorem dX0_change_37 : decode cX0_change 37 = .ok (.putfield 54, 3) := by decide +kernel
theorem dX0_change_40 : decode cX0_change 40 = .ok (.iconst 1, 1) := by decide +kernel
theorem dX0_change_41 : decode cX0_change 41 = .ok (.ireturn, 1) := by decide +kernel
theorem dX0_isMove_0 : decode cX0_isMove 0 = .ok (.iload_n 0, 1) := by decide +kernel
theorem dX0_isMove_1 : decode cX0_isMove 1 = .ok (.invokestatic 47, 3) := by decide +kernel
theorem dX0_isMove_4 : decode cX0_isMove 4 = .ok (.ifCond .eq 19, 3) := by decide +kernel
theorem dX0_isMove_7 : decode cX0_isMove 7 = .ok (.iload_n 1, 1) := by decide +kernel
theorem dX0_isMove_8 : decode cX0_isMove 8 = .ok (.invokestatic 47, 3) := by decide +kernel
theorem dX0_isMove_11 : decode cX0_isMove 11 = .ok (.ifCond .eq 12, 3) := by decide +kernel
theorem dX0_isMove_14 : decode cX0_isMove 14 = .ok (.iload_n 0, 1) := by decide +kernel
theorem dX0_isMove_15 : decode cX0_isMove 15 = .ok (.iload_n 1, 1) := by decide +kernel
theorem dX0_isMove_16 : decode cX0_isMove 16 = .ok (.if_icmp .eq 7, 3) := by decide +kernel
theorem dX0_isMove_19 : decode cX0_isMove 19 = .ok (.iconst 1, 1) := by decide +kernel
theorem dX0_isMove_20 : decode cX0_isMove 20 = .ok (.goto 4, 3) := by decide +kernel
theorem dX0_isMove_23 : decode cX0_isMove 23 = .ok (.iconst 0, 1) := by decide +kernel
theorem dX0_isMove_24 : decode cX0_isMove 24 = .ok (.ireturn, 1) := by decide +kernel
theorem dX0_turn_0 : decode cX0_turn 0 = .ok (.iload_n 1, 1) := by decide +kernel
theorem dX0_turn_1 : decode cX0_turn 1 = .ok (.iload_n 2, 1) := by decide +kernel
theorem dX0_turn_2 : decode cX0_turn 2 = .ok (.invokestatic 77, 3) := by decide +kernel
theorem dX0_turn_5 : decode cX0_turn 5 = .ok (.ifCond .eq 10, 3) := by decide +kernel
theorem dX0_turn_8 : decode cX0_turn 8 = .ok (.lload_n 3, 1) := by decide +kernel
theorem dX0_turn_9 : decode cX0_turn 9 = .ok (.invokestatic 50, 3) := by decide +kernel
theorem dX0_turn_12 : decode cX0_turn 12 = .ok (.ifCond .ne 5, 3) := by decide +kernel
theorem dX0_turn_15 : decode cX0_turn 15 = .ok (.iconst 0, 1) := by decide +kernel
theorem dX0_turn_16 : decode cX0_turn 16 = .ok (.ireturn, 1) := by decide +kernel
theorem dX0_turn_17 : decode cX0_turn 17 = .ok (.aload_n 0, 1) := by decide +kernel
theorem dX0_turn_18 : decode cX0_turn 18 = .ok (.getfield 12, 3) := by decide +kernel
theorem dX0_turn_21 : decode cX0_turn 21 = .ok (.getfield 84, 3) := by decide +kernel
theorem dX0_turn_24 : decode cX0_turn 24 = .ok (.iload_n 1, 1) := by decide +kernel
theorem dX0_turn_25 : decode cX0_turn 25 = .ok (.bipush 6, 2) := by decide +kernel
theorem dX0_turn_27 : decode cX0_turn 27 = .ok (.imul, 1) := by decide +kernel
theorem dX0_turn_28 : decode cX0_turn 28 = .ok (.iload_n 2, 1) := by decide +kernel
theorem dX0_turn_29 : decode cX0_turn 29 = .ok (.iadd, 1) := by decide +kernel
theorem dX0_turn_30 : decode cX0_turn 30 = .ok (.lload_n 3, 1) := by decide +kernel
theorem dX0_turn_31 : decode cX0_turn 31 = .ok (.lastore, 1) := by decide +kernel
theorem dX0_turn_32 : decode cX0_turn 32 = .ok (.aload_n 0, 1) := by decide +kernel
theorem dX0_turn_33 : decode cX0_turn 33 = .ok (.getfield 28, 3) := by decide +kernel
theorem dX0_turn_36 : decode cX0_turn 36 = .ok (.iconst 0, 1) := by decide +kernel
theorem dX0_turn_37 : decode cX0_turn 37 = .ok (.putfield 54, 3) := by decide +kernel
theorem dX0_turn_40 : decode cX0_turn 40 = .ok (.iconst 1, 1) := by decide +kernel
theorem dX0_turn_41 : decode cX0_turn 41 = .ok (.ireturn, 1) := by decide +kernel
theorem dX0_worth_0 : decode cX0_worth 0 = .ok (.iload_n 1, 1) := by decide +kernel
theorem dX0_worth_1 : decode cX0_worth 1 = .ok (.invokestatic 39, 3) := by decide +kernel
theorem dX0_worth_4 : decode cX0_worth 4 = .ok (.ifCond .eq 10, 3) := by decide +kernel
theorem dX0_worth_7 : decode cX0_worth 7 = .ok (.lload_n 2, 1) := by decide +kernel
theorem dX0_worth_8 : decode cX0_worth 8 = .ok (.invokestatic 87, 3) := by decide +kernel
theorem dX0_worth_11 : decode cX0_worth 11 = .ok (.ifCond .ne 5, 3) := by decide +kernel
theorem dX0_worth_14 : decode cX0_worth 14 = .ok (.iconst 0, 1) := by decide +kernel
theorem dX0_worth_15 : decode cX0_worth 15 = .ok (.ireturn, 1) := by decide +kernel
theorem dX0_worth_16 : decode cX0_worth 16 = .ok (.aload_n 0, 1) := by decide +kernel
theorem dX0_worth_17 : decode cX0_worth 17 = .ok (.getfield 12, 3) := by decide +kernel
theorem dX0_worth_20 : decode cX0_worth 20 = .ok (.getfield 90, 3) := by decide +kernel
theorem dX0_worth_23 : decode cX0_worth 23 = .ok (.iload_n 1, 1) := by decide +kernel
theorem dX0_worth_24 : decode cX0_worth 24 = .ok (.lload_n 2, 1) := by decide +kernel
theorem dX0_worth_25 : decode cX0_worth 25 = .ok (.lastore, 1) := by decide +kernel
theorem dX0_worth_26 : decode cX0_worth 26 = .ok (.aload_n 0, 1) := by decide +kernel
theorem dX0_worth_27 : decode cX0_worth 27 = .ok (.getfield 28, 3) := by decide +kernel
theorem dX0_worth_30 : decode cX0_worth 30 = .ok (.iconst 0, 1) := by decide +kernel
theorem dX0_worth_31 : decode cX0_worth 31 = .ok (.putfield 54, 3) := by decide +kernel
theorem dX0_worth_34 : decode cX0_worth 34 = .ok (.iconst 1, 1) := by decide +kernel
theorem dX0_worth_35 : decode cX0_worth 35 = .ok (.ireturn, 1) := by decide +kernel
theorem dX0_isWorth_0 : decode cX0_isWorth 0 = .ok (.lload_n 0, 1) := by decide +kernel
theorem dX0_isWorth_1 : decode cX0_isWorth 1 = .ok (.ldc2_w 182, 3) := by decide +kernel
theorem dX0_isWorth_4 : decode cX0_isWorth 4 = .ok (.lcmp, 1) := by decide +kernel
theorem dX0_isWorth_5 : decode cX0_isWorth 5 = .ok (.ifCond .lt 15, 3) := by decide +kernel
theorem dX0_isWorth_8 : decode cX0_isWorth 8 = .ok (.lload_n 0, 1) := by decide +kernel
theorem dX0_isWorth_9 : decode cX0_isWorth 9 = .ok (.ldc2_w 180, 3) := by decide +kernel
theorem dX0_isWorth_12 : decode cX0_isWorth 12 = .ok (.lcmp, 1) := by decide +kernel
theorem dX0_isWorth_13 : decode cX0_isWorth 13 = .ok (.ifCond .gt 7, 3) := by decide +kernel
theorem dX0_isWorth_16 : decode cX0_isWorth 16 = .ok (.iconst 1, 1) := by decide +kernel
theorem dX0_isWorth_17 : decode cX0_isWorth 17 = .ok (.goto 4, 3) := by decide +kernel
theorem dX0_isWorth_20 : decode cX0_isWorth 20 = .ok (.iconst 0, 1) := by decide +kernel
theorem dX0_isWorth_21 : decode cX0_isWorth 21 = .ok (.ireturn, 1) := by decide +kernel
theorem dX0_rest_0 : decode cX0_rest 0 = .ok (.lload_n 1, 1) := by decide +kernel
theorem dX0_rest_1 : decode cX0_rest 1 = .ok (.lconst 0, 1) := by decide +kernel
theorem dX0_rest_2 : decode cX0_rest 2 = .ok (.lcmp, 1) := by decide +kernel
theorem dX0_rest_3 : decode cX0_rest 3 = .ok (.ifCond .lt 31, 3) := by decide +kernel
theorem dX0_rest_6 : decode cX0_rest 6 = .ok (.lload_n 1, 1) := by decide +kernel
theorem dX0_rest_7 : decode cX0_rest 7 = .ok (.ldc2_w 93, 3) := by decide +kernel
theorem dX0_rest_10 : decode cX0_rest 10 = .ok (.lcmp, 1) := by decide +kernel
theorem dX0_rest_11 : decode cX0_rest 11 = .ok (.ifCond .gt 23, 3) := by decide +kernel
theorem dX0_rest_14 : decode cX0_rest 14 = .ok (.lload_n 3, 1) := by decide +kernel
theorem dX0_rest_15 : decode cX0_rest 15 = .ok (.invokestatic 87, 3) := by decide +kernel
theorem dX0_rest_18 : decode cX0_rest 18 = .ok (.ifCond .eq 16, 3) := by decide +kernel
theorem dX0_rest_21 : decode cX0_rest 21 = .ok (.aload_n 0, 1) := by decide +kernel
theorem dX0_rest_22 : decode cX0_rest 22 = .ok (.getfield 12, 3) := by decide +kernel
theorem dX0_rest_25 : decode cX0_rest 25 = .ok (.lload_n 1, 1) := by decide +kernel
theorem dX0_rest_26 : decode cX0_rest 26 = .ok (.l2i, 1) := by decide +kernel
theorem dX0_rest_27 : decode cX0_rest 27 = .ok (.lload_n 3, 1) := by decide +kernel
theorem dX0_rest_28 : decode cX0_rest 28 = .ok (.invokevirtual 95, 3) := by decide +kernel
theorem dX0_rest_31 : decode cX0_rest 31 = .ok (.ifCond .ne 5, 3) := by decide +kernel
theorem dX0_rest_34 : decode cX0_rest 34 = .ok (.iconst 0, 1) := by decide +kernel
theorem dX0_rest_35 : decode cX0_rest 35 = .ok (.ireturn, 1) := by decide +kernel
theorem dX0_rest_36 : decode cX0_rest 36 = .ok (.aload_n 0, 1) := by decide +kernel
theorem dX0_rest_37 : decode cX0_rest 37 = .ok (.getfield 28, 3) := by decide +kernel
theorem dX0_rest_40 : decode cX0_rest 40 = .ok (.iconst 0, 1) := by decide +kernel
theorem dX0_rest_41 : decode cX0_rest 41 = .ok (.putfield 54, 3) := by decide +kernel
theorem dX0_rest_44 : decode cX0_rest 44 = .ok (.iconst 1, 1) := by decide +kernel
theorem dX0_rest_45 : decode cX0_rest 45 = .ok (.ireturn, 1) := by decide +kernel
theorem dX0_breaks_0 : decode cX0_breaks 0 = .ok (.aload_n 0, 1) := by decide +kernel
theorem dX0_breaks_1 : decode cX0_breaks 1 = .ok (.getfield 12, 3) := by decide +kernel
theorem dX0_breaks_4 : decode cX0_breaks 4 = .ok (.iload_n 1, 1) := by decide +kernel
theorem dX0_breaks_5 : decode cX0_breaks 5 = .ok (.invokevirtual 62, 3) := by decide +kernel
theorem dX0_breaks_8 : decode cX0_breaks 8 = .ok (.ifCond .eq 17, 3) := by decide +kernel
theorem dX0_breaks_11 : decode cX0_breaks 11 = .ok (.aload_n 0, 1) := by decide +kernel
theorem dX0_breaks_12 : decode cX0_breaks 12 = .ok (.getfield 12, 3) := by decide +kernel
theorem dX0_breaks_15 : decode cX0_breaks 15 = .ok (.getfield 99, 3) := by decide +kernel
theorem dX0_breaks_18 : decode cX0_breaks 18 = .ok (.iload_n 1, 1) := by decide +kernel
theorem dX0_breaks_19 : decode cX0_breaks 19 = .ok (.invokestatic 69, 3) := by decide +kernel
theorem dX0_breaks_22 : decode cX0_breaks 22 = .ok (.ifCond .eq 5, 3) := by decide +kernel
theorem dX0_breaks_25 : decode cX0_breaks 25 = .ok (.iconst 0, 1) := by decide +kernel
theorem dX0_breaks_26 : decode cX0_breaks 26 = .ok (.ireturn, 1) := by decide +kernel
theorem dX0_breaks_27 : decode cX0_breaks 27 = .ok (.aload_n 0, 1) := by decide +kernel
theorem dX0_breaks_28 : decode cX0_breaks 28 = .ok (.getfield 12, 3) := by decide +kernel
theorem dX0_breaks_31 : decode cX0_breaks 31 = .ok (.dup, 1) := by decide +kernel
theorem dX0_breaks_32 : decode cX0_breaks 32 = .ok (.getfield 99, 3) := by decide +kernel
theorem dX0_breaks_35 : decode cX0_breaks 35 = .ok (.iconst 1, 1) := by decide +kernel
theorem dX0_breaks_36 : decode cX0_breaks 36 = .ok (.iload_n 1, 1) := by decide +kernel
theorem dX0_breaks_37 : decode cX0_breaks 37 = .ok (.ishl, 1) := by decide +kernel
theorem dX0_breaks_38 : decode cX0_breaks 38 = .ok (.ior, 1) := by decide +kernel
theorem dX0_breaks_39 : decode cX0_breaks 39 = .ok (.putfield 99, 3) := by decide +kernel
theorem dX0_breaks_42 : decode cX0_breaks 42 = .ok (.aload_n 0, 1) := by decide +kernel
theorem dX0_breaks_43 : decode cX0_breaks 43 = .ok (.getfield 28, 3) := by decide +kernel
theorem dX0_breaks_46 : decode cX0_breaks 46 = .ok (.iconst 0, 1) := by decide +kernel
theorem dX0_breaks_47 : decode cX0_breaks 47 = .ok (.putfield 54, 3) := by decide +kernel
theorem dX0_breaks_50 : decode cX0_breaks 50 = .ok (.iconst 1, 1) := by decide +kernel
theorem dX0_breaks_51 : decode cX0_breaks 51 = .ok (.ireturn, 1) := by decide +kernel
theorem dX0_sure_0 : decode cX0_sure 0 = .ok (.iload_n 1, 1) := by decide +kernel
theorem dX0_sure_1 : decode cX0_sure 1 = .ok (.invokestatic 39, 3) := by decide +kernel
theorem dX0_sure_4 : decode cX0_sure 4 = .ok (.ifCond .eq 32, 3) := by decide +kernel
theorem dX0_sure_7 : decode cX0_sure 7 = .ok (.lload 4, 2) := by decide +kernel
theorem dX0_sure_9 : decode cX0_sure 9 = .ok (.lconst 1, 1) := by decide +kernel
theorem dX0_sure_10 : decode cX0_sure 10 = .ok (.lcmp, 1) := by decide +kernel
theorem dX0_sure_11 : decode cX0_sure 11 = .ok (.ifCond .lt 25, 3) := by decide +kernel
theorem dX0_sure_14 : decode cX0_sure 14 = .ok (.lload 4, 2) := by decide +kernel
theorem dX0_sure_16 : decode cX0_sure 16 = .ok (.ldc2_w 102, 3) := by decide +kernel
theorem dX0_sure_19 : decode cX0_sure 19 = .ok (.lcmp, 1) := by decide +kernel
theorem dX0_sure_20 : decode cX0_sure 20 = .ok (.ifCond .gt 16, 3) := by decide +kernel
theorem dX0_sure_23 : decode cX0_sure 23 = .ok (.lload_n 2, 1) := by decide +kernel
theorem dX0_sure_24 : decode cX0_sure 24 = .ok (.lconst 0, 1) := by decide +kernel
theorem dX0_sure_25 : decode cX0_sure 25 = .ok (.lcmp, 1) := by decide +kernel
theorem dX0_sure_26 : decode cX0_sure 26 = .ok (.ifCond .lt 10, 3) := by decide +kernel
theorem dX0_sure_29 : decode cX0_sure 29 = .ok (.lload_n 2, 1) := by decide +kernel
theorem dX0_sure_30 : decode cX0_sure 30 = .ok (.lload 4, 2) := by decide +kernel
theorem dX0_sure_32 : decode cX0_sure 32 = .ok (.lcmp, 1) := by decide +kernel
theorem dX0_sure_33 : decode cX0_sure 33 = .ok (.ifCond .le 5, 3) := by decide +kernel
theorem dX0_sure_36 : decode cX0_sure 36 = .ok (.iconst 0, 1) := by decide +kernel
theorem dX0_sure_37 : decode cX0_sure 37 = .ok (.ireturn, 1) := by decide +kernel
theorem dX0_sure_38 : decode cX0_sure 38 = .ok (.aload_n 0, 1) := by decide +kernel
theorem dX0_sure_39 : decode cX0_sure 39 = .ok (.getfield 12, 3) := by decide +kernel
theorem dX0_sure_42 : decode cX0_sure 42 = .ok (.getfield 104, 3) := by decide +kernel
theorem dX0_sure_45 : decode cX0_sure 45 = .ok (.iload_n 1, 1) := by decide +kernel
theorem dX0_sure_46 : decode cX0_sure 46 = .ok (.ldc2_w 107, 3) := by decide +kernel
theorem dX0_sure_49 : decode cX0_sure 49 = .ok (.lload 4, 2) := by decide +kernel
theorem dX0_sure_51 : decode cX0_sure 51 = .ok (.ldiv, 1) := by decide +kernel
theorem dX0_sure_52 : decode cX0_sure 52 = .ok (.lload_n 2, 1) := by decide +kernel
theorem dX0_sure_53 : decode cX0_sure 53 = .ok (.lmul, 1) := by decide +kernel
theorem dX0_sure_54 : decode cX0_sure 54 = .ok (.lastore, 1) := by decide +kernel
theorem dX0_sure_55 : decode cX0_sure 55 = .ok (.aload_n 0, 1) := by decide +kernel
theorem dX0_sure_56 : decode cX0_sure 56 = .ok (.getfield 28, 3) := by decide +kernel
theorem dX0_sure_59 : decode cX0_sure 59 = .ok (.iconst 0, 1) := by decide +kernel
theorem dX0_sure_60 : decode cX0_sure 60 = .ok (.putfield 54, 3) := by decide +kernel
theorem dX0_sure_63 : decode cX0_sure 63 = .ok (.iconst 1, 1) := by decide +kernel
theorem dX0_sure_64 : decode cX0_sure 64 = .ok (.ireturn, 1) := by decide +kernel
theorem dX0_states_0 : decode cX0_states 0 = .ok (.aload_n 0, 1) := by decide +kernel
theorem dX0_states_1 : decode cX0_states 1 = .ok (.getfield 12, 3) := by decide +kernel
theorem dX0_states_4 : decode cX0_states 4 = .ok (.invokevirtual 109, 3) := by decide +kernel
theorem dX0_states_7 : decode cX0_states 7 = .ok (.lreturn, 1) := by decide +kernel
theorem dJI_bitCount_0 : decode cJI_bitCount 0 = .ok (.iload_n 0, 1) := by decide +kernel
theorem dJI_bitCount_1 : decode cJI_bitCount 1 = .ok (.iload_n 0, 1) := by decide +kernel
theorem dJI_bitCount_2 : decode cJI_bitCount 2 = .ok (.iconst 1, 1) := by decide +kernel
theorem dJI_bitCount_3 : decode cJI_bitCount 3 = .ok (.iushr, 1) := by decide +kernel
theorem dJI_bitCount_4 : decode cJI_bitCount 4 = .ok (.ldc_w 265, 3) := by decide +kernel
theorem dJI_bitCount_7 : decode cJI_bitCount 7 = .ok (.iand, 1) := by decide +kernel
theorem dJI_bitCount_8 : decode cJI_bitCount 8 = .ok (.isub, 1) := by decide +kernel
theorem dJI_bitCount_9 : decode cJI_bitCount 9 = .ok (.istore_n 0, 1) := by decide +kernel
theorem dJI_bitCount_10 : decode cJI_bitCount 10 = .ok (.iload_n 0, 1) := by decide +kernel
theorem dJI_bitCount_11 : decode cJI_bitCount 11 = .ok (.ldc_w 266, 3) := by decide +kernel
theorem dJI_bitCount_14 : decode cJI_bitCount 14 = .ok (.iand, 1) := by decide +kernel
theorem dJI_bitCount_15 : decode cJI_bitCount 15 = .ok (.iload_n 0, 1) := by decide +kernel
theorem dJI_bitCount_16 : decode cJI_bitCount 16 = .ok (.iconst 2, 1) := by decide +kernel
theorem dJI_bitCount_17 : decode cJI_bitCount 17 = .ok (.iushr, 1) := by decide +kernel
theorem dJI_bitCount_18 : decode cJI_bitCount 18 = .ok (.ldc_w 266, 3) := by decide +kernel
theorem dJI_bitCount_21 : decode cJI_bitCount 21 = .ok (.iand, 1) := by decide +kernel
theorem dJI_bitCount_22 : decode cJI_bitCount 22 = .ok (.iadd, 1) := by decide +kernel
theorem dJI_bitCount_23 : decode cJI_bitCount 23 = .ok (.istore_n 0, 1) := by decide +kernel
theorem dJI_bitCount_24 : decode cJI_bitCount 24 = .ok (.iload_n 0, 1) := by decide +kernel
theorem dJI_bitCount_25 : decode cJI_bitCount 25 = .ok (.iload_n 0, 1) := by decide +kernel
theorem dJI_bitCount_26 : decode cJI_bitCount 26 = .ok (.iconst 4, 1) := by decide +kernel
theorem dJI_bitCount_27 : decode cJI_bitCount 27 = .ok (.iushr, 1) := by decide +kernel
theorem dJI_bitCount_28 : decode cJI_bitCount 28 = .ok (.iadd, 1) := by decide +kernel
theorem dJI_bitCount_29 : decode cJI_bitCount 29 = .ok (.ldc_w 267, 3) := by decide +kernel
theorem dJI_bitCount_32 : decode cJI_bitCount 32 = .ok (.iand, 1) := by decide +kernel
theorem dJI_bitCount_33 : decode cJI_bitCount 33 = .ok (.istore_n 0, 1) := by decide +kernel
theorem dJI_bitCount_34 : decode cJI_bitCount 34 = .ok (.iload_n 0, 1) := by decide +kernel
theorem dJI_bitCount_35 : decode cJI_bitCount 35 = .ok (.iload_n 0, 1) := by decide +kernel
theorem dJI_bitCount_36 : decode cJI_bitCount 36 = .ok (.bipush 8, 2) := by decide +kernel
theorem dJI_bitCount_38 : decode cJI_bitCount 38 = .ok (.iushr, 1) := by decide +kernel
theorem dJI_bitCount_39 : decode cJI_bitCount 39 = .ok (.iadd, 1) := by decide +kernel
theorem dJI_bitCount_40 : decode cJI_bitCount 40 = .ok (.istore_n 0, 1) := by decide +kernel
theorem dJI_bitCount_41 : decode cJI_bitCount 41 = .ok (.iload_n 0, 1) := by decide +kernel
theorem dJI_bitCount_42 : decode cJI_bitCount 42 = .ok (.iload_n 0, 1) := by decide +kernel
theorem dJI_bitCount_43 : decode cJI_bitCount 43 = .ok (.bipush 16, 2) := by decide +kernel
theorem dJI_bitCount_45 : decode cJI_bitCount 45 = .ok (.iushr, 1) := by decide +kernel
theorem dJI_bitCount_46 : decode cJI_bitCount 46 = .ok (.iadd, 1) := by decide +kernel
theorem dJI_bitCount_47 : decode cJI_bitCount 47 = .ok (.istore_n 0, 1) := by decide +kernel
theorem dJI_bitCount_48 : decode cJI_bitCount 48 = .ok (.iload_n 0, 1) := by decide +kernel
theorem dJI_bitCount_49 : decode cJI_bitCount 49 = .ok (.bipush 63, 2) := by decide +kernel
theorem dJI_bitCount_51 : decode cJI_bitCount 51 = .ok (.iand, 1) := by decide +kernel
theorem dJI_bitCount_52 : decode cJI_bitCount 52 = .ok (.ireturn, 1) := by decide +kernel
theorem dX0_run_0 : decode cX0_run 0 = .ok (.aload_n 0, 1) := by decide +kernel
theorem dX0_run_1 : decode cX0_run 1 = .ok (.getfield 12, 3) := by decide +kernel
theorem dX0_run_4 : decode cX0_run 4 = .ok (.invokevirtual 109, 3) := by decide +kernel
theorem dX0_run_7 : decode cX0_run 7 = .ok (.lload_n 1, 1) := by decide +kernel
theorem dX0_run_8 : decode cX0_run 8 = .ok (.lcmp, 1) := by decide +kernel
theorem dX0_run_9 : decode cX0_run 9 = .ok (.ifCond .le 5, 3) := by decide +kernel
theorem dX0_run_12 : decode cX0_run 12 = .ok (.iconst (-1), 1) := by decide +kernel
theorem dX0_run_13 : decode cX0_run 13 = .ok (.ireturn, 1) := by decide +kernel
theorem dX0_run_14 : decode cX0_run 14 = .ok (.aload_n 0, 1) := by decide +kernel
theorem dX0_run_15 : decode cX0_run 15 = .ok (.getfield 21, 3) := by decide +kernel
theorem dX0_run_18 : decode cX0_run 18 = .ok (.invokevirtual 113, 3) := by decide +kernel
theorem dX0_run_21 : decode cX0_run 21 = .ok (.aload_n 0, 1) := by decide +kernel
theorem dX0_run_22 : decode cX0_run 22 = .ok (.getfield 28, 3) := by decide +kernel
theorem dX0_run_25 : decode cX0_run 25 = .ok (.aload_n 0, 1) := by decide +kernel
theorem dX0_run_26 : decode cX0_run 26 = .ok (.getfield 21, 3) := by decide +kernel
theorem dX0_run_29 : decode cX0_run 29 = .ok (.invokevirtual 116, 3) := by decide +kernel
theorem dX0_run_32 : decode cX0_run 32 = .ok (.putfield 119, 3) := by decide +kernel
theorem dX0_run_35 : decode cX0_run 35 = .ok (.aload_n 0, 1) := by decide +kernel
theorem dX0_run_36 : decode cX0_run 36 = .ok (.getfield 28, 3) := by decide +kernel
theorem dX0_run_39 : decode cX0_run 39 = .ok (.aload_n 0, 1) := by decide +kernel
theorem dX0_run_40 : decode cX0_run 40 = .ok (.getfield 21, 3) := by decide +kernel
theorem dX0_run_43 : decode cX0_run 43 = .ok (.invokevirtual 123, 3) := by decide +kernel
theorem dX0_run_46 : decode cX0_run 46 = .ok (.aload_n 0, 1) := by decide +kernel
theorem dX0_run_47 : decode cX0_run 47 = .ok (.getfield 28, 3) := by decide +kernel
theorem dX0_run_50 : decode cX0_run 50 = .ok (.getfield 127, 3) := by decide +kernel
theorem dX0_run_53 : decode cX0_run 53 = .ok (.ireturn, 1) := by decide +kernel
theorem dX0_step_0 : decode cX0_step 0 = .ok (.iload_n 1, 1) := by decide +kernel
theorem dX0_step_1 : decode cX0_step 1 = .ok (.ifCond .lt 26, 3) := by decide +kernel
theorem dX0_step_4 : decode cX0_step 4 = .ok (.iload_n 1, 1) := by decide +kernel
theorem dX0_step_5 : decode cX0_step 5 = .ok (.aload_n 0, 1) := by decide +kernel
theorem dX0_step_6 : decode cX0_step 6 = .ok (.getfield 28, 3) := by decide +kernel
theorem dX0_step_9 : decode cX0_step 9 = .ok (.getfield 127, 3) := by decide +kernel
theorem dX0_step_12 : decode cX0_step 12 = .ok (.if_icmp .ge 15, 3) := by decide +kernel
theorem dX0_step_15 : decode cX0_step 15 = .ok (.aload_n 0, 1) := by decide +kernel
theorem dX0_step_16 : decode cX0_step 16 = .ok (.getfield 28, 3) := by decide +kernel
theorem dX0_step_19 : decode cX0_step 19 = .ok (.getfield 130, 3) := by decide +kernel
theorem dX0_step_22 : decode cX0_step 22 = .ok (.iload_n 1, 1) := by decide +kernel
theorem dX0_step_23 : decode cX0_step 23 = .ok (.iaload, 1) := by decide +kernel
theorem dX0_step_24 : decode cX0_step 24 = .ok (.goto 4, 3) := by decide +kernel
theorem dX0_step_27 : decode cX0_step 27 = .ok (.iconst (-1), 1) := by decide +kernel
theorem dX0_step_28 : decode cX0_step 28 = .ok (.ireturn, 1) := by decide +kernel
theorem dX0_stops_0 : decode cX0_stops 0 = .ok (.aload_n 0, 1) := by decide +kernel
theorem dX0_stops_1 : decode cX0_stops 1 = .ok (.getfield 28, 3) := by decide +kernel
theorem dX0_stops_4 : decode cX0_stops 4 = .ok (.getfield 133, 3) := by decide +kernel
theorem dX0_stops_7 : decode cX0_stops 7 = .ok (.ifCond .eq 23, 3) := by decide +kernel
theorem dX0_stops_10 : decode cX0_stops 10 = .ok (.sipush 4095, 3) := by decide +kernel
theorem dX0_stops_13 : decode cX0_stops 13 = .ok (.aload_n 0, 1) := by decide +kernel
theorem dX0_stops_14 : decode cX0_stops 14 = .ok (.getfield 28, 3) := by decide +kernel
theorem dX0_stops_17 : decode cX0_stops 17 = .ok (.getfield 136, 3) := by decide +kernel
theorem dX0_stops_20 : decode cX0_stops 20 = .ok (.iconst (-1), 1) := by decide +kernel
theorem dX0_stops_21 : decode cX0_stops 21 = .ok (.ixor, 1) := by decide +kernel
theorem dX0_stops_22 : decode cX0_stops 22 = .ok (.iand, 1) := by decide +kernel
theorem dX0_stops_23 : decode cX0_stops 23 = .ok (.iload_n 1, 1) := by decide +kernel
theorem dX0_stops_24 : decode cX0_stops 24 = .ok (.invokestatic 139, 3) := by decide +kernel
theorem dX0_stops_27 : decode cX0_stops 27 = .ok (.goto 4, 3) := by decide +kernel
theorem dX0_stops_30 : decode cX0_stops 30 = .ok (.iconst (-1), 1) := by decide +kernel
theorem dX0_stops_31 : decode cX0_stops 31 = .ok (.ireturn, 1) := by decide +kernel
theorem dX0_member_0 : decode cX0_member 0 = .ok (.iconst 0, 1) := by decide +kernel
theorem dX0_member_1 : decode cX0_member 1 = .ok (.istore_n 2, 1) := by decide +kernel
theorem dX0_member_2 : decode cX0_member 2 = .ok (.iconst 0, 1) := by decide +kernel
theorem dX0_member_3 : decode cX0_member 3 = .ok (.istore_n 3, 1) := by decide +kernel
theorem dX0_member_4 : decode cX0_member 4 = .ok (.iload_n 3, 1) := by decide +kernel
theorem dX0_member_5 : decode cX0_member 5 = .ok (.bipush 12, 2) := by decide +kernel
theorem dX0_member_7 : decode cX0_member 7 = .ok (.if_icmp .ge 27, 3) := by decide +kernel
theorem dX0_member_10 : decode cX0_member 10 = .ok (.iload_n 0, 1) := by decide +kernel
theorem dX0_member_11 : decode cX0_member 11 = .ok (.iload_n 3, 1) := by decide +kernel
theorem dX0_member_12 : decode cX0_member 12 = .ok (.invokestatic 69, 3) := by decide +kernel
theorem dX0_member_15 : decode cX0_member 15 = .ok (.ifCond .eq 13, 3) := by decide +kernel
theorem dX0_member_18 : decode cX0_member 18 = .ok (.iload_n 2, 1) := by decide +kernel
theorem dX0_member_19 : decode cX0_member 19 = .ok (.iload_n 1, 1) := by decide +kernel
theorem dX0_member_20 : decode cX0_member 20 = .ok (.if_icmp .ne 5, 3) := by decide +kernel
theorem dX0_member_23 : decode cX0_member 23 = .ok (.iload_n 3, 1) := by decide +kernel
theorem dX0_member_24 : decode cX0_member 24 = .ok (.ireturn, 1) := by decide +kernel
theorem dX0_member_25 : decode cX0_member 25 = .ok (.iinc 2 1, 3) := by decide +kernel
theorem dX0_member_28 : decode cX0_member 28 = .ok (.iinc 3 1, 3) := by decide +kernel
theorem dX0_member_31 : decode cX0_member 31 = .ok (.goto (-27), 3) := by decide +kernel
theorem dX0_member_34 : decode cX0_member 34 = .ok (.iconst (-1), 1) := by decide +kernel
theorem dX0_member_35 : decode cX0_member 35 = .ok (.ireturn, 1) := by decide +kernel
theorem dX0_other_0 : decode cX0_other 0 = .ok (.aload_n 0, 1) := by decide +kernel
theorem dX0_other_1 : decode cX0_other 1 = .ok (.getfield 28, 3) := by decide +kernel
theorem dX0_other_4 : decode cX0_other 4 = .ok (.getfield 133, 3) := by decide +kernel
theorem dX0_other_7 : decode cX0_other 7 = .ok (.ifCond .eq 27, 3) := by decide +kernel
theorem dX0_other_10 : decode cX0_other 10 = .ok (.aload_n 0, 1) := by decide +kernel
theorem dX0_other_11 : decode cX0_other 11 = .ok (.getfield 12, 3) := by decide +kernel
theorem dX0_other_14 : decode cX0_other 14 = .ok (.invokevirtual 143, 3) := by decide +kernel
theorem dX0_other_17 : decode cX0_other 17 = .ok (.aload_n 0, 1) := by decide +kernel
theorem dX0_other_18 : decode cX0_other 18 = .ok (.getfield 28, 3) := by decide +kernel
theorem dX0_other_21 : decode cX0_other 21 = .ok (.getfield 147, 3) := by decide +kernel
theorem dX0_other_24 : decode cX0_other 24 = .ok (.iconst (-1), 1) := by decide +kernel
theorem dX0_other_25 : decode cX0_other 25 = .ok (.ixor, 1) := by decide +kernel
theorem dX0_other_26 : decode cX0_other 26 = .ok (.iand, 1) := by decide +kernel
theorem dX0_other_27 : decode cX0_other 27 = .ok (.iload_n 1, 1) := by decide +kernel
theorem dX0_other_28 : decode cX0_other 28 = .ok (.invokestatic 139, 3) := by decide +kernel
theorem dX0_other_31 : decode cX0_other 31 = .ok (.goto 4, 3) := by decide +kernel
theorem dX0_other_34 : decode cX0_other 34 = .ok (.iconst (-1), 1) := by decide +kernel
theorem dX0_other_35 : decode cX0_other 35 = .ok (.ireturn, 1) := by decide +kernel
theorem dX0_gain_0 : decode cX0_gain 0 = .ok (.iload_n 1, 1) := by decide +kernel
theorem dX0_gain_1 : decode cX0_gain 1 = .ok (.iconst (-1), 1) := by decide +kernel
theorem dX0_gain_2 : decode cX0_gain 2 = .ok (.if_icmp .ne 11, 3) := by decide +kernel
theorem dX0_gain_5 : decode cX0_gain 5 = .ok (.aload_n 0, 1) := by decide +kernel
theorem dX0_gain_6 : decode cX0_gain 6 = .ok (.getfield 28, 3) := by decide +kernel
theorem dX0_gain_9 : decode cX0_gain 9 = .ok (.getfield 119, 3) := by decide +kernel
theorem dX0_gain_12 : decode cX0_gain 12 = .ok (.lreturn, 1) := by decide +kernel
theorem dX0_gain_13 : decode cX0_gain 13 = .ok (.iload_n 1, 1) := by decide +kernel
theorem dX0_gain_14 : decode cX0_gain 14 = .ok (.invokestatic 39, 3) := by decide +kernel
theorem dX0_gain_17 : decode cX0_gain 17 = .ok (.ifCond .eq 15, 3) := by decide +kernel
theorem dX0_gain_20 : decode cX0_gain 20 = .ok (.aload_n 0, 1) := by decide +kernel
theorem dX0_gain_21 : decode cX0_gain 21 = .ok (.getfield 28, 3) := by decide +kernel
theorem dX0_gain_24 : decode cX0_gain 24 = .ok (.getfield 150, 3) := by decide +kernel
theorem dX0_gain_27 : decode cX0_gain 27 = .ok (.iload_n 1, 1) := by decide +kernel
theorem dX0_gain_28 : decode cX0_gain 28 = .ok (.laload, 1) := by decide +kernel
theorem dX0_gain_29 : decode cX0_gain 29 = .ok (.goto 4, 3) := by decide +kernel
theorem dX0_gain_32 : decode cX0_gain 32 = .ok (.lconst 0, 1) := by decide +kernel
theorem dX0_gain_33 : decode cX0_gain 33 = .ok (.lreturn, 1) := by decide +kernel
theorem dX0_proved_0 : decode cX0_proved 0 = .ok (.aload_n 0, 1) := by decide +kernel
theorem dX0_proved_1 : decode cX0_proved 1 = .ok (.getfield 28, 3) := by decide +kernel
theorem dX0_proved_4 : decode cX0_proved 4 = .ok (.getfield 133, 3) := by decide +kernel
theorem dX0_proved_7 : decode cX0_proved 7 = .ok (.ifCond .eq 17, 3) := by decide +kernel
theorem dX0_proved_10 : decode cX0_proved 10 = .ok (.aload_n 0, 1) := by decide +kernel
theorem dX0_proved_11 : decode cX0_proved 11 = .ok (.getfield 28, 3) := by decide +kernel
theorem dX0_proved_14 : decode cX0_proved 14 = .ok (.getfield 54, 3) := by decide +kernel
theorem dX0_proved_17 : decode cX0_proved 17 = .ok (.ifCond .eq 7, 3) := by decide +kernel
theorem dX0_proved_20 : decode cX0_proved 20 = .ok (.iconst 1, 1) := by decide +kernel
theorem dX0_proved_21 : decode cX0_proved 21 = .ok (.goto 4, 3) := by decide +kernel
theorem dX0_proved_24 : decode cX0_proved 24 = .ok (.iconst 0, 1) := by decide +kernel
theorem dX0_proved_25 : decode cX0_proved 25 = .ok (.ireturn, 1) := by decide +kernel
theorem dX0_bound_0 : decode cX0_bound 0 = .ok (.lconst 0, 1) := by decide +kernel
theorem dX0_bound_1 : decode cX0_bound 1 = .ok (.lstore_n 1, 1) := by decide +kernel
theorem dX0_bound_2 : decode cX0_bound 2 = .ok (.iconst 0, 1) := by decide +kernel
theorem dX0_bound_3 : decode cX0_bound 3 = .ok (.istore_n 3, 1) := by decide +kernel
theorem dX0_bound_4 : decode cX0_bound 4 = .ok (.iload_n 3, 1) := by decide +kernel
theorem dX0_bound_5 : decode cX0_bound 5 = .ok (.aload_n 0, 1) := by decide +kernel
theorem dX0_bound_6 : decode cX0_bound 6 = .ok (.getfield 12, 3) := by decide +kernel
theorem dX0_bound_9 : decode cX0_bound 9 = .ok (.getfield 153, 3) := by decide +kernel
theorem dX0_bound_12 : decode cX0_bound 12 = .ok (.if_icmp .ge 27, 3) := by decide +kernel
theorem dX0_bound_15 : decode cX0_bound 15 = .ok (.lload_n 1, 1) := by decide +kernel
theorem dX0_bound_16 : decode cX0_bound 16 = .ok (.aload_n 0, 1) := by decide +kernel
theorem dX0_bound_17 : decode cX0_bound 17 = .ok (.getfield 12, 3) := by decide +kernel
theorem dX0_bound_20 : decode cX0_bound 20 = .ok (.getfield 156, 3) := by decide +kernel
theorem dX0_bound_23 : decode cX0_bound 23 = .ok (.iload_n 3, 1) := by decide +kernel
theorem dX0_bound_24 : decode cX0_bound 24 = .ok (.laload, 1) := by decide +kernel
theorem dX0_bound_25 : decode cX0_bound 25 = .ok (.ldc2_w 107, 3) := by decide +kernel
theorem dX0_bound_28 : decode cX0_bound 28 = .ok (.lmul, 1) := by decide +kernel
theorem dX0_bound_29 : decode cX0_bound 29 = .ok (.invokestatic 159, 3) := by decide +kernel
theorem dX0_bound_32 : decode cX0_bound 32 = .ok (.lstore_n 1, 1) := by decide +kernel
theorem dX0_bound_33 : decode cX0_bound 33 = .ok (.iinc 3 1, 3) := by decide +kernel
theorem dX0_bound_36 : decode cX0_bound 36 = .ok (.goto (-32), 3) := by decide +kernel
theorem dX0_bound_39 : decode cX0_bound 39 = .ok (.iconst 0, 1) := by decide +kernel
theorem dX0_bound_40 : decode cX0_bound 40 = .ok (.istore_n 3, 1) := by decide +kernel
theorem dX0_bound_41 : decode cX0_bound 41 = .ok (.iload_n 3, 1) := by decide +kernel
theorem dX0_bound_42 : decode cX0_bound 42 = .ok (.bipush 12, 2) := by decide +kernel
theorem dX0_bound_44 : decode cX0_bound 44 = .ok (.if_icmp .ge 24, 3) := by decide +kernel
theorem dX0_bound_47 : decode cX0_bound 47 = .ok (.lload_n 1, 1) := by decide +kernel
theorem dX0_bound_48 : decode cX0_bound 48 = .ok (.lconst 0, 1) := by decide +kernel
theorem dX0_bound_49 : decode cX0_bound 49 = .ok (.aload_n 0, 1) := by decide +kernel
theorem dX0_bound_50 : decode cX0_bound 50 = .ok (.getfield 12, 3) := by decide +kernel
theorem dX0_bound_53 : decode cX0_bound 53 = .ok (.iload_n 3, 1) := by decide +kernel
theorem dX0_bound_54 : decode cX0_bound 54 = .ok (.invokevirtual 165, 3) := by decide +kernel
theorem dX0_bound_57 : decode cX0_bound 57 = .ok (.invokestatic 159, 3) := by decide +kernel
theorem dX0_bound_60 : decode cX0_bound 60 = .ok (.ladd, 1) := by decide +kernel
theorem dX0_bound_61 : decode cX0_bound 61 = .ok (.lstore_n 1, 1) := by decide +kernel
theorem dX0_bound_62 : decode cX0_bound 62 = .ok (.iinc 3 1, 3) := by decide +kernel
theorem dX0_bound_65 : decode cX0_bound 65 = .ok (.goto (-24), 3) := by decide +kernel
theorem dX0_bound_68 : decode cX0_bound 68 = .ok (.lload_n 1, 1) := by decide +kernel
theorem dX0_bound_69 : decode cX0_bound 69 = .ok (.lreturn, 1) := by decide +kernel
theorem dX0_test_0 : decode cX0_test 0 = .ok (.iload_n 1, 1) := by decide +kernel
theorem dX0_test_1 : decode cX0_test 1 = .ok (.invokestatic 39, 3) := by decide +kernel
theorem dX0_test_4 : decode cX0_test 4 = .ok (.ifCond .eq 10, 3) := by decide +kernel
theorem dX0_test_7 : decode cX0_test 7 = .ok (.lload_n 2, 1) := by decide +kernel
theorem dX0_test_8 : decode cX0_test 8 = .ok (.invokestatic 50, 3) := by decide +kernel
theorem dX0_test_11 : decode cX0_test 11 = .ok (.ifCond .ne 5, 3) := by decide +kernel
theorem dX0_test_14 : decode cX0_test 14 = .ok (.iconst (-1), 1) := by decide +kernel
theorem dX0_test_15 : decode cX0_test 15 = .ok (.ireturn, 1) := by decide +kernel
theorem dX0_test_16 : decode cX0_test 16 = .ok (.aload_n 0, 1) := by decide +kernel
theorem dX0_test_17 : decode cX0_test 17 = .ok (.getfield 21, 3) := by decide +kernel
theorem dX0_test_20 : decode cX0_test 20 = .ok (.invokevirtual 113, 3) := by decide +kernel
theorem dX0_test_23 : decode cX0_test 23 = .ok (.aload_n 0, 1) := by decide +kernel
theorem dX0_test_24 : decode cX0_test 24 = .ok (.getfield 21, 3) := by decide +kernel
theorem dX0_test_27 : decode cX0_test 27 = .ok (.invokevirtual 116, 3) := by decide +kernel
theorem dX0_test_30 : decode cX0_test 30 = .ok (.lstore 4, 2) := by decide +kernel
theorem dX0_test_32 : decode cX0_test 32 = .ok (.aload_n 0, 1) := by decide +kernel
theorem dX0_test_33 : decode cX0_test 33 = .ok (.getfield 21, 3) := by decide +kernel
theorem dX0_test_36 : decode cX0_test 36 = .ok (.iload_n 1, 1) := by decide +kernel
theorem dX0_test_37 : decode cX0_test 37 = .ok (.ldc2_w 107, 3) := by decide +kernel
theorem dX0_test_40 : decode cX0_test 40 = .ok (.invokevirtual 169, 3) := by decide +kernel
theorem dX0_test_43 : decode cX0_test 43 = .ok (.aload_n 0, 1) := by decide +kernel
theorem dX0_test_44 : decode cX0_test 44 = .ok (.getfield 21, 3) := by decide +kernel
theorem dX0_test_47 : decode cX0_test 47 = .ok (.invokevirtual 116, 3) := by decide +kernel
theorem dX0_test_50 : decode cX0_test 50 = .ok (.lstore 6, 2) := by decide +kernel
theorem dX0_test_52 : decode cX0_test 52 = .ok (.aload_n 0, 1) := by decide +kernel
theorem dX0_test_53 : decode cX0_test 53 = .ok (.getfield 21, 3) := by decide +kernel
theorem dX0_test_56 : decode cX0_test 56 = .ok (.iload_n 1, 1) := by decide +kernel
theorem dX0_test_57 : decode cX0_test 57 = .ok (.lconst 0, 1) := by decide +kernel
theorem dX0_test_58 : decode cX0_test 58 = .ok (.invokevirtual 169, 3) := by decide +kernel
theorem dX0_test_61 : decode cX0_test 61 = .ok (.aload_n 0, 1) := by decide +kernel
theorem dX0_test_62 : decode cX0_test 62 = .ok (.getfield 21, 3) := by decide +kernel
theorem dX0_test_65 : decode cX0_test 65 = .ok (.invokevirtual 116, 3) := by decide +kernel
theorem dX0_test_68 : decode cX0_test 68 = .ok (.lstore 8, 2) := by decide +kernel
theorem dX0_test_70 : decode cX0_test 70 = .ok (.aload_n 0, 1) := by decide +kernel
theorem dX0_test_71 : decode cX0_test 71 = .ok (.getfield 12, 3) := by decide +kernel
theorem dX0_test_74 : decode cX0_test 74 = .ok (.getfield 104, 3) := by decide +kernel
theorem dX0_test_77 : decode cX0_test 77 = .ok (.iload_n 1, 1) := by decide +kernel
theorem dX0_test_78 : decode cX0_test 78 = .ok (.laload, 1) := by decide +kernel
theorem dX0_test_79 : decode cX0_test 79 = .ok (.lstore 10, 2) := by decide +kernel
theorem dX0_test_81 : decode cX0_test 81 = .ok (.lload 10, 2) := by decide +kernel
theorem dX0_test_83 : decode cX0_test 83 = .ok (.lload 6, 2) := by decide +kernel
theorem dX0_test_85 : decode cX0_test 85 = .ok (.lmul, 1) := by decide +kernel
theorem dX0_test_86 : decode cX0_test 86 = .ok (.ldc2_w 107, 3) := by decide +kernel
theorem dX0_test_89 : decode cX0_test 89 = .ok (.lload 10, 2) := by decide +kernel
theorem dX0_test_91 : decode cX0_test 91 = .ok (.lsub, 1) := by decide +kernel
theorem dX0_test_92 : decode cX0_test 92 = .ok (.lload 8, 2) := by decide +kernel
theorem dX0_test_94 : decode cX0_test 94 = .ok (.lmul, 1) := by decide +kernel
theorem dX0_test_95 : decode cX0_test 95 = .ok (.ladd, 1) := by decide +kernel
theorem dX0_test_96 : decode cX0_test 96 = .ok (.lload_n 2, 1) := by decide +kernel
theorem dX0_test_97 : decode cX0_test 97 = .ok (.ldc2_w 107, 3) := by decide +kernel
theorem dX0_test_100 : decode cX0_test 100 = .ok (.lmul, 1) := by decide +kernel
theorem dX0_test_101 : decode cX0_test 101 = .ok (.ldc2_w 107, 3) := by decide +kernel
theorem dX0_test_104 : decode cX0_test 104 = .ok (.lmul, 1) := by decide +kernel
theorem dX0_test_105 : decode cX0_test 105 = .ok (.lsub, 1) := by decide +kernel
theorem dX0_test_106 : decode cX0_test 106 = .ok (.lstore 12, 2) := by decide +kernel
theorem dX0_test_108 : decode cX0_test 108 = .ok (.lload 12, 2) := by decide +kernel
theorem dX0_test_110 : decode cX0_test 110 = .ok (.lload 4, 2) := by decide +kernel
theorem dX0_test_112 : decode cX0_test 112 = .ok (.ldc2_w 107, 3) := by decide +kernel
theorem dX0_test_115 : decode cX0_test 115 = .ok (.lmul, 1) := by decide +kernel
theorem dX0_test_116 : decode cX0_test 116 = .ok (.lcmp, 1) := by decide +kernel
theorem dX0_test_117 : decode cX0_test 117 = .ok (.ifCond .le 7, 3) := by decide +kernel
theorem dX0_test_120 : decode cX0_test 120 = .ok (.iconst 1, 1) := by decide +kernel
theorem dX0_test_121 : decode cX0_test 121 = .ok (.goto 4, 3) := by decide +kernel
theorem dX0_test_124 : decode cX0_test 124 = .ok (.iconst 0, 1) := by decide +kernel
theorem dX0_test_125 : decode cX0_test 125 = .ok (.ireturn, 1) := by decide +kernel
theorem dX0_stations_0 : decode cX0_stations 0 = .ok (.aload_n 0, 1) := by decide +kernel
theorem dX0_stations_1 : decode cX0_stations 1 = .ok (.getfield 28, 3) := by decide +kernel
theorem dX0_stations_4 : decode cX0_stations 4 = .ok (.getfield 133, 3) := by decide +kernel
theorem dX0_stations_7 : decode cX0_stations 7 = .ok (.ifCond .eq 13, 3) := by decide +kernel
theorem dX0_stations_10 : decode cX0_stations 10 = .ok (.iload_n 1, 1) := by decide +kernel
theorem dX0_stations_11 : decode cX0_stations 11 = .ok (.iconst 1, 1) := by decide +kernel
theorem dX0_stations_12 : decode cX0_stations 12 = .ok (.if_icmp .lt 8, 3) := by decide +kernel
theorem dX0_stations_15 : decode cX0_stations 15 = .ok (.iload_n 1, 1) := by decide +kernel
theorem dX0_stations_16 : decode cX0_stations 16 = .ok (.iconst 4, 1) := by decide +kernel
theorem dX0_stations_17 : decode cX0_stations 17 = .ok (.if_icmp .le 5, 3) := by decide +kernel
theorem dX0_stations_20 : decode cX0_stations 20 = .ok (.iconst (-1), 1) := by decide +kernel
theorem dX0_stations_21 : decode cX0_stations 21 = .ok (.ireturn, 1) := by decide +kernel
theorem dX0_stations_22 : decode cX0_stations 22 = .ok (.aload_n 0, 1) := by decide +kernel
theorem dX0_stations_23 : decode cX0_stations 23 = .ok (.getfield 35, 3) := by decide +kernel
theorem dX0_stations_26 : decode cX0_stations 26 = .ok (.aload_n 0, 1) := by decide +kernel
theorem dX0_stations_27 : decode cX0_stations 27 = .ok (.getfield 28, 3) := by decide +kernel
theorem dX0_stations_30 : decode cX0_stations 30 = .ok (.getfield 147, 3) := by decide +kernel
theorem dX0_stations_33 : decode cX0_stations 33 = .ok (.iload_n 1, 1) := by decide +kernel
theorem dX0_stations_34 : decode cX0_stations 34 = .ok (.invokevirtual 173, 3) := by decide +kernel
theorem dX0_stations_37 : decode cX0_stations 37 = .ok (.l2i, 1) := by decide +kernel
theorem dX0_stations_38 : decode cX0_stations 38 = .ok (.ireturn, 1) := by decide +kernel
theorem dX0_station_0 : decode cX0_station 0 = .ok (.iload_n 1, 1) := by decide +kernel
theorem dX0_station_1 : decode cX0_station 1 = .ok (.ifCond .lt 21, 3) := by decide +kernel
theorem dX0_station_4 : decode cX0_station 4 = .ok (.iload_n 1, 1) := by decide +kernel
theorem dX0_station_5 : decode cX0_station 5 = .ok (.bipush 10, 2) := by decide +kernel
theorem dX0_station_7 : decode cX0_station 7 = .ok (.if_icmp .ge 15, 3) := by decide +kernel
theorem dX0_station_10 : decode cX0_station 10 = .ok (.aload_n 0, 1) := by decide +kernel
theorem dX0_station_11 : decode cX0_station 11 = .ok (.getfield 35, 3) := by decide +kernel
theorem dX0_station_14 : decode cX0_station 14 = .ok (.getfield 177, 3) := by decide +kernel
theorem dX0_station_17 : decode cX0_station 17 = .ok (.iload_n 1, 1) := by decide +kernel
theorem dX0_station_18 : decode cX0_station 18 = .ok (.iaload, 1) := by decide +kernel
theorem dX0_station_19 : decode cX0_station 19 = .ok (.goto 4, 3) := by decide +kernel
theorem dX0_station_22 : decode cX0_station 22 = .ok (.iconst (-1), 1) := by decide +kernel
theorem dX0_station_23 : decode cX0_station 23 = .ok (.ireturn, 1) := by decide +kernel
