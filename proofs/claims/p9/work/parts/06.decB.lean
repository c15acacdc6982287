theorem dX1_init_0 : decode cX1_init 0 = .ok (.aload_n 0, 1) := by decide +kernel
theorem dX1_init_1 : decode cX1_init 1 = .ok (.invokespecial 3, 3) := by decide +kernel
theorem dX1_init_4 : decode cX1_init 4 = .ok (.aload_n 0, 1) := by decide +kernel
theorem dX1_init_5 : decode cX1_init 5 = .ok (.bipush 10, 2) := by decide +kernel
theorem dX1_init_7 : decode cX1_init 7 = .ok (.newarray .int, 2) := by decide +kernel
theorem dX1_init_9 : decode cX1_init 9 = .ok (.putfield 9, 3) := by decide +kernel
theorem dX1_init_12 : decode cX1_init 12 = .ok (.aload_n 0, 1) := by decide +kernel
theorem dX1_init_13 : decode cX1_init 13 = .ok (.bipush 10, 2) := by decide +kernel
theorem dX1_init_15 : decode cX1_init 15 = .ok (.newarray .int, 2) := by decide +kernel
theorem dX1_init_17 : decode cX1_init 17 = .ok (.putfield 15, 3) := by decide +kernel
theorem dX1_init_20 : decode cX1_init 20 = .ok (.aload_n 0, 1) := by decide +kernel
theorem dX1_init_21 : decode cX1_init 21 = .ok (.bipush 10, 2) := by decide +kernel
theorem dX1_init_23 : decode cX1_init 23 = .ok (.newarray .int, 2) := by decide +kernel
theorem dX1_init_25 : decode cX1_init 25 = .ok (.putfield 18, 3) := by decide +kernel
theorem dX1_init_28 : decode cX1_init 28 = .ok (.aload_n 0, 1) := by decide +kernel
theorem dX1_init_29 : decode cX1_init 29 = .ok (.bipush 10, 2) := by decide +kernel
theorem dX1_init_31 : decode cX1_init 31 = .ok (.newarray .long, 2) := by decide +kernel
theorem dX1_init_33 : decode cX1_init 33 = .ok (.putfield 21, 3) := by decide +kernel
theorem dX1_init_36 : decode cX1_init 36 = .ok (.aload_n 0, 1) := by decide +kernel
theorem dX1_init_37 : decode cX1_init 37 = .ok (.bipush 10, 2) := by decide +kernel
theorem dX1_init_39 : decode cX1_init 39 = .ok (.newarray .int, 2) := by decide +kernel
theorem dX1_init_41 : decode cX1_init 41 = .ok (.putfield 25, 3) := by decide +kernel
theorem dX1_init_44 : decode cX1_init 44 = .ok (.aload_n 0, 1) := by decide +kernel
theorem dX1_init_45 : decode cX1_init 45 = .ok (.bipush 36, 2) := by decide +kernel
theorem dX1_init_47 : decode cX1_init 47 = .ok (.newarray .long, 2) := by decide +kernel
theorem dX1_init_49 : decode cX1_init 49 = .ok (.putfield 28, 3) := by decide +kernel
theorem dX1_init_52 : decode cX1_init 52 = .ok (.aload_n 0, 1) := by decide +kernel
theorem dX1_init_53 : decode cX1_init 53 = .ok (.bipush 36, 2) := by decide +kernel
theorem dX1_init_55 : decode cX1_init 55 = .ok (.newarray .long, 2) := by decide +kernel
theorem dX1_init_57 : decode cX1_init 57 = .ok (.putfield 31, 3) := by decide +kernel
theorem dX1_init_60 : decode cX1_init 60 = .ok (.aload_n 0, 1) := by decide +kernel
theorem dX1_init_61 : decode cX1_init 61 = .ok (.bipush 12, 2) := by decide +kernel
theorem dX1_init_63 : decode cX1_init 63 = .ok (.newarray .long, 2) := by decide +kernel
theorem dX1_init_65 : decode cX1_init 65 = .ok (.putfield 34, 3) := by decide +kernel
theorem dX1_init_68 : decode cX1_init 68 = .ok (.aload_n 0, 1) := by decide +kernel
theorem dX1_init_69 : decode cX1_init 69 = .ok (.bipush 12, 2) := by decide +kernel
theorem dX1_init_71 : decode cX1_init 71 = .ok (.newarray .long, 2) := by decide +kernel
theorem dX1_init_73 : decode cX1_init 73 = .ok (.putfield 37, 3) := by decide +kernel
theorem dX1_init_76 : decode cX1_init 76 = .ok (.aload_n 0, 1) := by decide +kernel
theorem dX1_init_77 : decode cX1_init 77 = .ok (.bipush 16, 2) := by decide +kernel
theorem dX1_init_79 : decode cX1_init 79 = .ok (.newarray .int, 2) := by decide +kernel
theorem dX1_init_81 : decode cX1_init 81 = .ok (.putfield 40, 3) := by decide +kernel
theorem dX1_init_84 : decode cX1_init 84 = .ok (.aload_n 0, 1) := by decide +kernel
theorem dX1_init_85 : decode cX1_init 85 = .ok (.bipush 16, 2) := by decide +kernel
theorem dX1_init_87 : decode cX1_init 87 = .ok (.newarray .long, 2) := by decide +kernel
theorem dX1_init_89 : decode cX1_init 89 = .ok (.putfield 43, 3) := by decide +kernel
theorem dX1_init_92 : decode cX1_init 92 = .ok (.aload_n 0, 1) := by decide +kernel
theorem dX1_init_93 : decode cX1_init 93 = .ok (.getfield 37, 3) := by decide +kernel
theorem dX1_init_96 : decode cX1_init 96 = .ok (.ldc2_w 46, 3) := by decide +kernel
theorem dX1_init_99 : decode cX1_init 99 = .ok (.invokestatic 48, 3) := by decide +kernel
theorem dX1_init_102 : decode cX1_init 102 = .ok (.return_, 1) := by decide +kernel
theorem dX2_init_0 : decode cX2_init 0 = .ok (.aload_n 0, 1) := by decide +kernel
theorem dX2_init_1 : decode cX2_init 1 = .ok (.invokespecial 3, 3) := by decide +kernel
theorem dX2_init_4 : decode cX2_init 4 = .ok (.aload_n 0, 1) := by decide +kernel
theorem dX2_init_5 : decode cX2_init 5 = .ok (.bipush 12, 2) := by decide +kernel
theorem dX2_init_7 : decode cX2_init 7 = .ok (.newarray .long, 2) := by decide +kernel
theorem dX2_init_9 : decode cX2_init 9 = .ok (.putfield 9, 3) := by decide +kernel
theorem dX2_init_12 : decode cX2_init 12 = .ok (.aload_n 0, 1) := by decide +kernel
theorem dX2_init_13 : decode cX2_init 13 = .ok (.bipush 110, 2) := by decide +kernel
theorem dX2_init_15 : decode cX2_init 15 = .ok (.newarray .long, 2) := by decide +kernel
theorem dX2_init_17 : decode cX2_init 17 = .ok (.putfield 15, 3) := by decide +kernel
theorem dX2_init_20 : decode cX2_init 20 = .ok (.aload_n 0, 1) := by decide +kernel
theorem dX2_init_21 : decode cX2_init 21 = .ok (.sipush 10240, 3) := by decide +kernel
theorem dX2_init_24 : decode cX2_init 24 = .ok (.newarray .long, 2) := by decide +kernel
theorem dX2_init_26 : decode cX2_init 26 = .ok (.putfield 18, 3) := by decide +kernel
theorem dX2_init_29 : decode cX2_init 29 = .ok (.aload_n 0, 1) := by decide +kernel
theorem dX2_init_30 : decode cX2_init 30 = .ok (.aload_n 1, 1) := by decide +kernel
theorem dX2_init_31 : decode cX2_init 31 = .ok (.putfield 21, 3) := by decide +kernel
theorem dX2_init_34 : decode cX2_init 34 = .ok (.return_, 1) := by decide +kernel
theorem dX1_addAct_0 : decode cX1_addAct 0 = .ok (.aload_n 0, 1) := by decide +kernel
theorem dX1_addAct_1 : decode cX1_addAct 1 = .ok (.getfield 54, 3) := by decide +kernel
theorem dX1_addAct_4 : decode cX1_addAct 4 = .ok (.istore 6, 2) := by decide +kernel
theorem dX1_addAct_6 : decode cX1_addAct 6 = .ok (.aload_n 0, 1) := by decide +kernel
theorem dX1_addAct_7 : decode cX1_addAct 7 = .ok (.getfield 9, 3) := by decide +kernel
theorem dX1_addAct_10 : decode cX1_addAct 10 = .ok (.iload 6, 2) := by decide +kernel
theorem dX1_addAct_12 : decode cX1_addAct 12 = .ok (.iload_n 1, 1) := by decide +kernel
theorem dX1_addAct_13 : decode cX1_addAct 13 = .ok (.iastore, 1) := by decide +kernel
theorem dX1_addAct_14 : decode cX1_addAct 14 = .ok (.aload_n 0, 1) := by decide +kernel
theorem dX1_addAct_15 : decode cX1_addAct 15 = .ok (.getfield 15, 3) := by decide +kernel
theorem dX1_addAct_18 : decode cX1_addAct 18 = .ok (.iload 6, 2) := by decide +kernel
theorem dX1_addAct_20 : decode cX1_addAct 20 = .ok (.iload_n 2, 1) := by decide +kernel
theorem dX1_addAct_21 : decode cX1_addAct 21 = .ok (.iastore, 1) := by decide +kernel
theorem dX1_addAct_22 : decode cX1_addAct 22 = .ok (.aload_n 0, 1) := by decide +kernel
theorem dX1_addAct_23 : decode cX1_addAct 23 = .ok (.getfield 18, 3) := by decide +kernel
theorem dX1_addAct_26 : decode cX1_addAct 26 = .ok (.iload 6, 2) := by decide +kernel
theorem dX1_addAct_28 : decode cX1_addAct 28 = .ok (.iload_n 3, 1) := by decide +kernel
theorem dX1_addAct_29 : decode cX1_addAct 29 = .ok (.iastore, 1) := by decide +kernel
theorem dX1_addAct_30 : decode cX1_addAct 30 = .ok (.aload_n 0, 1) := by decide +kernel
theorem dX1_addAct_31 : decode cX1_addAct 31 = .ok (.getfield 21, 3) := by decide +kernel
theorem dX1_addAct_34 : decode cX1_addAct 34 = .ok (.iload 6, 2) := by decide +kernel
theorem dX1_addAct_36 : decode cX1_addAct 36 = .ok (.lload 4, 2) := by decide +kernel
theorem dX1_addAct_38 : decode cX1_addAct 38 = .ok (.lastore, 1) := by decide +kernel
theorem dX1_addAct_39 : decode cX1_addAct 39 = .ok (.aload_n 0, 1) := by decide +kernel
theorem dX1_addAct_40 : decode cX1_addAct 40 = .ok (.dup, 1) := by decide +kernel
theorem dX1_addAct_41 : decode cX1_addAct 41 = .ok (.getfield 54, 3) := by decide +kernel
theorem dX1_addAct_44 : decode cX1_addAct 44 = .ok (.iconst 1, 1) := by decide +kernel
theorem dX1_addAct_45 : decode cX1_addAct 45 = .ok (.iadd, 1) := by decide +kernel
theorem dX1_addAct_46 : decode cX1_addAct 46 = .ok (.putfield 54, 3) := by decide +kernel
theorem dX1_addAct_49 : decode cX1_addAct 49 = .ok (.iload 6, 2) := by decide +kernel
theorem dX1_addAct_51 : decode cX1_addAct 51 = .ok (.ireturn, 1) := by decide +kernel
theorem dX1_hasAct_0 : decode cX1_hasAct 0 = .ok (.iload_n 1, 1) := by decide +kernel
theorem dX1_hasAct_1 : decode cX1_hasAct 1 = .ok (.ifCond .lt 15, 3) := by decide +kernel
theorem dX1_hasAct_4 : decode cX1_hasAct 4 = .ok (.iload_n 1, 1) := by decide +kernel
theorem dX1_hasAct_5 : decode cX1_hasAct 5 = .ok (.aload_n 0, 1) := by decide +kernel
theorem dX1_hasAct_6 : decode cX1_hasAct 6 = .ok (.getfield 54, 3) := by decide +kernel
theorem dX1_hasAct_9 : decode cX1_hasAct 9 = .ok (.if_icmp .ge 7, 3) := by decide +kernel
theorem dX1_hasAct_12 : decode cX1_hasAct 12 = .ok (.iconst 1, 1) := by decide +kernel
theorem dX1_hasAct_13 : decode cX1_hasAct 13 = .ok (.goto 4, 3) := by decide +kernel
theorem dX1_hasAct_16 : decode cX1_hasAct 16 = .ok (.iconst 0, 1) := by decide +kernel
theorem dX1_hasAct_17 : decode cX1_hasAct 17 = .ok (.ireturn, 1) := by decide +kernel
theorem dX1_addNeed_0 : decode cX1_addNeed 0 = .ok (.aload_n 0, 1) := by decide +kernel
theorem dX1_addNeed_1 : decode cX1_addNeed 1 = .ok (.getfield 25, 3) := by decide +kernel
theorem dX1_addNeed_4 : decode cX1_addNeed 4 = .ok (.iload_n 1, 1) := by decide +kernel
theorem dX1_addNeed_5 : decode cX1_addNeed 5 = .ok (.iaload, 1) := by decide +kernel
theorem dX1_addNeed_6 : decode cX1_addNeed 6 = .ok (.iconst 1, 1) := by decide +kernel
theorem dX1_addNeed_7 : decode cX1_addNeed 7 = .ok (.iload_n 1, 1) := by decide +kernel
theorem dX1_addNeed_8 : decode cX1_addNeed 8 = .ok (.ishl, 1) := by decide +kernel
theorem dX1_addNeed_9 : decode cX1_addNeed 9 = .ok (.ior, 1) := by decide +kernel
theorem dX1_addNeed_10 : decode cX1_addNeed 10 = .ok (.istore_n 3, 1) := by decide +kernel
theorem dX1_addNeed_11 : decode cX1_addNeed 11 = .ok (.iconst 0, 1) := by decide +kernel
theorem dX1_addNeed_12 : decode cX1_addNeed 12 = .ok (.istore 4, 2) := by decide +kernel
theorem dX1_addNeed_14 : decode cX1_addNeed 14 = .ok (.iload 4, 2) := by decide +kernel
theorem dX1_addNeed_16 : decode cX1_addNeed 16 = .ok (.aload_n 0, 1) := by decide +kernel
theorem dX1_addNeed_17 : decode cX1_addNeed 17 = .ok (.getfield 54, 3) := by decide +kernel
theorem dX1_addNeed_20 : decode cX1_addNeed 20 = .ok (.if_icmp .ge 40, 3) := by decide +kernel
theorem dX1_addNeed_23 : decode cX1_addNeed 23 = .ok (.iload 4, 2) := by decide +kernel
theorem dX1_addNeed_25 : decode cX1_addNeed 25 = .ok (.iload_n 2, 1) := by decide +kernel
theorem dX1_addNeed_26 : decode cX1_addNeed 26 = .ok (.if_icmp .eq 17, 3) := by decide +kernel
theorem dX1_addNeed_29 : decode cX1_addNeed 29 = .ok (.aload_n 0, 1) := by decide +kernel
theorem dX1_addNeed_30 : decode cX1_addNeed 30 = .ok (.getfield 25, 3) := by decide +kernel
theorem dX1_addNeed_33 : decode cX1_addNeed 33 = .ok (.iload 4, 2) := by decide +kernel
theorem dX1_addNeed_35 : decode cX1_addNeed 35 = .ok (.iaload, 1) := by decide +kernel
theorem dX1_addNeed_36 : decode cX1_addNeed 36 = .ok (.iload_n 2, 1) := by decide +kernel
theorem dX1_addNeed_37 : decode cX1_addNeed 37 = .ok (.invokestatic 58, 3) := by decide +kernel
theorem dX1_addNeed_40 : decode cX1_addNeed 40 = .ok (.ifCond .eq 14, 3) := by decide +kernel
theorem dX1_addNeed_43 : decode cX1_addNeed 43 = .ok (.aload_n 0, 1) := by decide +kernel
theorem dX1_addNeed_44 : decode cX1_addNeed 44 = .ok (.getfield 25, 3) := by decide +kernel
theorem dX1_addNeed_47 : decode cX1_addNeed 47 = .ok (.iload 4, 2) := by decide +kernel
theorem dX1_addNeed_49 : decode cX1_addNeed 49 = .ok (.dup2, 1) := by decide +kernel
theorem dX1_addNeed_50 : decode cX1_addNeed 50 = .ok (.iaload, 1) := by decide +kernel
theorem dX1_addNeed_51 : decode cX1_addNeed 51 = .ok (.iload_n 3, 1) := by decide +kernel
theorem dX1_addNeed_52 : decode cX1_addNeed 52 = .ok (.ior, 1) := by decide +kernel
theorem dX1_addNeed_53 : decode cX1_addNeed 53 = .ok (.iastore, 1) := by decide +kernel
theorem dX1_addNeed_54 : decode cX1_addNeed 54 = .ok (.iinc 4 1, 3) := by decide +kernel
theorem dX1_addNeed_57 : decode cX1_addNeed 57 = .ok (.goto (-43), 3) := by decide +kernel
theorem dX1_addNeed_60 : decode cX1_addNeed 60 = .ok (.return_, 1) := by decide +kernel
theorem dX1_tellRest_0 : decode cX1_tellRest 0 = .ok (.aload_n 0, 1) := by decide +kernel
theorem dX1_tellRest_1 : decode cX1_tellRest 1 = .ok (.iload_n 1, 1) := by decide +kernel
theorem dX1_tellRest_2 : decode cX1_tellRest 2 = .ok (.invokevirtual 62, 3) := by decide +kernel
theorem dX1_tellRest_5 : decode cX1_tellRest 5 = .ok (.istore 4, 2) := by decide +kernel
theorem dX1_tellRest_7 : decode cX1_tellRest 7 = .ok (.iload 4, 2) := by decide +kernel
theorem dX1_tellRest_9 : decode cX1_tellRest 9 = .ok (.bipush 16, 2) := by decide +kernel
theorem dX1_tellRest_11 : decode cX1_tellRest 11 = .ok (.if_icmp .lt 5, 3) := by decide +kernel
theorem dX1_tellRest_14 : decode cX1_tellRest 14 = .ok (.iconst 0, 1) := by decide +kernel
theorem dX1_tellRest_15 : decode cX1_tellRest 15 = .ok (.ireturn, 1) := by decide +kernel
theorem dX1_tellRest_16 : decode cX1_tellRest 16 = .ok (.iload 4, 2) := by decide +kernel
theorem dX1_tellRest_18 : decode cX1_tellRest 18 = .ok (.aload_n 0, 1) := by decide +kernel
theorem dX1_tellRest_19 : decode cX1_tellRest 19 = .ok (.getfield 66, 3) := by decide +kernel
theorem dX1_tellRest_22 : decode cX1_tellRest 22 = .ok (.if_icmp .ne 13, 3) := by decide +kernel
theorem dX1_tellRest_25 : decode cX1_tellRest 25 = .ok (.aload_n 0, 1) := by decide +kernel
theorem dX1_tellRest_26 : decode cX1_tellRest 26 = .ok (.dup, 1) := by decide +kernel
theorem dX1_tellRest_27 : decode cX1_tellRest 27 = .ok (.getfield 66, 3) := by decide +kernel
theorem dX1_tellRest_30 : decode cX1_tellRest 30 = .ok (.iconst 1, 1) := by decide +kernel
theorem dX1_tellRest_31 : decode cX1_tellRest 31 = .ok (.iadd, 1) := by decide +kernel
theorem dX1_tellRest_32 : decode cX1_tellRest 32 = .ok (.putfield 66, 3) := by decide +kernel
theorem dX1_tellRest_35 : decode cX1_tellRest 35 = .ok (.aload_n 0, 1) := by decide +kernel
theorem dX1_tellRest_36 : decode cX1_tellRest 36 = .ok (.getfield 40, 3) := by decide +kernel
theorem dX1_tellRest_39 : decode cX1_tellRest 39 = .ok (.iload 4, 2) := by decide +kernel
theorem dX1_tellRest_41 : decode cX1_tellRest 41 = .ok (.iload_n 1, 1) := by decide +kernel
theorem dX1_tellRest_42 : decode cX1_tellRest 42 = .ok (.iastore, 1) := by decide +kernel
theorem dX1_tellRest_43 : decode cX1_tellRest 43 = .ok (.aload_n 0, 1) := by decide +kernel
theorem dX1_tellRest_44 : decode cX1_tellRest 44 = .ok (.getfield 43, 3) := by decide +kernel
theorem dX1_tellRest_47 : decode cX1_tellRest 47 = .ok (.iload 4, 2) := by decide +kernel
theorem dX1_tellRest_49 : decode cX1_tellRest 49 = .ok (.lload_n 2, 1) := by decide +kernel
theorem dX1_tellRest_50 : decode cX1_tellRest 50 = .ok (.lastore, 1) := by decide +kernel
theorem dX1_tellRest_51 : decode cX1_tellRest 51 = .ok (.iconst 1, 1) := by decide +kernel
theorem dX1_tellRest_52 : decode cX1_tellRest 52 = .ok (.ireturn, 1) := by decide +kernel
theorem dX1_placeOfRest_0 : decode cX1_placeOfRest 0 = .ok (.iconst 0, 1) := by decide +kernel
theorem dX1_placeOfRest_1 : decode cX1_placeOfRest 1 = .ok (.istore_n 2, 1) := by decide +kernel
theorem dX1_placeOfRest_2 : decode cX1_placeOfRest 2 = .ok (.iload_n 2, 1) := by decide +kernel
theorem dX1_placeOfRest_3 : decode cX1_placeOfRest 3 = .ok (.aload_n 0, 1) := by decide +kernel
theorem dX1_placeOfRest_4 : decode cX1_placeOfRest 4 = .ok (.getfield 66, 3) := by decide +kernel
theorem dX1_placeOfRest_7 : decode cX1_placeOfRest 7 = .ok (.if_icmp .ge 21, 3) := by decide +kernel
theorem dX1_placeOfRest_10 : decode cX1_placeOfRest 10 = .ok (.aload_n 0, 1) := by decide +kernel
theorem dX1_placeOfRest_11 : decode cX1_placeOfRest 11 = .ok (.getfield 40, 3) := by decide +kernel
theorem dX1_placeOfRest_14 : decode cX1_placeOfRest 14 = .ok (.iload_n 2, 1) := by decide +kernel
theorem dX1_placeOfRest_15 : decode cX1_placeOfRest 15 = .ok (.iaload, 1) := by decide +kernel
theorem dX1_placeOfRest_16 : decode cX1_placeOfRest 16 = .ok (.iload_n 1, 1) := by decide +kernel
theorem dX1_placeOfRest_17 : decode cX1_placeOfRest 17 = .ok (.if_icmp .ne 5, 3) := by decide +kernel
theorem dX1_placeOfRest_20 : decode cX1_placeOfRest 20 = .ok (.iload_n 2, 1) := by decide +kernel
theorem dX1_placeOfRest_21 : decode cX1_placeOfRest 21 = .ok (.ireturn, 1) := by decide +kernel
theorem dX1_placeOfRest_22 : decode cX1_placeOfRest 22 = .ok (.iinc 2 1, 3) := by decide +kernel
theorem dX1_placeOfRest_25 : decode cX1_placeOfRest 25 = .ok (.goto (-23), 3) := by decide +kernel
theorem dX1_placeOfRest_28 : decode cX1_placeOfRest 28 = .ok (.aload_n 0, 1) := by decide +kernel
theorem dX1_placeOfRest_29 : decode cX1_placeOfRest 29 = .ok (.getfield 66, 3) := by decide +kernel
theorem dX1_placeOfRest_32 : decode cX1_placeOfRest 32 = .ok (.ireturn, 1) := by decide +kernel
theorem dX1_countStates_0 : decode cX1_countStates 0 = .ok (.lconst 1, 1) := by decide +kernel
theorem dX1_countStates_1 : decode cX1_countStates 1 = .ok (.lstore_n 1, 1) := by decide +kernel
theorem dX1_countStates_2 : decode cX1_countStates 2 = .ok (.iconst 1, 1) := by decide +kernel
theorem dX1_countStates_3 : decode cX1_countStates 3 = .ok (.istore_n 3, 1) := by decide +kernel
theorem dX1_countStates_4 : decode cX1_countStates 4 = .ok (.iload_n 3, 1) := by decide +kernel
theorem dX1_countStates_5 : decode cX1_countStates 5 = .ok (.aload_n 0, 1) := by decide +kernel
theorem dX1_countStates_6 : decode cX1_countStates 6 = .ok (.invokevirtual 78, 3) := by decide +kernel
theorem dX1_countStates_9 : decode cX1_countStates 9 = .ok (.if_icmp .gt 21, 3) := by decide +kernel
theorem dX1_countStates_12 : decode cX1_countStates 12 = .ok (.lload_n 1, 1) := by decide +kernel
theorem dX1_countStates_13 : decode cX1_countStates 13 = .ok (.aload_n 0, 1) := by decide +kernel
theorem dX1_countStates_14 : decode cX1_countStates 14 = .ok (.iload_n 3, 1) := by decide +kernel
theorem dX1_countStates_15 : decode cX1_countStates 15 = .ok (.invokevirtual 82, 3) := by decide +kernel
theorem dX1_countStates_18 : decode cX1_countStates 18 = .ok (.invokestatic 85, 3) := by decide +kernel
theorem dX1_countStates_21 : decode cX1_countStates 21 = .ok (.i2l, 1) := by decide +kernel
theorem dX1_countStates_22 : decode cX1_countStates 22 = .ok (.ladd, 1) := by decide +kernel
theorem dX1_countStates_23 : decode cX1_countStates 23 = .ok (.lstore_n 1, 1) := by decide +kernel
theorem dX1_countStates_24 : decode cX1_countStates 24 = .ok (.iinc 3 1, 3) := by decide +kernel
theorem dX1_countStates_27 : decode cX1_countStates 27 = .ok (.goto (-23), 3) := by decide +kernel
theorem dX1_countStates_30 : decode cX1_countStates 30 = .ok (.lload_n 1, 1) := by decide +kernel
theorem dX1_countStates_31 : decode cX1_countStates 31 = .ok (.lreturn, 1) := by decide +kernel
theorem dX1_allActs_0 : decode cX1_allActs 0 = .ok (.iconst 1, 1) := by decide +kernel
theorem dX1_allActs_1 : decode cX1_allActs 1 = .ok (.aload_n 0, 1) := by decide +kernel
theorem dX1_allActs_2 : decode cX1_allActs 2 = .ok (.getfield 54, 3) := by decide +kernel
theorem dX1_allActs_5 : decode cX1_allActs 5 = .ok (.ishl, 1) := by decide +kernel
theorem dX1_allActs_6 : decode cX1_allActs 6 = .ok (.iconst 1, 1) := by decide +kernel
theorem dX1_allActs_7 : decode cX1_allActs 7 = .ok (.isub, 1) := by decide +kernel
theorem dX1_allActs_8 : decode cX1_allActs 8 = .ok (.ireturn, 1) := by decide +kernel
theorem dX1_lastsOf_0 : decode cX1_lastsOf 0 = .ok (.aload_n 0, 1) := by decide +kernel
theorem dX1_lastsOf_1 : decode cX1_lastsOf 1 = .ok (.iload_n 1, 1) := by decide +kernel
theorem dX1_lastsOf_2 : decode cX1_lastsOf 2 = .ok (.invokevirtual 75, 3) := by decide +kernel
theorem dX1_lastsOf_5 : decode cX1_lastsOf 5 = .ok (.istore_n 2, 1) := by decide +kernel
theorem dX1_lastsOf_6 : decode cX1_lastsOf 6 = .ok (.iload_n 2, 1) := by decide +kernel
theorem dX1_lastsOf_7 : decode cX1_lastsOf 7 = .ok (.iload_n 1, 1) := by decide +kernel
theorem dX1_lastsOf_8 : decode cX1_lastsOf 8 = .ok (.iconst (-1), 1) := by decide +kernel
theorem dX1_lastsOf_9 : decode cX1_lastsOf 9 = .ok (.ixor, 1) := by decide +kernel
theorem dX1_lastsOf_10 : decode cX1_lastsOf 10 = .ok (.iand, 1) := by decide +kernel
theorem dX1_lastsOf_11 : decode cX1_lastsOf 11 = .ok (.ifCond .ne 11, 3) := by decide +kernel
theorem dX1_lastsOf_14 : decode cX1_lastsOf 14 = .ok (.iload_n 1, 1) := by decide +kernel
theorem dX1_lastsOf_15 : decode cX1_lastsOf 15 = .ok (.iload_n 2, 1) := by decide +kernel
theorem dX1_lastsOf_16 : decode cX1_lastsOf 16 = .ok (.iconst (-1), 1) := by decide +kernel
theorem dX1_lastsOf_17 : decode cX1_lastsOf 17 = .ok (.ixor, 1) := by decide +kernel
theorem dX1_lastsOf_18 : decode cX1_lastsOf 18 = .ok (.iand, 1) := by decide +kernel
theorem dX1_lastsOf_19 : decode cX1_lastsOf 19 = .ok (.goto 4, 3) := by decide +kernel
theorem dX1_lastsOf_22 : decode cX1_lastsOf 22 = .ok (.iconst 0, 1) := by decide +kernel
theorem dX1_lastsOf_23 : decode cX1_lastsOf 23 = .ok (.ireturn, 1) := by decide +kernel
theorem dX1_neededBy_0 : decode cX1_neededBy 0 = .ok (.iconst 0, 1) := by decide +kernel
theorem dX1_neededBy_1 : decode cX1_neededBy 1 = .ok (.istore_n 2, 1) := by decide +kernel
theorem dX1_neededBy_2 : decode cX1_neededBy 2 = .ok (.iconst 0, 1) := by decide +kernel
theorem dX1_neededBy_3 : decode cX1_neededBy 3 = .ok (.istore_n 3, 1) := by decide +kernel
theorem dX1_neededBy_4 : decode cX1_neededBy 4 = .ok (.iload_n 3, 1) := by decide +kernel
theorem dX1_neededBy_5 : decode cX1_neededBy 5 = .ok (.aload_n 0, 1) := by decide +kernel
theorem dX1_neededBy_6 : decode cX1_neededBy 6 = .ok (.getfield 54, 3) := by decide +kernel
theorem dX1_neededBy_9 : decode cX1_neededBy 9 = .ok (.if_icmp .ge 26, 3) := by decide +kernel
theorem dX1_neededBy_12 : decode cX1_neededBy 12 = .ok (.iload_n 1, 1) := by decide +kernel
theorem dX1_neededBy_13 : decode cX1_neededBy 13 = .ok (.iload_n 3, 1) := by decide +kernel
theorem dX1_neededBy_14 : decode cX1_neededBy 14 = .ok (.invokestatic 58, 3) := by decide +kernel
theorem dX1_neededBy_17 : decode cX1_neededBy 17 = .ok (.ifCond .eq 12, 3) := by decide +kernel
theorem dX1_neededBy_20 : decode cX1_neededBy 20 = .ok (.iload_n 2, 1) := by decide +kernel
theorem dX1_neededBy_21 : decode cX1_neededBy 21 = .ok (.aload_n 0, 1) := by decide +kernel
theorem dX1_neededBy_22 : decode cX1_neededBy 22 = .ok (.getfield 25, 3) := by decide +kernel
theorem dX1_neededBy_25 : decode cX1_neededBy 25 = .ok (.iload_n 3, 1) := by decide +kernel
theorem dX1_neededBy_26 : decode cX1_neededBy 26 = .ok (.iaload, 1) := by decide +kernel
theorem dX1_neededBy_27 : decode cX1_neededBy 27 = .ok (.ior, 1) := by decide +kernel
theorem dX1_neededBy_28 : decode cX1_neededBy 28 = .ok (.istore_n 2, 1) := by decide +kernel
theorem dX1_neededBy_29 : decode cX1_neededBy 29 = .ok (.iinc 3 1, 3) := by decide +kernel
theorem dX1_neededBy_32 : decode cX1_neededBy 32 = .ok (.goto (-28), 3) := by decide +kernel
theorem dX1_neededBy_35 : decode cX1_neededBy 35 = .ok (.iload_n 2, 1) := by decide +kernel
theorem dX1_neededBy_36 : decode cX1_neededBy 36 = .ok (.ireturn, 1) := by decide +kernel
theorem dX2_valueAsTold_0 : decode cX2_valueAsTold 0 = .ok (.iconst 0, 1) := by decide +kernel
theorem dX2_valueAsTold_1 : decode cX2_valueAsTold 1 = .ok (.istore_n 1, 1) := by decide +kernel
theorem dX2_valueAsTold_2 : decode cX2_valueAsTold 2 = .ok (.iload_n 1, 1) := by decide +kernel
theorem dX2_valueAsTold_3 : decode cX2_valueAsTold 3 = .ok (.bipush 12, 2) := by decide +kernel
theorem dX2_valueAsTold_5 : decode cX2_valueAsTold 5 = .ok (.if_icmp .ge 23, 3) := by decide +kernel
theorem dX2_valueAsTold_8 : decode cX2_valueAsTold 8 = .ok (.aload_n 0, 1) := by decide +kernel
theorem dX2_valueAsTold_9 : decode cX2_valueAsTold 9 = .ok (.getfield 9, 3) := by decide +kernel
theorem dX2_valueAsTold_12 : decode cX2_valueAsTold 12 = .ok (.iload_n 1, 1) := by decide +kernel
theorem dX2_valueAsTold_13 : decode cX2_valueAsTold 13 = .ok (.aload_n 0, 1) := by decide +kernel
theorem dX2_valueAsTold_14 : decode cX2_valueAsTold 14 = .ok (.getfield 21, 3) := by decide +kernel
theorem dX2_valueAsTold_17 : decode cX2_valueAsTold 17 = .ok (.iload_n 1, 1) := by decide +kernel
theorem dX2_valueAsTold_18 : decode cX2_valueAsTold 18 = .ok (.invokevirtual 25, 3) := by decide +kernel
theorem dX2_valueAsTold_21 : decode cX2_valueAsTold 21 = .ok (.lastore, 1) := by decide +kernel
theorem dX2_valueAsTold_22 : decode cX2_valueAsTold 22 = .ok (.iinc 1 1, 3) := by decide +kernel
theorem dX2_valueAsTold_25 : decode cX2_valueAsTold 25 = .ok (.goto (-23), 3) := by decide +kernel
theorem dX2_valueAsTold_28 : decode cX2_valueAsTold 28 = .ok (.return_, 1) := by decide +kernel
theorem dX1_valueOf_0 : decode cX1_valueOf 0 = .ok (.aload_n 0, 1) := by decide +kernel
theorem dX1_valueOf_1 : decode cX1_valueOf 1 = .ok (.getfield 34, 3) := by decide +kernel
theorem dX1_valueOf_4 : decode cX1_valueOf 4 = .ok (.iload_n 1, 1) := by decide +kernel
theorem dX1_valueOf_5 : decode cX1_valueOf 5 = .ok (.laload, 1) := by decide +kernel
theorem dX1_valueOf_6 : decode cX1_valueOf 6 = .ok (.aload_n 0, 1) := by decide +kernel
theorem dX1_valueOf_7 : decode cX1_valueOf 7 = .ok (.getfield 37, 3) := by decide +kernel
theorem dX1_valueOf_10 : decode cX1_valueOf 10 = .ok (.iload_n 1, 1) := by decide +kernel
theorem dX1_valueOf_11 : decode cX1_valueOf 11 = .ok (.laload, 1) := by decide +kernel
theorem dX1_valueOf_12 : decode cX1_valueOf 12 = .ok (.lmul, 1) := by decide +kernel
theorem dX1_valueOf_13 : decode cX1_valueOf 13 = .ok (.lreturn, 1) := by decide +kernel
theorem dX2_greatestGain_0 : decode cX2_greatestGain 0 = .ok (.aload_n 0, 1) := by decide +kernel
theorem dX2_greatestGain_1 : decode cX2_greatestGain 1 = .ok (.invokevirtual 34, 3) := by decide +kernel
theorem dX2_greatestGain_4 : decode cX2_greatestGain 4 = .ok (.aload_n 0, 1) := by decide +kernel
theorem dX2_greatestGain_5 : decode cX2_greatestGain 5 = .ok (.getfield 21, 3) := by decide +kernel
theorem dX2_greatestGain_8 : decode cX2_greatestGain 8 = .ok (.invokevirtual 37, 3) := by decide +kernel
theorem dX2_greatestGain_11 : decode cX2_greatestGain 11 = .ok (.istore_n 1, 1) := by decide +kernel
theorem dX2_greatestGain_12 : decode cX2_greatestGain 12 = .ok (.iload_n 1, 1) := by decide +kernel
theorem dX2_greatestGain_13 : decode cX2_greatestGain 13 = .ok (.ifCond .le 14, 3) := by decide +kernel
theorem dX2_greatestGain_16 : decode cX2_greatestGain 16 = .ok (.aload_n 0, 1) := by decide +kernel
theorem dX2_greatestGain_17 : decode cX2_greatestGain 17 = .ok (.iload_n 1, 1) := by decide +kernel
theorem dX2_greatestGain_18 : decode cX2_greatestGain 18 = .ok (.invokevirtual 41, 3) := by decide +kernel
theorem dX2_greatestGain_21 : decode cX2_greatestGain 21 = .ok (.iinc 1 (-1), 3) := by decide +kernel
theorem dX2_greatestGain_24 : decode cX2_greatestGain 24 = .ok (.goto (-12), 3) := by decide +kernel
theorem dX2_greatestGain_27 : decode cX2_greatestGain 27 = .ok (.aload_n 0, 1) := by decide +kernel
theorem dX2_greatestGain_28 : decode cX2_greatestGain 28 = .ok (.iconst (-1), 1) := by decide +kernel
theorem dX2_greatestGain_29 : decode cX2_greatestGain 29 = .ok (.iconst 0, 1) := by decide +kernel
theorem dX2_greatestGain_30 : decode cX2_greatestGain 30 = .ok (.aload_n 0, 1) := by decide +kernel
theorem dX2_greatestGain_31 : decode cX2_greatestGain 31 = .ok (.getfield 21, 3) := by decide +kernel
theorem dX2_greatestGain_34 : decode cX2_greatestGain 34 = .ok (.iconst 0, 1) := by decide +kernel
theorem dX2_greatestGain_35 : decode cX2_greatestGain 35 = .ok (.invokevirtual 45, 3) := by decide +kernel
theorem dX2_greatestGain_38 : decode cX2_greatestGain 38 = .ok (.aload_n 0, 1) := by decide +kernel
theorem dX2_greatestGain_39 : decode cX2_greatestGain 39 = .ok (.iconst 0, 1) := by decide +kernel
theorem dX2_greatestGain_40 : decode cX2_greatestGain 40 = .ok (.invokevirtual 49, 3) := by decide +kernel
theorem dX2_greatestGain_43 : decode cX2_greatestGain 43 = .ok (.invokevirtual 52, 3) := by decide +kernel
theorem dX2_greatestGain_46 : decode cX2_greatestGain 46 = .ok (.lreturn, 1) := by decide +kernel
theorem dX2_setSteps_0 : decode cX2_setSteps 0 = .ok (.iconst 0, 1) := by decide +kernel
theorem dX2_setSteps_1 : decode cX2_setSteps 1 = .ok (.istore_n 1, 1) := by decide +kernel
theorem dX2_setSteps_2 : decode cX2_setSteps 2 = .ok (.iload_n 1, 1) := by decide +kernel
theorem dX2_setSteps_3 : decode cX2_setSteps 3 = .ok (.aload_n 0, 1) := by decide +kernel
theorem dX2_setSteps_4 : decode cX2_setSteps 4 = .ok (.getfield 21, 3) := by decide +kernel
theorem dX2_setSteps_7 : decode cX2_setSteps 7 = .ok (.getfield 56, 3) := by decide +kernel
theorem dX2_setSteps_10 : decode cX2_setSteps 10 = .ok (.if_icmp .ge 51, 3) := by decide +kernel
theorem dX2_setSteps_13 : decode cX2_setSteps 13 = .ok (.iconst (-1), 1) := by decide +kernel
theorem dX2_setSteps_14 : decode cX2_setSteps 14 = .ok (.istore_n 2, 1) := by decide +kernel
theorem dX2_setSteps_15 : decode cX2_setSteps 15 = .ok (.iload_n 2, 1) := by decide +kernel
theorem dX2_setSteps_16 : decode cX2_setSteps 16 = .ok (.aload_n 0, 1) := by decide +kernel
theorem dX2_setSteps_17 : decode cX2_setSteps 17 = .ok (.getfield 21, 3) := by decide +kernel
theorem dX2_setSteps_20 : decode cX2_setSteps 20 = .ok (.getfield 56, 3) := by decide +kernel
theorem dX2_setSteps_23 : decode cX2_setSteps 23 = .ok (.if_icmp .ge 32, 3) := by decide +kernel
theorem dX2_setSteps_26 : decode cX2_setSteps 26 = .ok (.aload_n 0, 1) := by decide +kernel
theorem dX2_setSteps_27 : decode cX2_setSteps 27 = .ok (.getfield 15, 3) := by decide +kernel
theorem dX2_setSteps_30 : decode cX2_setSteps 30 = .ok (.iload_n 2, 1) := by decide +kernel
theorem dX2_setSteps_31 : decode cX2_setSteps 31 = .ok (.iload_n 1, 1) := by decide +kernel
theorem dX2_setSteps_32 : decode cX2_setSteps 32 = .ok (.invokestatic 68, 3) := by decide +kernel
theorem dX2_setSteps_35 : decode cX2_setSteps 35 = .ok (.aload_n 0, 1) := by decide +kernel
theorem dX2_setSteps_36 : decode cX2_setSteps 36 = .ok (.getfield 21, 3) := by decide +kernel
theorem dX2_setSteps_39 : decode cX2_setSteps 39 = .ok (.iload_n 2, 1) := by decide +kernel
theorem dX2_setSteps_40 : decode cX2_setSteps 40 = .ok (.iload_n 1, 1) := by decide +kernel
theorem dX2_setSteps_41 : decode cX2_setSteps 41 = .ok (.invokevirtual 72, 3) := by decide +kernel
theorem dX2_setSteps_44 : decode cX2_setSteps 44 = .ok (.ldc2_w 76, 3) := by decide +kernel
theorem dX2_setSteps_47 : decode cX2_setSteps 47 = .ok (.lmul, 1) := by decide +kernel
theorem dX2_setSteps_48 : decode cX2_setSteps 48 = .ok (.lastore, 1) := by decide +kernel
theorem dX2_setSteps_49 : decode cX2_setSteps 49 = .ok (.iinc 2 1, 3) := by decide +kernel
theorem dX2_setSteps_52 : decode cX2_setSteps 52 = .ok (.goto (-37), 3) := by decide +kernel
theorem dX2_setSteps_55 : decode cX2_setSteps 55 = .ok (.iinc 1 1, 3) := by decide +kernel
theorem dX2_setSteps_58 : decode cX2_setSteps 58 = .ok (.goto (-56), 3) := by decide +kernel
theorem dX2_setSteps_61 : decode cX2_setSteps 61 = .ok (.return_, 1) := by decide +kernel
theorem dX2_stepPlace_0 : decode cX2_stepPlace 0 = .ok (.iload_n 0, 1) := by decide +kernel
theorem dX2_stepPlace_1 : decode cX2_stepPlace 1 = .ok (.iconst (-1), 1) := by decide +kernel
theorem dX2_stepPlace_2 : decode cX2_stepPlace 2 = .ok (.if_icmp .ne 8, 3) := by decide +kernel
theorem dX2_stepPlace_5 : decode cX2_stepPlace 5 = .ok (.bipush 10, 2) := by decide +kernel
theorem dX2_stepPlace_7 : decode cX2_stepPlace 7 = .ok (.goto 4, 3) := by decide +kernel
theorem dX2_stepPlace_10 : decode cX2_stepPlace 10 = .ok (.iload_n 0, 1) := by decide +kernel
theorem dX2_stepPlace_11 : decode cX2_stepPlace 11 = .ok (.bipush 10, 2) := by decide +kernel
theorem dX2_stepPlace_13 : decode cX2_stepPlace 13 = .ok (.imul, 1) := by decide +kernel
theorem dX2_stepPlace_14 : decode cX2_stepPlace 14 = .ok (.iload_n 1, 1) := by decide +kernel
theorem dX2_stepPlace_15 : decode cX2_stepPlace 15 = .ok (.iadd, 1) := by decide +kernel
theorem dX2_stepPlace_16 : decode cX2_stepPlace 16 = .ok (.ireturn, 1) := by decide +kernel
theorem dX1_centsOfStep_0 : decode cX1_centsOfStep 0 = .ok (.iload_n 1, 1) := by decide +kernel
theorem dX1_centsOfStep_1 : decode cX1_centsOfStep 1 = .ok (.iconst (-1), 1) := by decide +kernel
theorem dX1_centsOfStep_2 : decode cX1_centsOfStep 2 = .ok (.if_icmp .ne 10, 3) := by decide +kernel
theorem dX1_centsOfStep_5 : decode cX1_centsOfStep 5 = .ok (.aload_n 0, 1) := by decide +kernel
theorem dX1_centsOfStep_6 : decode cX1_centsOfStep 6 = .ok (.getfield 21, 3) := by decide +kernel
theorem dX1_centsOfStep_9 : decode cX1_centsOfStep 9 = .ok (.iload_n 2, 1) := by decide +kernel
theorem dX1_centsOfStep_10 : decode cX1_centsOfStep 10 = .ok (.laload, 1) := by decide +kernel
theorem dX1_centsOfStep_11 : decode cX1_centsOfStep 11 = .ok (.lreturn, 1) := by decide +kernel
theorem dX1_centsOfStep_12 : decode cX1_centsOfStep 12 = .ok (.aload_n 0, 1) := by decide +kernel
theorem dX1_centsOfStep_13 : decode cX1_centsOfStep 13 = .ok (.getfield 28, 3) := by decide +kernel
theorem dX1_centsOfStep_16 : decode cX1_centsOfStep 16 = .ok (.aload_n 0, 1) := by decide +kernel
theorem dX1_centsOfStep_17 : decode cX1_centsOfStep 17 = .ok (.getfield 15, 3) := by decide +kernel
theorem dX1_centsOfStep_20 : decode cX1_centsOfStep 20 = .ok (.iload_n 1, 1) := by decide +kernel
theorem dX1_centsOfStep_21 : decode cX1_centsOfStep 21 = .ok (.iaload, 1) := by decide +kernel
theorem dX1_centsOfStep_22 : decode cX1_centsOfStep 22 = .ok (.bipush 6, 2) := by decide +kernel
theorem dX1_centsOfStep_24 : decode cX1_centsOfStep 24 = .ok (.imul, 1) := by decide +kernel
theorem dX1_centsOfStep_25 : decode cX1_centsOfStep 25 = .ok (.aload_n 0, 1) := by decide +kernel
theorem dX1_centsOfStep_26 : decode cX1_centsOfStep 26 = .ok (.getfield 15, 3) := by decide +kernel
theorem dX1_centsOfStep_29 : decode cX1_centsOfStep 29 = .ok (.iload_n 2, 1) := by decide +kernel
theorem dX1_centsOfStep_30 : decode cX1_centsOfStep 30 = .ok (.iaload, 1) := by decide +kernel
theorem dX1_centsOfStep_31 : decode cX1_centsOfStep 31 = .ok (.iadd, 1) := by decide +kernel
theorem dX1_centsOfStep_32 : decode cX1_centsOfStep 32 = .ok (.laload, 1) := by decide +kernel
theorem dX1_centsOfStep_33 : decode cX1_centsOfStep 33 = .ok (.lstore_n 3, 1) := by decide +kernel
theorem dX1_centsOfStep_34 : decode cX1_centsOfStep 34 = .ok (.aload_n 0, 1) := by decide +kernel
theorem dX1_centsOfStep_35 : decode cX1_centsOfStep 35 = .ok (.getfield 31, 3) := by decide +kernel
theorem dX1_centsOfStep_38 : decode cX1_centsOfStep 38 = .ok (.aload_n 0, 1) := by decide +kernel
theorem dX1_centsOfStep_39 : decode cX1_centsOfStep 39 = .ok (.getfield 18, 3) := by decide +kernel
theorem dX1_centsOfStep_42 : decode cX1_centsOfStep 42 = .ok (.iload_n 1, 1) := by decide +kernel
theorem dX1_centsOfStep_43 : decode cX1_centsOfStep 43 = .ok (.iaload, 1) := by decide +kernel
theorem dX1_centsOfStep_44 : decode cX1_centsOfStep 44 = .ok (.bipush 6, 2) := by decide +kernel
theorem dX1_centsOfStep_46 : decode cX1_centsOfStep 46 = .ok (.imul, 1) := by decide +kernel
theorem dX1_centsOfStep_47 : decode cX1_centsOfStep 47 = .ok (.aload_n 0, 1) := by decide +kernel
theorem dX1_centsOfStep_48 : decode cX1_centsOfStep 48 = .ok (.getfield 18, 3) := by decide +kernel
theorem dX1_centsOfStep_51 : decode cX1_centsOfStep 51 = .ok (.iload_n 2, 1) := by decide +kernel
theorem dX1_centsOfStep_52 : decode cX1_centsOfStep 52 = .ok (.iaload, 1) := by decide +kernel
theorem dX1_centsOfStep_53 : decode cX1_centsOfStep 53 = .ok (.iadd, 1) := by decide +kernel
theorem dX1_centsOfStep_54 : decode cX1_centsOfStep 54 = .ok (.laload, 1) := by decide +kernel
theorem dX1_centsOfStep_55 : decode cX1_centsOfStep 55 = .ok (.lstore 5, 2) := by decide +kernel
theorem dX1_centsOfStep_57 : decode cX1_centsOfStep 57 = .ok (.aload_n 0, 1) := by decide +kernel
theorem dX1_centsOfStep_58 : decode cX1_centsOfStep 58 = .ok (.getfield 21, 3) := by decide +kernel
theorem dX1_centsOfStep_61 : decode cX1_centsOfStep 61 = .ok (.iload_n 2, 1) := by decide +kernel
theorem dX1_centsOfStep_62 : decode cX1_centsOfStep 62 = .ok (.laload, 1) := by decide +kernel
theorem dX1_centsOfStep_63 : decode cX1_centsOfStep 63 = .ok (.lload_n 3, 1) := by decide +kernel
theorem dX1_centsOfStep_64 : decode cX1_centsOfStep 64 = .ok (.ladd, 1) := by decide +kernel
theorem dX1_centsOfStep_65 : decode cX1_centsOfStep 65 = .ok (.lload 5, 2) := by decide +kernel
theorem dX1_centsOfStep_67 : decode cX1_centsOfStep 67 = .ok (.ladd, 1) := by decide +kernel
theorem dX1_centsOfStep_68 : decode cX1_centsOfStep 68 = .ok (.lreturn, 1) := by decide +kernel
theorem dX2_setMost_0 : decode cX2_setMost 0 = .ok (.aload_n 0, 1) := by decide +kernel
theorem dX2_setMost_1 : decode cX2_setMost 1 = .ok (.getfield 21, 3) := by decide +kernel
theorem dX2_setMost_4 : decode cX2_setMost 4 = .ok (.iload_n 1, 1) := by decide +kernel
theorem dX2_setMost_5 : decode cX2_setMost 5 = .ok (.invokevirtual 78, 3) := by decide +kernel
theorem dX2_setMost_8 : decode cX2_setMost 8 = .ok (.istore_n 2, 1) := by decide +kernel
theorem dX2_setMost_9 : decode cX2_setMost 9 = .ok (.iload_n 2, 1) := by decide +kernel
theorem dX2_setMost_10 : decode cX2_setMost 10 = .ok (.ifCond .ne 4, 3) := by decide +kernel
theorem dX2_setMost_13 : decode cX2_setMost 13 = .ok (.return_, 1) := by decide +kernel
theorem dX2_setMost_14 : decode cX2_setMost 14 = .ok (.aload_n 0, 1) := by decide +kernel
theorem dX2_setMost_15 : decode cX2_setMost 15 = .ok (.getfield 21, 3) := by decide +kernel
theorem dX2_setMost_18 : decode cX2_setMost 18 = .ok (.iload_n 1, 1) := by decide +kernel
theorem dX2_setMost_19 : decode cX2_setMost 19 = .ok (.invokevirtual 45, 3) := by decide +kernel
theorem dX2_setMost_22 : decode cX2_setMost 22 = .ok (.istore_n 3, 1) := by decide +kernel
theorem dX2_setMost_23 : decode cX2_setMost 23 = .ok (.aload_n 0, 1) := by decide +kernel
theorem dX2_setMost_24 : decode cX2_setMost 24 = .ok (.iload_n 1, 1) := by decide +kernel
theorem dX2_setMost_25 : decode cX2_setMost 25 = .ok (.invokevirtual 49, 3) := by decide +kernel
theorem dX2_setMost_28 : decode cX2_setMost 28 = .ok (.lstore 4, 2) := by decide +kernel
theorem dX2_setMost_30 : decode cX2_setMost 30 = .ok (.iconst 0, 1) := by decide +kernel
theorem dX2_setMost_31 : decode cX2_setMost 31 = .ok (.istore 6, 2) := by decide +kernel
theorem dX2_setMost_33 : decode cX2_setMost 33 = .ok (.iload 6, 2) := by decide +kernel
theorem dX2_setMost_35 : decode cX2_setMost 35 = .ok (.aload_n 0, 1) := by decide +kernel
theorem dX2_setMost_36 : decode cX2_setMost 36 = .ok (.getfield 21, 3) := by decide +kernel
theorem dX2_setMost_39 : decode cX2_setMost 39 = .ok (.getfield 56, 3) := by decide +kernel
theorem dX2_setMost_42 : decode cX2_setMost 42 = .ok (.if_icmp .ge 40, 3) := by decide +kernel
theorem dX2_setMost_45 : decode cX2_setMost 45 = .ok (.iload_n 2, 1) := by decide +kernel
theorem dX2_setMost_46 : decode cX2_setMost 46 = .ok (.iload 6, 2) := by decide +kernel
theorem dX2_setMost_48 : decode cX2_setMost 48 = .ok (.invokestatic 60, 3) := by decide +kernel
theorem dX2_setMost_51 : decode cX2_setMost 51 = .ok (.ifCond .eq 25, 3) := by decide +kernel
theorem dX2_setMost_54 : decode cX2_setMost 54 = .ok (.aload_n 0, 1) := by decide +kernel
theorem dX2_setMost_55 : decode cX2_setMost 55 = .ok (.getfield 18, 3) := by decide +kernel
theorem dX2_setMost_58 : decode cX2_setMost 58 = .ok (.iload_n 1, 1) := by decide +kernel
theorem dX2_setMost_59 : decode cX2_setMost 59 = .ok (.bipush 10, 2) := by decide +kernel
theorem dX2_setMost_61 : decode cX2_setMost 61 = .ok (.imul, 1) := by decide +kernel
theorem dX2_setMost_62 : decode cX2_setMost 62 = .ok (.iload 6, 2) := by decide +kernel
theorem dX2_setMost_64 : decode cX2_setMost 64 = .ok (.iadd, 1) := by decide +kernel
theorem dX2_setMost_65 : decode cX2_setMost 65 = .ok (.aload_n 0, 1) := by decide +kernel
theorem dX2_setMost_66 : decode cX2_setMost 66 = .ok (.iload 6, 2) := by decide +kernel
theorem dX2_setMost_68 : decode cX2_setMost 68 = .ok (.iload_n 1, 1) := by decide +kernel
theorem dX2_setMost_69 : decode cX2_setMost 69 = .ok (.iload_n 3, 1) := by decide +kernel
theorem dX2_setMost_70 : decode cX2_setMost 70 = .ok (.lload 4, 2) := by decide +kernel
theorem dX2_setMost_72 : decode cX2_setMost 72 = .ok (.invokevirtual 52, 3) := by decide +kernel
theorem dX2_setMost_75 : decode cX2_setMost 75 = .ok (.lastore, 1) := by decide +kernel
theorem dX2_setMost_76 : decode cX2_setMost 76 = .ok (.iinc 6 1, 3) := by decide +kernel
theorem dX2_setMost_79 : decode cX2_setMost 79 = .ok (.goto (-46), 3) := by decide +kernel
theorem dX2_setMost_82 : decode cX2_setMost 82 = .ok (.return_, 1) := by decide +kernel
theorem dX1_nextsOf_0 : decode cX1_nextsOf 0 = .ok (.iconst 0, 1) := by decide +kernel
theorem dX1_nextsOf_1 : decode cX1_nextsOf 1 = .ok (.istore_n 2, 1) := by decide +kernel
theorem dX1_nextsOf_2 : decode cX1_nextsOf 2 = .ok (.iconst 0, 1) := by decide +kernel
theorem dX1_nextsOf_3 : decode cX1_nextsOf 3 = .ok (.istore_n 3, 1) := by decide +kernel
theorem dX1_nextsOf_4 : decode cX1_nextsOf 4 = .ok (.iload_n 3, 1) := by decide +kernel
theorem dX1_nextsOf_5 : decode cX1_nextsOf 5 = .ok (.aload_n 0, 1) := by decide +kernel
theorem dX1_nextsOf_6 : decode cX1_nextsOf 6 = .ok (.getfield 54, 3) := by decide +kernel
theorem dX1_nextsOf_9 : decode cX1_nextsOf 9 = .ok (.if_icmp .ge 36, 3) := by decide +kernel
theorem dX1_nextsOf_12 : decode cX1_nextsOf 12 = .ok (.iload_n 1, 1) := by decide +kernel
theorem dX1_nextsOf_13 : decode cX1_nextsOf 13 = .ok (.iload_n 3, 1) := by decide +kernel
theorem dX1_nextsOf_14 : decode cX1_nextsOf 14 = .ok (.invokestatic 58, 3) := by decide +kernel
theorem dX1_nextsOf_17 : decode cX1_nextsOf 17 = .ok (.ifCond .ne 22, 3) := by decide +kernel
theorem dX1_nextsOf_20 : decode cX1_nextsOf 20 = .ok (.aload_n 0, 1) := by decide +kernel
theorem dX1_nextsOf_21 : decode cX1_nextsOf 21 = .ok (.getfield 25, 3) := by decide +kernel
theorem dX1_nextsOf_24 : decode cX1_nextsOf 24 = .ok (.iload_n 3, 1) := by decide +kernel
theorem dX1_nextsOf_25 : decode cX1_nextsOf 25 = .ok (.iaload, 1) := by decide +kernel
theorem dX1_nextsOf_26 : decode cX1_nextsOf 26 = .ok (.iload_n 1, 1) := by decide +kernel
theorem dX1_nextsOf_27 : decode cX1_nextsOf 27 = .ok (.iconst (-1), 1) := by decide +kernel
theorem dX1_nextsOf_28 : decode cX1_nextsOf 28 = .ok (.ixor, 1) := by decide +kernel
theorem dX1_nextsOf_29 : decode cX1_nextsOf 29 = .ok (.iand, 1) := by decide +kernel
theorem dX1_nextsOf_30 : decode cX1_nextsOf 30 = .ok (.ifCond .ne 9, 3) := by decide +kernel
theorem dX1_nextsOf_33 : decode cX1_nextsOf 33 = .ok (.iload_n 2, 1) := by decide +kernel
theorem dX1_nextsOf_34 : decode cX1_nextsOf 34 = .ok (.iconst 1, 1) := by decide +kernel
theorem dX1_nextsOf_35 : decode cX1_nextsOf 35 = .ok (.iload_n 3, 1) := by decide +kernel
theorem dX1_nextsOf_36 : decode cX1_nextsOf 36 = .ok (.ishl, 1) := by decide +kernel
theorem dX1_nextsOf_37 : decode cX1_nextsOf 37 = .ok (.ior, 1) := by decide +kernel
theorem dX1_nextsOf_38 : decode cX1_nextsOf 38 = .ok (.istore_n 2, 1) := by decide +kernel
theorem dX1_nextsOf_39 : decode cX1_nextsOf 39 = .ok (.iinc 3 1, 3) := by decide +kernel
theorem dX1_nextsOf_42 : decode cX1_nextsOf 42 = .ok (.goto (-38), 3) := by decide +kernel
theorem dX1_nextsOf_45 : decode cX1_nextsOf 45 = .ok (.iload_n 2, 1) := by decide +kernel
theorem dX1_nextsOf_46 : decode cX1_nextsOf 46 = .ok (.ireturn, 1) := by decide +kernel
theorem dX2_endOf_0 : decode cX2_endOf 0 = .ok (.aload_n 0, 1) := by decide +kernel
theorem dX2_endOf_1 : decode cX2_endOf 1 = .ok (.getfield 21, 3) := by decide +kernel
theorem dX2_endOf_4 : decode cX2_endOf 4 = .ok (.iload_n 1, 1) := by decide +kernel
theorem dX2_endOf_5 : decode cX2_endOf 5 = .ok (.invokevirtual 87, 3) := by decide +kernel
theorem dX2_endOf_8 : decode cX2_endOf 8 = .ok (.istore_n 2, 1) := by decide +kernel
theorem dX2_endOf_9 : decode cX2_endOf 9 = .ok (.aload_n 0, 1) := by decide +kernel
theorem dX2_endOf_10 : decode cX2_endOf 10 = .ok (.getfield 21, 3) := by decide +kernel
theorem dX2_endOf_13 : decode cX2_endOf 13 = .ok (.sipush 4095, 3) := by decide +kernel
theorem dX2_endOf_16 : decode cX2_endOf 16 = .ok (.aload_n 0, 1) := by decide +kernel
theorem dX2_endOf_17 : decode cX2_endOf 17 = .ok (.getfield 21, 3) := by decide +kernel
theorem dX2_endOf_20 : decode cX2_endOf 20 = .ok (.iload_n 1, 1) := by decide +kernel
theorem dX2_endOf_21 : decode cX2_endOf 21 = .ok (.invokevirtual 90, 3) := by decide +kernel
theorem dX2_endOf_24 : decode cX2_endOf 24 = .ok (.iconst (-1), 1) := by decide +kernel
theorem dX2_endOf_25 : decode cX2_endOf 25 = .ok (.ixor, 1) := by decide +kernel
theorem dX2_endOf_26 : decode cX2_endOf 26 = .ok (.iand, 1) := by decide +kernel
theorem dX2_endOf_27 : decode cX2_endOf 27 = .ok (.invokevirtual 93, 3) := by decide +kernel
theorem dX2_endOf_30 : decode cX2_endOf 30 = .ok (.ldc2_w 76, 3) := by decide +kernel
theorem dX2_endOf_33 : decode cX2_endOf 33 = .ok (.lmul, 1) := by decide +kernel
theorem dX2_endOf_34 : decode cX2_endOf 34 = .ok (.lstore_n 3, 1) := by decide +kernel
theorem dX2_endOf_35 : decode cX2_endOf 35 = .ok (.iconst 0, 1) := by decide +kernel
theorem dX2_endOf_36 : decode cX2_endOf 36 = .ok (.istore 5, 2) := by decide +kernel
theorem dX2_endOf_38 : decode cX2_endOf 38 = .ok (.iload 5, 2) := by decide +kernel
theorem dX2_endOf_40 : decode cX2_endOf 40 = .ok (.bipush 12, 2) := by decide +kernel
theorem dX2_endOf_42 : decode cX2_endOf 42 = .ok (.if_icmp .ge 28, 3) := by decide +kernel
theorem dX2_endOf_45 : decode cX2_endOf 45 = .ok (.iload_n 2, 1) := by decide +kernel
theorem dX2_endOf_46 : decode cX2_endOf 46 = .ok (.iload 5, 2) := by decide +kernel
theorem dX2_endOf_48 : decode cX2_endOf 48 = .ok (.invokestatic 60, 3) := by decide +kernel
theorem dX2_endOf_51 : decode cX2_endOf 51 = .ok (.ifCond .eq 13, 3) := by decide +kernel
theorem dX2_endOf_54 : decode cX2_endOf 54 = .ok (.lload_n 3, 1) := by decide +kernel
theorem dX2_endOf_55 : decode cX2_endOf 55 = .ok (.aload_n 0, 1) := by decide +kernel
theorem dX2_endOf_56 : decode cX2_endOf 56 = .ok (.getfield 9, 3) := by decide +kernel
theorem dX2_endOf_59 : decode cX2_endOf 59 = .ok (.iload 5, 2) := by decide +kernel
theorem dX2_endOf_61 : decode cX2_endOf 61 = .ok (.laload, 1) := by decide +kernel
theorem dX2_endOf_62 : decode cX2_endOf 62 = .ok (.ladd, 1) := by decide +kernel
theorem dX2_endOf_63 : decode cX2_endOf 63 = .ok (.lstore_n 3, 1) := by decide +kernel
theorem dX2_endOf_64 : decode cX2_endOf 64 = .ok (.iinc 5 1, 3) := by decide +kernel
theorem dX2_endOf_67 : decode cX2_endOf 67 = .ok (.goto (-29), 3) := by decide +kernel
theorem dX2_endOf_70 : decode cX2_endOf 70 = .ok (.lload_n 3, 1) := by decide +kernel
theorem dX2_endOf_71 : decode cX2_endOf 71 = .ok (.lreturn, 1) := by decide +kernel
theorem dX1_wholeBy_0 : decode cX1_wholeBy 0 = .ok (.aload_n 0, 1) := by decide +kernel
theorem dX1_wholeBy_1 : decode cX1_wholeBy 1 = .ok (.iload_n 1, 1) := by decide +kernel
theorem dX1_wholeBy_2 : decode cX1_wholeBy 2 = .ok (.invokevirtual 69, 3) := by decide +kernel
theorem dX1_wholeBy_5 : decode cX1_wholeBy 5 = .ok (.aload_n 0, 1) := by decide +kernel
theorem dX1_wholeBy_6 : decode cX1_wholeBy 6 = .ok (.iload_n 1, 1) := by decide +kernel
theorem dX1_wholeBy_7 : decode cX1_wholeBy 7 = .ok (.aload_n 0, 1) := by decide +kernel
theorem dX1_wholeBy_8 : decode cX1_wholeBy 8 = .ok (.getfield 72, 3) := by decide +kernel
theorem dX1_wholeBy_11 : decode cX1_wholeBy 11 = .ok (.iand, 1) := by decide +kernel
theorem dX1_wholeBy_12 : decode cX1_wholeBy 12 = .ok (.invokevirtual 69, 3) := by decide +kernel
theorem dX1_wholeBy_15 : decode cX1_wholeBy 15 = .ok (.iconst (-1), 1) := by decide +kernel
theorem dX1_wholeBy_16 : decode cX1_wholeBy 16 = .ok (.ixor, 1) := by decide +kernel
theorem dX1_wholeBy_17 : decode cX1_wholeBy 17 = .ok (.iand, 1) := by decide +kernel
theorem dX1_wholeBy_18 : decode cX1_wholeBy 18 = .ok (.ireturn, 1) := by decide +kernel
theorem dX1_freedBy_0 : decode cX1_freedBy 0 = .ok (.iconst 0, 1) := by decide +kernel
theorem dX1_freedBy_1 : decode cX1_freedBy 1 = .ok (.istore_n 2, 1) := by decide +kernel
theorem dX1_freedBy_2 : decode cX1_freedBy 2 = .ok (.iconst 0, 1) := by decide +kernel
theorem dX1_freedBy_3 : decode cX1_freedBy 3 = .ok (.istore_n 3, 1) := by decide +kernel
theorem dX1_freedBy_4 : decode cX1_freedBy 4 = .ok (.iload_n 3, 1) := by decide +kernel
theorem dX1_freedBy_5 : decode cX1_freedBy 5 = .ok (.aload_n 0, 1) := by decide +kernel
theorem dX1_freedBy_6 : decode cX1_freedBy 6 = .ok (.getfield 54, 3) := by decide +kernel
theorem dX1_freedBy_9 : decode cX1_freedBy 9 = .ok (.if_icmp .ge 38, 3) := by decide +kernel
theorem dX1_freedBy_12 : decode cX1_freedBy 12 = .ok (.iload_n 1, 1) := by decide +kernel
theorem dX1_freedBy_13 : decode cX1_freedBy 13 = .ok (.iload_n 3, 1) := by decide +kernel
theorem dX1_freedBy_14 : decode cX1_freedBy 14 = .ok (.invokestatic 58, 3) := by decide +kernel
theorem dX1_freedBy_17 : decode cX1_freedBy 17 = .ok (.ifCond .eq 24, 3) := by decide +kernel
theorem dX1_freedBy_20 : decode cX1_freedBy 20 = .ok (.aload_n 0, 1) := by decide +kernel
theorem dX1_freedBy_21 : decode cX1_freedBy 21 = .ok (.getfield 9, 3) := by decide +kernel
theorem dX1_freedBy_24 : decode cX1_freedBy 24 = .ok (.iload_n 3, 1) := by decide +kernel
theorem dX1_freedBy_25 : decode cX1_freedBy 25 = .ok (.iaload, 1) := by decide +kernel
theorem dX1_freedBy_26 : decode cX1_freedBy 26 = .ok (.iconst (-1), 1) := by decide +kernel
theorem dX1_freedBy_27 : decode cX1_freedBy 27 = .ok (.if_icmp .eq 14, 3) := by decide +kernel
theorem dX1_freedBy_30 : decode cX1_freedBy 30 = .ok (.iload_n 2, 1) := by decide +kernel
theorem dX1_freedBy_31 : decode cX1_freedBy 31 = .ok (.iconst 1, 1) := by decide +kernel
theorem dX1_freedBy_32 : decode cX1_freedBy 32 = .ok (.aload_n 0, 1) := by decide +kernel
theorem dX1_freedBy_33 : decode cX1_freedBy 33 = .ok (.getfield 9, 3) := by decide +kernel
theorem dX1_freedBy_36 : decode cX1_freedBy 36 = .ok (.iload_n 3, 1) := by decide +kernel
theorem dX1_freedBy_37 : decode cX1_freedBy 37 = .ok (.iaload, 1) := by decide +kernel
theorem dX1_freedBy_38 : decode cX1_freedBy 38 = .ok (.ishl, 1) := by decide +kernel
theorem dX1_freedBy_39 : decode cX1_freedBy 39 = .ok (.ior, 1) := by decide +kernel
theorem dX1_freedBy_40 : decode cX1_freedBy 40 = .ok (.istore_n 2, 1) := by decide +kernel
theorem dX1_freedBy_41 : decode cX1_freedBy 41 = .ok (.iinc 3 1, 3) := by decide +kernel
theorem dX1_freedBy_44 : decode cX1_freedBy 44 = .ok (.goto (-40), 3) := by decide +kernel
theorem dX1_freedBy_47 : decode cX1_freedBy 47 = .ok (.iload_n 2, 1) := by decide +kernel
theorem dX1_freedBy_48 : decode cX1_freedBy 48 = .ok (.ireturn, 1) := by decide +kernel
theorem dX1_restWorth_0 : decode cX1_restWorth 0 = .ok (.aload_n 0, 1) := by decide +kernel
theorem dX1_restWorth_1 : decode cX1_restWorth 1 = .ok (.iload_n 1, 1) := by decide +kernel
theorem dX1_restWorth_2 : decode cX1_restWorth 2 = .ok (.invokevirtual 62, 3) := by decide +kernel
theorem dX1_restWorth_5 : decode cX1_restWorth 5 = .ok (.istore_n 2, 1) := by decide +kernel
theorem dX1_restWorth_6 : decode cX1_restWorth 6 = .ok (.iload_n 2, 1) := by decide +kernel
theorem dX1_restWorth_7 : decode cX1_restWorth 7 = .ok (.aload_n 0, 1) := by decide +kernel
theorem dX1_restWorth_8 : decode cX1_restWorth 8 = .ok (.getfield 66, 3) := by decide +kernel
theorem dX1_restWorth_11 : decode cX1_restWorth 11 = .ok (.if_icmp .ge 12, 3) := by decide +kernel
theorem dX1_restWorth_14 : decode cX1_restWorth 14 = .ok (.aload_n 0, 1) := by decide +kernel
theorem dX1_restWorth_15 : decode cX1_restWorth 15 = .ok (.getfield 43, 3) := by decide +kernel
theorem dX1_restWorth_18 : decode cX1_restWorth 18 = .ok (.iload_n 2, 1) := by decide +kernel
theorem dX1_restWorth_19 : decode cX1_restWorth 19 = .ok (.laload, 1) := by decide +kernel
theorem dX1_restWorth_20 : decode cX1_restWorth 20 = .ok (.goto 4, 3) := by decide +kernel
theorem dX1_restWorth_23 : decode cX1_restWorth 23 = .ok (.lconst 0, 1) := by decide +kernel
theorem dX1_restWorth_24 : decode cX1_restWorth 24 = .ok (.lreturn, 1) := by decide +kernel
theorem dX2_mostFrom_0 : decode cX2_mostFrom 0 = .ok (.lload 4, 2) := by decide +kernel
theorem dX2_mostFrom_2 : decode cX2_mostFrom 2 = .ok (.lstore 6, 2) := by decide +kernel
theorem dX2_mostFrom_4 : decode cX2_mostFrom 4 = .ok (.iconst 0, 1) := by decide +kernel
theorem dX2_mostFrom_5 : decode cX2_mostFrom 5 = .ok (.istore 8, 2) := by decide +kernel
theorem dX2_mostFrom_7 : decode cX2_mostFrom 7 = .ok (.iload 8, 2) := by decide +kernel
theorem dX2_mostFrom_9 : decode cX2_mostFrom 9 = .ok (.aload_n 0, 1) := by decide +kernel
theorem dX2_mostFrom_10 : decode cX2_mostFrom 10 = .ok (.getfield 21, 3) := by decide +kernel
theorem dX2_mostFrom_13 : decode cX2_mostFrom 13 = .ok (.getfield 56, 3) := by decide +kernel
theorem dX2_mostFrom_16 : decode cX2_mostFrom 16 = .ok (.if_icmp .ge 33, 3) := by decide +kernel
theorem dX2_mostFrom_19 : decode cX2_mostFrom 19 = .ok (.iload_n 3, 1) := by decide +kernel
theorem dX2_mostFrom_20 : decode cX2_mostFrom 20 = .ok (.iload 8, 2) := by decide +kernel
theorem dX2_mostFrom_22 : decode cX2_mostFrom 22 = .ok (.invokestatic 60, 3) := by decide +kernel
theorem dX2_mostFrom_25 : decode cX2_mostFrom 25 = .ok (.ifCond .eq 18, 3) := by decide +kernel
theorem dX2_mostFrom_28 : decode cX2_mostFrom 28 = .ok (.lload 6, 2) := by decide +kernel
theorem dX2_mostFrom_30 : decode cX2_mostFrom 30 = .ok (.aload_n 0, 1) := by decide +kernel
theorem dX2_mostFrom_31 : decode cX2_mostFrom 31 = .ok (.iload_n 1, 1) := by decide +kernel
theorem dX2_mostFrom_32 : decode cX2_mostFrom 32 = .ok (.iload_n 2, 1) := by decide +kernel
theorem dX2_mostFrom_33 : decode cX2_mostFrom 33 = .ok (.iload 8, 2) := by decide +kernel
theorem dX2_mostFrom_35 : decode cX2_mostFrom 35 = .ok (.invokevirtual 64, 3) := by decide +kernel
theorem dX2_mostFrom_38 : decode cX2_mostFrom 38 = .ok (.invokestatic 81, 3) := by decide +kernel
theorem dX2_mostFrom_41 : decode cX2_mostFrom 41 = .ok (.lstore 6, 2) := by decide +kernel
theorem dX2_mostFrom_43 : decode cX2_mostFrom 43 = .ok (.iinc 8 1, 3) := by decide +kernel
theorem dX2_mostFrom_46 : decode cX2_mostFrom 46 = .ok (.goto (-39), 3) := by decide +kernel
theorem dX2_mostFrom_49 : decode cX2_mostFrom 49 = .ok (.lload 6, 2) := by decide +kernel
theorem dX2_mostFrom_51 : decode cX2_mostFrom 51 = .ok (.lreturn, 1) := by decide +kernel
theorem dX2_mostBy_0 : decode cX2_mostBy 0 = .ok (.aload_n 0, 1) := by decide +kernel
theorem dX2_mostBy_1 : decode cX2_mostBy 1 = .ok (.getfield 18, 3) := by decide +kernel
theorem dX2_mostBy_4 : decode cX2_mostBy 4 = .ok (.iload_n 2, 1) := by decide +kernel
theorem dX2_mostBy_5 : decode cX2_mostBy 5 = .ok (.iconst 1, 1) := by decide +kernel
theorem dX2_mostBy_6 : decode cX2_mostBy 6 = .ok (.iload_n 3, 1) := by decide +kernel
theorem dX2_mostBy_7 : decode cX2_mostBy 7 = .ok (.ishl, 1) := by decide +kernel
theorem dX2_mostBy_8 : decode cX2_mostBy 8 = .ok (.ior, 1) := by decide +kernel
theorem dX2_mostBy_9 : decode cX2_mostBy 9 = .ok (.bipush 10, 2) := by decide +kernel
theorem dX2_mostBy_11 : decode cX2_mostBy 11 = .ok (.imul, 1) := by decide +kernel
theorem dX2_mostBy_12 : decode cX2_mostBy 12 = .ok (.iload_n 3, 1) := by decide +kernel
theorem dX2_mostBy_13 : decode cX2_mostBy 13 = .ok (.iadd, 1) := by decide +kernel
theorem dX2_mostBy_14 : decode cX2_mostBy 14 = .ok (.laload, 1) := by decide +kernel
theorem dX2_mostBy_15 : decode cX2_mostBy 15 = .ok (.aload_n 0, 1) := by decide +kernel
theorem dX2_mostBy_16 : decode cX2_mostBy 16 = .ok (.getfield 15, 3) := by decide +kernel
theorem dX2_mostBy_19 : decode cX2_mostBy 19 = .ok (.iload_n 1, 1) := by decide +kernel
theorem dX2_mostBy_20 : decode cX2_mostBy 20 = .ok (.iload_n 3, 1) := by decide +kernel
theorem dX2_mostBy_21 : decode cX2_mostBy 21 = .ok (.invokestatic 68, 3) := by decide +kernel
theorem dX2_mostBy_24 : decode cX2_mostBy 24 = .ok (.laload, 1) := by decide +kernel
theorem dX2_mostBy_25 : decode cX2_mostBy 25 = .ok (.lsub, 1) := by decide +kernel
theorem dX2_mostBy_26 : decode cX2_mostBy 26 = .ok (.lreturn, 1) := by decide +kernel
theorem dX2_bestNext_0 : decode cX2_bestNext 0 = .ok (.aload_n 0, 1) := by decide +kernel
theorem dX2_bestNext_1 : decode cX2_bestNext 1 = .ok (.getfield 21, 3) := by decide +kernel
theorem dX2_bestNext_4 : decode cX2_bestNext 4 = .ok (.iload_n 1, 1) := by decide +kernel
theorem dX2_bestNext_5 : decode cX2_bestNext 5 = .ok (.invokevirtual 45, 3) := by decide +kernel
theorem dX2_bestNext_8 : decode cX2_bestNext 8 = .ok (.istore_n 3, 1) := by decide +kernel
theorem dX2_bestNext_9 : decode cX2_bestNext 9 = .ok (.aload_n 0, 1) := by decide +kernel
theorem dX2_bestNext_10 : decode cX2_bestNext 10 = .ok (.iload_n 1, 1) := by decide +kernel
theorem dX2_bestNext_11 : decode cX2_bestNext 11 = .ok (.invokevirtual 49, 3) := by decide +kernel
theorem dX2_bestNext_14 : decode cX2_bestNext 14 = .ok (.lstore 4, 2) := by decide +kernel
theorem dX2_bestNext_16 : decode cX2_bestNext 16 = .ok (.aload_n 0, 1) := by decide +kernel
theorem dX2_bestNext_17 : decode cX2_bestNext 17 = .ok (.iload_n 2, 1) := by decide +kernel
theorem dX2_bestNext_18 : decode cX2_bestNext 18 = .ok (.iload_n 1, 1) := by decide +kernel
theorem dX2_bestNext_19 : decode cX2_bestNext 19 = .ok (.iload_n 3, 1) := by decide +kernel
theorem dX2_bestNext_20 : decode cX2_bestNext 20 = .ok (.lload 4, 2) := by decide +kernel
theorem dX2_bestNext_22 : decode cX2_bestNext 22 = .ok (.invokevirtual 52, 3) := by decide +kernel
theorem dX2_bestNext_25 : decode cX2_bestNext 25 = .ok (.lstore 6, 2) := by decide +kernel
theorem dX2_bestNext_27 : decode cX2_bestNext 27 = .ok (.lload 6, 2) := by decide +kernel
theorem dX2_bestNext_29 : decode cX2_bestNext 29 = .ok (.lload 4, 2) := by decide +kernel
theorem dX2_bestNext_31 : decode cX2_bestNext 31 = .ok (.lcmp, 1) := by decide +kernel
theorem dX2_bestNext_32 : decode cX2_bestNext 32 = .ok (.ifCond .ne 5, 3) := by decide +kernel
theorem dX2_bestNext_35 : decode cX2_bestNext 35 = .ok (.iconst (-1), 1) := by decide +kernel
theorem dX2_bestNext_36 : decode cX2_bestNext 36 = .ok (.ireturn, 1) := by decide +kernel
theorem dX2_bestNext_37 : decode cX2_bestNext 37 = .ok (.iconst 0, 1) := by decide +kernel
theorem dX2_bestNext_38 : decode cX2_bestNext 38 = .ok (.istore 8, 2) := by decide +kernel
theorem dX2_bestNext_40 : decode cX2_bestNext 40 = .ok (.iload 8, 2) := by decide +kernel
theorem dX2_bestNext_42 : decode cX2_bestNext 42 = .ok (.aload_n 0, 1) := by decide +kernel
theorem dX2_bestNext_43 : decode cX2_bestNext 43 = .ok (.getfield 21, 3) := by decide +kernel
theorem dX2_bestNext_46 : decode cX2_bestNext 46 = .ok (.getfield 56, 3) := by decide +kernel
theorem dX2_bestNext_49 : decode cX2_bestNext 49 = .ok (.if_icmp .ge 35, 3) := by decide +kernel
theorem dX2_bestNext_52 : decode cX2_bestNext 52 = .ok (.iload_n 3, 1) := by decide +kernel
theorem dX2_bestNext_53 : decode cX2_bestNext 53 = .ok (.iload 8, 2) := by decide +kernel
theorem dX2_bestNext_55 : decode cX2_bestNext 55 = .ok (.invokestatic 60, 3) := by decide +kernel
theorem dX2_bestNext_58 : decode cX2_bestNext 58 = .ok (.ifCond .eq 20, 3) := by decide +kernel
theorem dX2_bestNext_61 : decode cX2_bestNext 61 = .ok (.aload_n 0, 1) := by decide +kernel
theorem dX2_bestNext_62 : decode cX2_bestNext 62 = .ok (.iload_n 2, 1) := by decide +kernel
theorem dX2_bestNext_63 : decode cX2_bestNext 63 = .ok (.iload_n 1, 1) := by decide +kernel
theorem dX2_bestNext_64 : decode cX2_bestNext 64 = .ok (.iload 8, 2) := by decide +kernel
theorem dX2_bestNext_66 : decode cX2_bestNext 66 = .ok (.invokevirtual 64, 3) := by decide +kernel
theorem dX2_bestNext_69 : decode cX2_bestNext 69 = .ok (.lload 6, 2) := by decide +kernel
theorem dX2_bestNext_71 : decode cX2_bestNext 71 = .ok (.lcmp, 1) := by decide +kernel
theorem dX2_bestNext_72 : decode cX2_bestNext 72 = .ok (.ifCond .ne 6, 3) := by decide +kernel
theorem dX2_bestNext_75 : decode cX2_bestNext 75 = .ok (.iload 8, 2) := by decide +kernel
theorem dX2_bestNext_77 : decode cX2_bestNext 77 = .ok (.ireturn, 1) := by decide +kernel
theorem dX2_bestNext_78 : decode cX2_bestNext 78 = .ok (.iinc 8 1, 3) := by decide +kernel
theorem dX2_bestNext_81 : decode cX2_bestNext 81 = .ok (.goto (-41), 3) := by decide +kernel
theorem dX2_bestNext_84 : decode cX2_bestNext 84 = .ok (.iconst (-1), 1) := by decide +kernel
theorem dX2_bestNext_85 : decode cX2_bestNext 85 = .ok (.ireturn, 1) := by decide +kernel
theorem dX2_valueByShare_0 : decode cX2_valueByShare 0 = .ok (.aload_n 0, 1) := by decide +kernel
theorem dX2_valueByShare_1 : decode cX2_valueByShare 1 = .ok (.getfield 9, 3) := by decide +kernel
theorem dX2_valueByShare_4 : decode cX2_valueByShare 4 = .ok (.iload_n 1, 1) := by decide +kernel
theorem dX2_valueByShare_5 : decode cX2_valueByShare 5 = .ok (.aload_n 0, 1) := by decide +kernel
theorem dX2_valueByShare_6 : decode cX2_valueByShare 6 = .ok (.getfield 21, 3) := by decide +kernel
theorem dX2_valueByShare_9 : decode cX2_valueByShare 9 = .ok (.getfield 31, 3) := by decide +kernel
theorem dX2_valueByShare_12 : decode cX2_valueByShare 12 = .ok (.iload_n 1, 1) := by decide +kernel
theorem dX2_valueByShare_13 : decode cX2_valueByShare 13 = .ok (.laload, 1) := by decide +kernel
theorem dX2_valueByShare_14 : decode cX2_valueByShare 14 = .ok (.lload_n 2, 1) := by decide +kernel
theorem dX2_valueByShare_15 : decode cX2_valueByShare 15 = .ok (.lmul, 1) := by decide +kernel
theorem dX2_valueByShare_16 : decode cX2_valueByShare 16 = .ok (.lastore, 1) := by decide +kernel
theorem dX2_valueByShare_17 : decode cX2_valueByShare 17 = .ok (.return_, 1) := by decide +kernel
