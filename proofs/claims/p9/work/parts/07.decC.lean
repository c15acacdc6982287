theorem dX3_init_0 : decode cX3_init 0 = .ok (.aload_n 0, 1) := by decide +kernel
theorem dX3_init_1 : decode cX3_init 1 = .ok (.invokespecial 3, 3) := by decide +kernel
theorem dX3_init_4 : decode cX3_init 4 = .ok (.aload_n 0, 1) := by decide +kernel
theorem dX3_init_5 : decode cX3_init 5 = .ok (.bipush 10, 2) := by decide +kernel
theorem dX3_init_7 : decode cX3_init 7 = .ok (.newarray .int, 2) := by decide +kernel
theorem dX3_init_9 : decode cX3_init 9 = .ok (.putfield 9, 3) := by decide +kernel
theorem dX3_init_12 : decode cX3_init 12 = .ok (.aload_n 0, 1) := by decide +kernel
theorem dX3_init_13 : decode cX3_init 13 = .ok (.bipush 12, 2) := by decide +kernel
theorem dX3_init_15 : decode cX3_init 15 = .ok (.newarray .long, 2) := by decide +kernel
theorem dX3_init_17 : decode cX3_init 17 = .ok (.putfield 15, 3) := by decide +kernel
theorem dX3_init_20 : decode cX3_init 20 = .ok (.return_, 1) := by decide +kernel
theorem dX4_init_0 : decode cX4_init 0 = .ok (.aload_n 0, 1) := by decide +kernel
theorem dX4_init_1 : decode cX4_init 1 = .ok (.invokespecial 3, 3) := by decide +kernel
theorem dX4_init_4 : decode cX4_init 4 = .ok (.aload_n 0, 1) := by decide +kernel
theorem dX4_init_5 : decode cX4_init 5 = .ok (.bipush 10, 2) := by decide +kernel
theorem dX4_init_7 : decode cX4_init 7 = .ok (.newarray .int, 2) := by decide +kernel
theorem dX4_init_9 : decode cX4_init 9 = .ok (.putfield 9, 3) := by decide +kernel
theorem dX4_init_12 : decode cX4_init 12 = .ok (.aload_n 0, 1) := by decide +kernel
theorem dX4_init_13 : decode cX4_init 13 = .ok (.bipush 10, 2) := by decide +kernel
theorem dX4_init_15 : decode cX4_init 15 = .ok (.newarray .int, 2) := by decide +kernel
theorem dX4_init_17 : decode cX4_init 17 = .ok (.putfield 15, 3) := by decide +kernel
theorem dX4_init_20 : decode cX4_init 20 = .ok (.aload_n 0, 1) := by decide +kernel
theorem dX4_init_21 : decode cX4_init 21 = .ok (.iconst 4, 1) := by decide +kernel
theorem dX4_init_22 : decode cX4_init 22 = .ok (.newarray .long, 2) := by decide +kernel
theorem dX4_init_24 : decode cX4_init 24 = .ok (.putfield 18, 3) := by decide +kernel
theorem dX4_init_27 : decode cX4_init 27 = .ok (.aload_n 0, 1) := by decide +kernel
theorem dX4_init_28 : decode cX4_init 28 = .ok (.aload_n 1, 1) := by decide +kernel
theorem dX4_init_29 : decode cX4_init 29 = .ok (.putfield 22, 3) := by decide +kernel
theorem dX4_init_32 : decode cX4_init 32 = .ok (.aload_n 0, 1) := by decide +kernel
theorem dX4_init_33 : decode cX4_init 33 = .ok (.getfield 9, 3) := by decide +kernel
theorem dX4_init_36 : decode cX4_init 36 = .ok (.iconst (-1), 1) := by decide +kernel
theorem dX4_init_37 : decode cX4_init 37 = .ok (.invokestatic 26, 3) := by decide +kernel
theorem dX4_init_40 : decode cX4_init 40 = .ok (.return_, 1) := by decide +kernel
theorem dX3_keepRow_0 : decode cX3_keepRow 0 = .ok (.aload_n 0, 1) := by decide +kernel
theorem dX3_keepRow_1 : decode cX3_keepRow 1 = .ok (.iconst 0, 1) := by decide +kernel
theorem dX3_keepRow_2 : decode cX3_keepRow 2 = .ok (.putfield 19, 3) := by decide +kernel
theorem dX3_keepRow_5 : decode cX3_keepRow 5 = .ok (.aload_n 0, 1) := by decide +kernel
theorem dX3_keepRow_6 : decode cX3_keepRow 6 = .ok (.iconst 0, 1) := by decide +kernel
theorem dX3_keepRow_7 : decode cX3_keepRow 7 = .ok (.putfield 23, 3) := by decide +kernel
theorem dX3_keepRow_10 : decode cX3_keepRow 10 = .ok (.aload_n 1, 1) := by decide +kernel
theorem dX3_keepRow_11 : decode cX3_keepRow 11 = .ok (.iconst 0, 1) := by decide +kernel
theorem dX3_keepRow_12 : decode cX3_keepRow 12 = .ok (.iconst (-1), 1) := by decide +kernel
theorem dX3_keepRow_13 : decode cX3_keepRow 13 = .ok (.invokevirtual 26, 3) := by decide +kernel
theorem dX3_keepRow_16 : decode cX3_keepRow 16 = .ok (.istore_n 2, 1) := by decide +kernel
theorem dX3_keepRow_17 : decode cX3_keepRow 17 = .ok (.iload_n 2, 1) := by decide +kernel
theorem dX3_keepRow_18 : decode cX3_keepRow 18 = .ok (.iconst (-1), 1) := by decide +kernel
theorem dX3_keepRow_19 : decode cX3_keepRow 19 = .ok (.if_icmp .eq 57, 3) := by decide +kernel
theorem dX3_keepRow_22 : decode cX3_keepRow 22 = .ok (.aload_n 0, 1) := by decide +kernel
theorem dX3_keepRow_23 : decode cX3_keepRow 23 = .ok (.getfield 19, 3) := by decide +kernel
theorem dX3_keepRow_26 : decode cX3_keepRow 26 = .ok (.bipush 10, 2) := by decide +kernel
theorem dX3_keepRow_28 : decode cX3_keepRow 28 = .ok (.if_icmp .ge 48, 3) := by decide +kernel
theorem dX3_keepRow_31 : decode cX3_keepRow 31 = .ok (.aload_n 0, 1) := by decide +kernel
theorem dX3_keepRow_32 : decode cX3_keepRow 32 = .ok (.getfield 9, 3) := by decide +kernel
theorem dX3_keepRow_35 : decode cX3_keepRow 35 = .ok (.aload_n 0, 1) := by decide +kernel
theorem dX3_keepRow_36 : decode cX3_keepRow 36 = .ok (.getfield 19, 3) := by decide +kernel
theorem dX3_keepRow_39 : decode cX3_keepRow 39 = .ok (.iload_n 2, 1) := by decide +kernel
theorem dX3_keepRow_40 : decode cX3_keepRow 40 = .ok (.iastore, 1) := by decide +kernel
theorem dX3_keepRow_41 : decode cX3_keepRow 41 = .ok (.aload_n 0, 1) := by decide +kernel
theorem dX3_keepRow_42 : decode cX3_keepRow 42 = .ok (.dup, 1) := by decide +kernel
theorem dX3_keepRow_43 : decode cX3_keepRow 43 = .ok (.getfield 19, 3) := by decide +kernel
theorem dX3_keepRow_46 : decode cX3_keepRow 46 = .ok (.iconst 1, 1) := by decide +kernel
theorem dX3_keepRow_47 : decode cX3_keepRow 47 = .ok (.iadd, 1) := by decide +kernel
theorem dX3_keepRow_48 : decode cX3_keepRow 48 = .ok (.putfield 19, 3) := by decide +kernel
theorem dX3_keepRow_51 : decode cX3_keepRow 51 = .ok (.aload_n 0, 1) := by decide +kernel
theorem dX3_keepRow_52 : decode cX3_keepRow 52 = .ok (.dup, 1) := by decide +kernel
theorem dX3_keepRow_53 : decode cX3_keepRow 53 = .ok (.getfield 23, 3) := by decide +kernel
theorem dX3_keepRow_56 : decode cX3_keepRow 56 = .ok (.iconst 1, 1) := by decide +kernel
theorem dX3_keepRow_57 : decode cX3_keepRow 57 = .ok (.iload_n 2, 1) := by decide +kernel
theorem dX3_keepRow_58 : decode cX3_keepRow 58 = .ok (.ishl, 1) := by decide +kernel
theorem dX3_keepRow_59 : decode cX3_keepRow 59 = .ok (.ior, 1) := by decide +kernel
theorem dX3_keepRow_60 : decode cX3_keepRow 60 = .ok (.putfield 23, 3) := by decide +kernel
theorem dX3_keepRow_63 : decode cX3_keepRow 63 = .ok (.aload_n 1, 1) := by decide +kernel
theorem dX3_keepRow_64 : decode cX3_keepRow 64 = .ok (.aload_n 0, 1) := by decide +kernel
theorem dX3_keepRow_65 : decode cX3_keepRow 65 = .ok (.getfield 23, 3) := by decide +kernel
theorem dX3_keepRow_68 : decode cX3_keepRow 68 = .ok (.iload_n 2, 1) := by decide +kernel
theorem dX3_keepRow_69 : decode cX3_keepRow 69 = .ok (.invokevirtual 26, 3) := by decide +kernel
theorem dX3_keepRow_72 : decode cX3_keepRow 72 = .ok (.istore_n 2, 1) := by decide +kernel
theorem dX3_keepRow_73 : decode cX3_keepRow 73 = .ok (.goto (-56), 3) := by decide +kernel
theorem dX3_keepRow_76 : decode cX3_keepRow 76 = .ok (.aload_n 0, 1) := by decide +kernel
theorem dX3_keepRow_77 : decode cX3_keepRow 77 = .ok (.aload_n 1, 1) := by decide +kernel
theorem dX3_keepRow_78 : decode cX3_keepRow 78 = .ok (.invokevirtual 32, 3) := by decide +kernel
theorem dX3_keepRow_81 : decode cX3_keepRow 81 = .ok (.aload_n 0, 1) := by decide +kernel
theorem dX3_keepRow_82 : decode cX3_keepRow 82 = .ok (.iconst 1, 1) := by decide +kernel
theorem dX3_keepRow_83 : decode cX3_keepRow 83 = .ok (.putfield 36, 3) := by decide +kernel
theorem dX3_keepRow_86 : decode cX3_keepRow 86 = .ok (.aload_n 0, 1) := by decide +kernel
theorem dX3_keepRow_87 : decode cX3_keepRow 87 = .ok (.iconst 1, 1) := by decide +kernel
theorem dX3_keepRow_88 : decode cX3_keepRow 88 = .ok (.putfield 40, 3) := by decide +kernel
theorem dX3_keepRow_91 : decode cX3_keepRow 91 = .ok (.return_, 1) := by decide +kernel
theorem dX3_keepParts_0 : decode cX3_keepParts 0 = .ok (.aload_n 0, 1) := by decide +kernel
theorem dX3_keepParts_1 : decode cX3_keepParts 1 = .ok (.aload_n 1, 1) := by decide +kernel
theorem dX3_keepParts_2 : decode cX3_keepParts 2 = .ok (.getfield 43, 3) := by decide +kernel
theorem dX3_keepParts_5 : decode cX3_keepParts 5 = .ok (.aload_n 0, 1) := by decide +kernel
theorem dX3_keepParts_6 : decode cX3_keepParts 6 = .ok (.getfield 23, 3) := by decide +kernel
theorem dX3_keepParts_9 : decode cX3_keepParts 9 = .ok (.invokevirtual 47, 3) := by decide +kernel
theorem dX3_keepParts_12 : decode cX3_keepParts 12 = .ok (.putfield 53, 3) := by decide +kernel
theorem dX3_keepParts_15 : decode cX3_keepParts 15 = .ok (.aload_n 1, 1) := by decide +kernel
theorem dX3_keepParts_16 : decode cX3_keepParts 16 = .ok (.getfield 43, 3) := by decide +kernel
theorem dX3_keepParts_19 : decode cX3_keepParts 19 = .ok (.aload_n 0, 1) := by decide +kernel
theorem dX3_keepParts_20 : decode cX3_keepParts 20 = .ok (.getfield 23, 3) := by decide +kernel
theorem dX3_keepParts_23 : decode cX3_keepParts 23 = .ok (.invokevirtual 56, 3) := by decide +kernel
theorem dX3_keepParts_26 : decode cX3_keepParts 26 = .ok (.istore_n 2, 1) := by decide +kernel
theorem dX3_keepParts_27 : decode cX3_keepParts 27 = .ok (.iconst 0, 1) := by decide +kernel
theorem dX3_keepParts_28 : decode cX3_keepParts 28 = .ok (.istore_n 3, 1) := by decide +kernel
theorem dX3_keepParts_29 : decode cX3_keepParts 29 = .ok (.iload_n 3, 1) := by decide +kernel
theorem dX3_keepParts_30 : decode cX3_keepParts 30 = .ok (.bipush 12, 2) := by decide +kernel
theorem dX3_keepParts_32 : decode cX3_keepParts 32 = .ok (.if_icmp .ge 33, 3) := by decide +kernel
theorem dX3_keepParts_35 : decode cX3_keepParts 35 = .ok (.aload_n 0, 1) := by decide +kernel
theorem dX3_keepParts_36 : decode cX3_keepParts 36 = .ok (.getfield 15, 3) := by decide +kernel
theorem dX3_keepParts_39 : decode cX3_keepParts 39 = .ok (.iload_n 3, 1) := by decide +kernel
theorem dX3_keepParts_40 : decode cX3_keepParts 40 = .ok (.iload_n 2, 1) := by decide +kernel
theorem dX3_keepParts_41 : decode cX3_keepParts 41 = .ok (.iload_n 3, 1) := by decide +kernel
theorem dX3_keepParts_42 : decode cX3_keepParts 42 = .ok (.invokestatic 59, 3) := by decide +kernel
theorem dX3_keepParts_45 : decode cX3_keepParts 45 = .ok (.ifCond .eq 12, 3) := by decide +kernel
theorem dX3_keepParts_48 : decode cX3_keepParts 48 = .ok (.aload_n 1, 1) := by decide +kernel
theorem dX3_keepParts_49 : decode cX3_keepParts 49 = .ok (.getfield 63, 3) := by decide +kernel
theorem dX3_keepParts_52 : decode cX3_keepParts 52 = .ok (.iload_n 3, 1) := by decide +kernel
theorem dX3_keepParts_53 : decode cX3_keepParts 53 = .ok (.laload, 1) := by decide +kernel
theorem dX3_keepParts_54 : decode cX3_keepParts 54 = .ok (.goto 4, 3) := by decide +kernel
theorem dX3_keepParts_57 : decode cX3_keepParts 57 = .ok (.lconst 0, 1) := by decide +kernel
theorem dX3_keepParts_58 : decode cX3_keepParts 58 = .ok (.lastore, 1) := by decide +kernel
theorem dX3_keepParts_59 : decode cX3_keepParts 59 = .ok (.iinc 3 1, 3) := by decide +kernel
theorem dX3_keepParts_62 : decode cX3_keepParts 62 = .ok (.goto (-33), 3) := by decide +kernel
theorem dX3_keepParts_65 : decode cX3_keepParts 65 = .ok (.return_, 1) := by decide +kernel
theorem dX4_shareOut_0 : decode cX4_shareOut 0 = .ok (.aload_n 0, 1) := by decide +kernel
theorem dX4_shareOut_1 : decode cX4_shareOut 1 = .ok (.iload_n 1, 1) := by decide +kernel
theorem dX4_shareOut_2 : decode cX4_shareOut 2 = .ok (.putfield 32, 3) := by decide +kernel
theorem dX4_shareOut_5 : decode cX4_shareOut 5 = .ok (.aload_n 0, 1) := by decide +kernel
theorem dX4_shareOut_6 : decode cX4_shareOut 6 = .ok (.iload_n 2, 1) := by decide +kernel
theorem dX4_shareOut_7 : decode cX4_shareOut 7 = .ok (.putfield 36, 3) := by decide +kernel
theorem dX4_shareOut_10 : decode cX4_shareOut 10 = .ok (.aload_n 0, 1) := by decide +kernel
theorem dX4_shareOut_11 : decode cX4_shareOut 11 = .ok (.invokevirtual 39, 3) := by decide +kernel
theorem dX4_shareOut_14 : decode cX4_shareOut 14 = .ok (.aload_n 0, 1) := by decide +kernel
theorem dX4_shareOut_15 : decode cX4_shareOut 15 = .ok (.getfield 18, 3) := by decide +kernel
theorem dX4_shareOut_18 : decode cX4_shareOut 18 = .ok (.lconst 0, 1) := by decide +kernel
theorem dX4_shareOut_19 : decode cX4_shareOut 19 = .ok (.invokestatic 42, 3) := by decide +kernel
theorem dX4_shareOut_22 : decode cX4_shareOut 22 = .ok (.aload_n 0, 1) := by decide +kernel
theorem dX4_shareOut_23 : decode cX4_shareOut 23 = .ok (.iconst 0, 1) := by decide +kernel
theorem dX4_shareOut_24 : decode cX4_shareOut 24 = .ok (.lconst 0, 1) := by decide +kernel
theorem dX4_shareOut_25 : decode cX4_shareOut 25 = .ok (.invokestatic 45, 3) := by decide +kernel
theorem dX4_shareOut_28 : decode cX4_shareOut 28 = .ok (.aload_n 0, 1) := by decide +kernel
theorem dX4_shareOut_29 : decode cX4_shareOut 29 = .ok (.getfield 49, 3) := by decide +kernel
theorem dX4_shareOut_32 : decode cX4_shareOut 32 = .ok (.lreturn, 1) := by decide +kernel
theorem dX4_setLimits_0 : decode cX4_setLimits 0 = .ok (.lconst 0, 1) := by decide +kernel
theorem dX4_setLimits_1 : decode cX4_setLimits 1 = .ok (.lstore_n 1, 1) := by decide +kernel
theorem dX4_setLimits_2 : decode cX4_setLimits 2 = .ok (.lconst 0, 1) := by decide +kernel
theorem dX4_setLimits_3 : decode cX4_setLimits 3 = .ok (.lstore_n 3, 1) := by decide +kernel
theorem dX4_setLimits_4 : decode cX4_setLimits 4 = .ok (.iconst 0, 1) := by decide +kernel
theorem dX4_setLimits_5 : decode cX4_setLimits 5 = .ok (.istore 5, 2) := by decide +kernel
theorem dX4_setLimits_7 : decode cX4_setLimits 7 = .ok (.iload 5, 2) := by decide +kernel
theorem dX4_setLimits_9 : decode cX4_setLimits 9 = .ok (.aload_n 0, 1) := by decide +kernel
theorem dX4_setLimits_10 : decode cX4_setLimits 10 = .ok (.getfield 22, 3) := by decide +kernel
theorem dX4_setLimits_13 : decode cX4_setLimits 13 = .ok (.getfield 53, 3) := by decide +kernel
theorem dX4_setLimits_16 : decode cX4_setLimits 16 = .ok (.if_icmp .ge 49, 3) := by decide +kernel
theorem dX4_setLimits_19 : decode cX4_setLimits 19 = .ok (.aload_n 0, 1) := by decide +kernel
theorem dX4_setLimits_20 : decode cX4_setLimits 20 = .ok (.getfield 32, 3) := by decide +kernel
theorem dX4_setLimits_23 : decode cX4_setLimits 23 = .ok (.iload 5, 2) := by decide +kernel
theorem dX4_setLimits_25 : decode cX4_setLimits 25 = .ok (.invokestatic 58, 3) := by decide +kernel
theorem dX4_setLimits_28 : decode cX4_setLimits 28 = .ok (.ifCond .eq 31, 3) := by decide +kernel
theorem dX4_setLimits_31 : decode cX4_setLimits 31 = .ok (.lload_n 1, 1) := by decide +kernel
theorem dX4_setLimits_32 : decode cX4_setLimits 32 = .ok (.aload_n 0, 1) := by decide +kernel
theorem dX4_setLimits_33 : decode cX4_setLimits 33 = .ok (.getfield 22, 3) := by decide +kernel
theorem dX4_setLimits_36 : decode cX4_setLimits 36 = .ok (.getfield 62, 3) := by decide +kernel
theorem dX4_setLimits_39 : decode cX4_setLimits 39 = .ok (.iload 5, 2) := by decide +kernel
theorem dX4_setLimits_41 : decode cX4_setLimits 41 = .ok (.laload, 1) := by decide +kernel
theorem dX4_setLimits_42 : decode cX4_setLimits 42 = .ok (.ladd, 1) := by decide +kernel
theorem dX4_setLimits_43 : decode cX4_setLimits 43 = .ok (.lstore_n 1, 1) := by decide +kernel
theorem dX4_setLimits_44 : decode cX4_setLimits 44 = .ok (.lload_n 3, 1) := by decide +kernel
theorem dX4_setLimits_45 : decode cX4_setLimits 45 = .ok (.aload_n 0, 1) := by decide +kernel
theorem dX4_setLimits_46 : decode cX4_setLimits 46 = .ok (.getfield 22, 3) := by decide +kernel
theorem dX4_setLimits_49 : decode cX4_setLimits 49 = .ok (.getfield 62, 3) := by decide +kernel
theorem dX4_setLimits_52 : decode cX4_setLimits 52 = .ok (.iload 5, 2) := by decide +kernel
theorem dX4_setLimits_54 : decode cX4_setLimits 54 = .ok (.laload, 1) := by decide +kernel
theorem dX4_setLimits_55 : decode cX4_setLimits 55 = .ok (.invokestatic 65, 3) := by decide +kernel
theorem dX4_setLimits_58 : decode cX4_setLimits 58 = .ok (.lstore_n 3, 1) := by decide +kernel
theorem dX4_setLimits_59 : decode cX4_setLimits 59 = .ok (.iinc 5 1, 3) := by decide +kernel
theorem dX4_setLimits_62 : decode cX4_setLimits 62 = .ok (.goto (-55), 3) := by decide +kernel
theorem dX4_setLimits_65 : decode cX4_setLimits 65 = .ok (.aload_n 0, 1) := by decide +kernel
theorem dX4_setLimits_66 : decode cX4_setLimits 66 = .ok (.lload_n 1, 1) := by decide +kernel
theorem dX4_setLimits_67 : decode cX4_setLimits 67 = .ok (.lconst 1, 1) := by decide +kernel
theorem dX4_setLimits_68 : decode cX4_setLimits 68 = .ok (.ladd, 1) := by decide +kernel
theorem dX4_setLimits_69 : decode cX4_setLimits 69 = .ok (.putfield 49, 3) := by decide +kernel
theorem dX4_setLimits_72 : decode cX4_setLimits 72 = .ok (.aload_n 0, 1) := by decide +kernel
theorem dX4_setLimits_73 : decode cX4_setLimits 73 = .ok (.aload_n 0, 1) := by decide +kernel
theorem dX4_setLimits_74 : decode cX4_setLimits 74 = .ok (.getfield 36, 3) := by decide +kernel
theorem dX4_setLimits_77 : decode cX4_setLimits 77 = .ok (.ifCond .le 25, 3) := by decide +kernel
theorem dX4_setLimits_80 : decode cX4_setLimits 80 = .ok (.lload_n 3, 1) := by decide +kernel
theorem dX4_setLimits_81 : decode cX4_setLimits 81 = .ok (.lload_n 1, 1) := by decide +kernel
theorem dX4_setLimits_82 : decode cX4_setLimits 82 = .ok (.aload_n 0, 1) := by decide +kernel
theorem dX4_setLimits_83 : decode cX4_setLimits 83 = .ok (.getfield 36, 3) := by decide +kernel
theorem dX4_setLimits_86 : decode cX4_setLimits 86 = .ok (.i2l, 1) := by decide +kernel
theorem dX4_setLimits_87 : decode cX4_setLimits 87 = .ok (.ladd, 1) := by decide +kernel
theorem dX4_setLimits_88 : decode cX4_setLimits 88 = .ok (.lconst 1, 1) := by decide +kernel
theorem dX4_setLimits_89 : decode cX4_setLimits 89 = .ok (.lsub, 1) := by decide +kernel
theorem dX4_setLimits_90 : decode cX4_setLimits 90 = .ok (.aload_n 0, 1) := by decide +kernel
theorem dX4_setLimits_91 : decode cX4_setLimits 91 = .ok (.getfield 36, 3) := by decide +kernel
theorem dX4_setLimits_94 : decode cX4_setLimits 94 = .ok (.i2l, 1) := by decide +kernel
theorem dX4_setLimits_95 : decode cX4_setLimits 95 = .ok (.ldiv, 1) := by decide +kernel
theorem dX4_setLimits_96 : decode cX4_setLimits 96 = .ok (.invokestatic 65, 3) := by decide +kernel
theorem dX4_setLimits_99 : decode cX4_setLimits 99 = .ok (.goto 4, 3) := by decide +kernel
theorem dX4_setLimits_102 : decode cX4_setLimits 102 = .ok (.lload_n 1, 1) := by decide +kernel
theorem dX4_setLimits_103 : decode cX4_setLimits 103 = .ok (.putfield 71, 3) := by decide +kernel
theorem dX4_setLimits_106 : decode cX4_setLimits 106 = .ok (.return_, 1) := by decide +kernel
theorem dX4_tryFrom_0 : decode cX4_tryFrom 0 = .ok (.iload_n 1, 1) := by decide +kernel
theorem dX4_tryFrom_1 : decode cX4_tryFrom 1 = .ok (.aload_n 0, 1) := by decide +kernel
theorem dX4_tryFrom_2 : decode cX4_tryFrom 2 = .ok (.getfield 22, 3) := by decide +kernel
theorem dX4_tryFrom_5 : decode cX4_tryFrom 5 = .ok (.getfield 53, 3) := by decide +kernel
theorem dX4_tryFrom_8 : decode cX4_tryFrom 8 = .ok (.if_icmp .lt 9, 3) := by decide +kernel
theorem dX4_tryFrom_11 : decode cX4_tryFrom 11 = .ok (.aload_n 0, 1) := by decide +kernel
theorem dX4_tryFrom_12 : decode cX4_tryFrom 12 = .ok (.lload_n 2, 1) := by decide +kernel
theorem dX4_tryFrom_13 : decode cX4_tryFrom 13 = .ok (.invokevirtual 74, 3) := by decide +kernel
theorem dX4_tryFrom_16 : decode cX4_tryFrom 16 = .ok (.return_, 1) := by decide +kernel
theorem dX4_tryFrom_17 : decode cX4_tryFrom 17 = .ok (.aload_n 0, 1) := by decide +kernel
theorem dX4_tryFrom_18 : decode cX4_tryFrom 18 = .ok (.getfield 32, 3) := by decide +kernel
theorem dX4_tryFrom_21 : decode cX4_tryFrom 21 = .ok (.iload_n 1, 1) := by decide +kernel
theorem dX4_tryFrom_22 : decode cX4_tryFrom 22 = .ok (.invokestatic 58, 3) := by decide +kernel
theorem dX4_tryFrom_25 : decode cX4_tryFrom 25 = .ok (.ifCond .ne 12, 3) := by decide +kernel
theorem dX4_tryFrom_28 : decode cX4_tryFrom 28 = .ok (.aload_n 0, 1) := by decide +kernel
theorem dX4_tryFrom_29 : decode cX4_tryFrom 29 = .ok (.iload_n 1, 1) := by decide +kernel
theorem dX4_tryFrom_30 : decode cX4_tryFrom 30 = .ok (.iconst 1, 1) := by decide +kernel
theorem dX4_tryFrom_31 : decode cX4_tryFrom 31 = .ok (.iadd, 1) := by decide +kernel
theorem dX4_tryFrom_32 : decode cX4_tryFrom 32 = .ok (.lload_n 2, 1) := by decide +kernel
theorem dX4_tryFrom_33 : decode cX4_tryFrom 33 = .ok (.invokestatic 45, 3) := by decide +kernel
theorem dX4_tryFrom_36 : decode cX4_tryFrom 36 = .ok (.return_, 1) := by decide +kernel
theorem dX4_tryFrom_37 : decode cX4_tryFrom 37 = .ok (.aload_n 0, 1) := by decide +kernel
theorem dX4_tryFrom_38 : decode cX4_tryFrom 38 = .ok (.getfield 22, 3) := by decide +kernel
theorem dX4_tryFrom_41 : decode cX4_tryFrom 41 = .ok (.getfield 62, 3) := by decide +kernel
theorem dX4_tryFrom_44 : decode cX4_tryFrom 44 = .ok (.iload_n 1, 1) := by decide +kernel
theorem dX4_tryFrom_45 : decode cX4_tryFrom 45 = .ok (.laload, 1) := by decide +kernel
theorem dX4_tryFrom_46 : decode cX4_tryFrom 46 = .ok (.lstore 4, 2) := by decide +kernel
theorem dX4_tryFrom_48 : decode cX4_tryFrom 48 = .ok (.aload_n 0, 1) := by decide +kernel
theorem dX4_tryFrom_49 : decode cX4_tryFrom 49 = .ok (.iload_n 1, 1) := by decide +kernel
theorem dX4_tryFrom_50 : decode cX4_tryFrom 50 = .ok (.invokevirtual 78, 3) := by decide +kernel
theorem dX4_tryFrom_53 : decode cX4_tryFrom 53 = .ok (.istore 6, 2) := by decide +kernel
theorem dX4_tryFrom_55 : decode cX4_tryFrom 55 = .ok (.aload_n 0, 1) := by decide +kernel
theorem dX4_tryFrom_56 : decode cX4_tryFrom 56 = .ok (.iload_n 1, 1) := by decide +kernel
theorem dX4_tryFrom_57 : decode cX4_tryFrom 57 = .ok (.invokevirtual 82, 3) := by decide +kernel
theorem dX4_tryFrom_60 : decode cX4_tryFrom 60 = .ok (.istore 7, 2) := by decide +kernel
theorem dX4_tryFrom_62 : decode cX4_tryFrom 62 = .ok (.iload 7, 2) := by decide +kernel
theorem dX4_tryFrom_64 : decode cX4_tryFrom 64 = .ok (.iload 6, 2) := by decide +kernel
theorem dX4_tryFrom_66 : decode cX4_tryFrom 66 = .ok (.if_icmp .gt 88, 3) := by decide +kernel
theorem dX4_tryFrom_69 : decode cX4_tryFrom 69 = .ok (.aload_n 0, 1) := by decide +kernel
theorem dX4_tryFrom_70 : decode cX4_tryFrom 70 = .ok (.getfield 49, 3) := by decide +kernel
theorem dX4_tryFrom_73 : decode cX4_tryFrom 73 = .ok (.aload_n 0, 1) := by decide +kernel
theorem dX4_tryFrom_74 : decode cX4_tryFrom 74 = .ok (.getfield 71, 3) := by decide +kernel
theorem dX4_tryFrom_77 : decode cX4_tryFrom 77 = .ok (.lcmp, 1) := by decide +kernel
theorem dX4_tryFrom_78 : decode cX4_tryFrom 78 = .ok (.ifCond .le 76, 3) := by decide +kernel
theorem dX4_tryFrom_81 : decode cX4_tryFrom 81 = .ok (.lload_n 2, 1) := by decide +kernel
theorem dX4_tryFrom_82 : decode cX4_tryFrom 82 = .ok (.aload_n 0, 1) := by decide +kernel
theorem dX4_tryFrom_83 : decode cX4_tryFrom 83 = .ok (.getfield 18, 3) := by decide +kernel
theorem dX4_tryFrom_86 : decode cX4_tryFrom 86 = .ok (.iload 7, 2) := by decide +kernel
theorem dX4_tryFrom_88 : decode cX4_tryFrom 88 = .ok (.laload, 1) := by decide +kernel
theorem dX4_tryFrom_89 : decode cX4_tryFrom 89 = .ok (.lload 4, 2) := by decide +kernel
theorem dX4_tryFrom_91 : decode cX4_tryFrom 91 = .ok (.ladd, 1) := by decide +kernel
theorem dX4_tryFrom_92 : decode cX4_tryFrom 92 = .ok (.invokestatic 65, 3) := by decide +kernel
theorem dX4_tryFrom_95 : decode cX4_tryFrom 95 = .ok (.lstore 8, 2) := by decide +kernel
theorem dX4_tryFrom_97 : decode cX4_tryFrom 97 = .ok (.lload 8, 2) := by decide +kernel
theorem dX4_tryFrom_99 : decode cX4_tryFrom 99 = .ok (.aload_n 0, 1) := by decide +kernel
theorem dX4_tryFrom_100 : decode cX4_tryFrom 100 = .ok (.getfield 49, 3) := by decide +kernel
theorem dX4_tryFrom_103 : decode cX4_tryFrom 103 = .ok (.lcmp, 1) := by decide +kernel
theorem dX4_tryFrom_104 : decode cX4_tryFrom 104 = .ok (.ifCond .ge 44, 3) := by decide +kernel
theorem dX4_tryFrom_107 : decode cX4_tryFrom 107 = .ok (.aload_n 0, 1) := by decide +kernel
theorem dX4_tryFrom_108 : decode cX4_tryFrom 108 = .ok (.getfield 15, 3) := by decide +kernel
theorem dX4_tryFrom_111 : decode cX4_tryFrom 111 = .ok (.iload_n 1, 1) := by decide +kernel
theorem dX4_tryFrom_112 : decode cX4_tryFrom 112 = .ok (.iload 7, 2) := by decide +kernel
theorem dX4_tryFrom_114 : decode cX4_tryFrom 114 = .ok (.iastore, 1) := by decide +kernel
theorem dX4_tryFrom_115 : decode cX4_tryFrom 115 = .ok (.aload_n 0, 1) := by decide +kernel
theorem dX4_tryFrom_116 : decode cX4_tryFrom 116 = .ok (.getfield 18, 3) := by decide +kernel
theorem dX4_tryFrom_119 : decode cX4_tryFrom 119 = .ok (.iload 7, 2) := by decide +kernel
theorem dX4_tryFrom_121 : decode cX4_tryFrom 121 = .ok (.dup2, 1) := by decide +kernel
theorem dX4_tryFrom_122 : decode cX4_tryFrom 122 = .ok (.laload, 1) := by decide +kernel
theorem dX4_tryFrom_123 : decode cX4_tryFrom 123 = .ok (.lload 4, 2) := by decide +kernel
theorem dX4_tryFrom_125 : decode cX4_tryFrom 125 = .ok (.ladd, 1) := by decide +kernel
theorem dX4_tryFrom_126 : decode cX4_tryFrom 126 = .ok (.lastore, 1) := by decide +kernel
theorem dX4_tryFrom_127 : decode cX4_tryFrom 127 = .ok (.aload_n 0, 1) := by decide +kernel
theorem dX4_tryFrom_128 : decode cX4_tryFrom 128 = .ok (.iload_n 1, 1) := by decide +kernel
theorem dX4_tryFrom_129 : decode cX4_tryFrom 129 = .ok (.iconst 1, 1) := by decide +kernel
theorem dX4_tryFrom_130 : decode cX4_tryFrom 130 = .ok (.iadd, 1) := by decide +kernel
theorem dX4_tryFrom_131 : decode cX4_tryFrom 131 = .ok (.lload 8, 2) := by decide +kernel
theorem dX4_tryFrom_133 : decode cX4_tryFrom 133 = .ok (.invokestatic 45, 3) := by decide +kernel
theorem dX4_tryFrom_136 : decode cX4_tryFrom 136 = .ok (.aload_n 0, 1) := by decide +kernel
theorem dX4_tryFrom_137 : decode cX4_tryFrom 137 = .ok (.getfield 18, 3) := by decide +kernel
theorem dX4_tryFrom_140 : decode cX4_tryFrom 140 = .ok (.iload 7, 2) := by decide +kernel
theorem dX4_tryFrom_142 : decode cX4_tryFrom 142 = .ok (.dup2, 1) := by decide +kernel
theorem dX4_tryFrom_143 : decode cX4_tryFrom 143 = .ok (.laload, 1) := by decide +kernel
theorem dX4_tryFrom_144 : decode cX4_tryFrom 144 = .ok (.lload 4, 2) := by decide +kernel
theorem dX4_tryFrom_146 : decode cX4_tryFrom 146 = .ok (.lsub, 1) := by decide +kernel
theorem dX4_tryFrom_147 : decode cX4_tryFrom 147 = .ok (.lastore, 1) := by decide +kernel
theorem dX4_tryFrom_148 : decode cX4_tryFrom 148 = .ok (.iinc 7 1, 3) := by decide +kernel
theorem dX4_tryFrom_151 : decode cX4_tryFrom 151 = .ok (.goto (-89), 3) := by decide +kernel
theorem dX4_tryFrom_154 : decode cX4_tryFrom 154 = .ok (.return_, 1) := by decide +kernel
theorem dX4_keepTrial_0 : decode cX4_keepTrial 0 = .ok (.aload_n 0, 1) := by decide +kernel
theorem dX4_keepTrial_1 : decode cX4_keepTrial 1 = .ok (.lload_n 1, 1) := by decide +kernel
theorem dX4_keepTrial_2 : decode cX4_keepTrial 2 = .ok (.putfield 49, 3) := by decide +kernel
theorem dX4_keepTrial_5 : decode cX4_keepTrial 5 = .ok (.iconst 0, 1) := by decide +kernel
theorem dX4_keepTrial_6 : decode cX4_keepTrial 6 = .ok (.istore_n 3, 1) := by decide +kernel
theorem dX4_keepTrial_7 : decode cX4_keepTrial 7 = .ok (.iload_n 3, 1) := by decide +kernel
theorem dX4_keepTrial_8 : decode cX4_keepTrial 8 = .ok (.aload_n 0, 1) := by decide +kernel
theorem dX4_keepTrial_9 : decode cX4_keepTrial 9 = .ok (.getfield 22, 3) := by decide +kernel
theorem dX4_keepTrial_12 : decode cX4_keepTrial 12 = .ok (.getfield 53, 3) := by decide +kernel
theorem dX4_keepTrial_15 : decode cX4_keepTrial 15 = .ok (.if_icmp .ge 36, 3) := by decide +kernel
theorem dX4_keepTrial_18 : decode cX4_keepTrial 18 = .ok (.aload_n 0, 1) := by decide +kernel
theorem dX4_keepTrial_19 : decode cX4_keepTrial 19 = .ok (.getfield 9, 3) := by decide +kernel
theorem dX4_keepTrial_22 : decode cX4_keepTrial 22 = .ok (.iload_n 3, 1) := by decide +kernel
theorem dX4_keepTrial_23 : decode cX4_keepTrial 23 = .ok (.aload_n 0, 1) := by decide +kernel
theorem dX4_keepTrial_24 : decode cX4_keepTrial 24 = .ok (.getfield 32, 3) := by decide +kernel
theorem dX4_keepTrial_27 : decode cX4_keepTrial 27 = .ok (.iload_n 3, 1) := by decide +kernel
theorem dX4_keepTrial_28 : decode cX4_keepTrial 28 = .ok (.invokestatic 58, 3) := by decide +kernel
theorem dX4_keepTrial_31 : decode cX4_keepTrial 31 = .ok (.ifCond .eq 12, 3) := by decide +kernel
theorem dX4_keepTrial_34 : decode cX4_keepTrial 34 = .ok (.aload_n 0, 1) := by decide +kernel
theorem dX4_keepTrial_35 : decode cX4_keepTrial 35 = .ok (.getfield 15, 3) := by decide +kernel
theorem dX4_keepTrial_38 : decode cX4_keepTrial 38 = .ok (.iload_n 3, 1) := by decide +kernel
theorem dX4_keepTrial_39 : decode cX4_keepTrial 39 = .ok (.iaload, 1) := by decide +kernel
theorem dX4_keepTrial_40 : decode cX4_keepTrial 40 = .ok (.goto 4, 3) := by decide +kernel
theorem dX4_keepTrial_43 : decode cX4_keepTrial 43 = .ok (.iconst (-1), 1) := by decide +kernel
theorem dX4_keepTrial_44 : decode cX4_keepTrial 44 = .ok (.iastore, 1) := by decide +kernel
theorem dX4_keepTrial_45 : decode cX4_keepTrial 45 = .ok (.iinc 3 1, 3) := by decide +kernel
theorem dX4_keepTrial_48 : decode cX4_keepTrial 48 = .ok (.goto (-41), 3) := by decide +kernel
theorem dX4_keepTrial_51 : decode cX4_keepTrial 51 = .ok (.return_, 1) := by decide +kernel
theorem dX4_latestFor_0 : decode cX4_latestFor 0 = .ok (.aload_n 0, 1) := by decide +kernel
theorem dX4_latestFor_1 : decode cX4_latestFor 1 = .ok (.getfield 36, 3) := by decide +kernel
theorem dX4_latestFor_4 : decode cX4_latestFor 4 = .ok (.iconst 1, 1) := by decide +kernel
theorem dX4_latestFor_5 : decode cX4_latestFor 5 = .ok (.isub, 1) := by decide +kernel
theorem dX4_latestFor_6 : decode cX4_latestFor 6 = .ok (.istore_n 2, 1) := by decide +kernel
theorem dX4_latestFor_7 : decode cX4_latestFor 7 = .ok (.iconst 0, 1) := by decide +kernel
theorem dX4_latestFor_8 : decode cX4_latestFor 8 = .ok (.istore_n 3, 1) := by decide +kernel
theorem dX4_latestFor_9 : decode cX4_latestFor 9 = .ok (.iload_n 3, 1) := by decide +kernel
theorem dX4_latestFor_10 : decode cX4_latestFor 10 = .ok (.iload_n 1, 1) := by decide +kernel
theorem dX4_latestFor_11 : decode cX4_latestFor 11 = .ok (.if_icmp .ge 47, 3) := by decide +kernel
theorem dX4_latestFor_14 : decode cX4_latestFor 14 = .ok (.aload_n 0, 1) := by decide +kernel
theorem dX4_latestFor_15 : decode cX4_latestFor 15 = .ok (.getfield 32, 3) := by decide +kernel
theorem dX4_latestFor_18 : decode cX4_latestFor 18 = .ok (.iload_n 3, 1) := by decide +kernel
theorem dX4_latestFor_19 : decode cX4_latestFor 19 = .ok (.invokestatic 58, 3) := by decide +kernel
theorem dX4_latestFor_22 : decode cX4_latestFor 22 = .ok (.ifCond .eq 30, 3) := by decide +kernel
theorem dX4_latestFor_25 : decode cX4_latestFor 25 = .ok (.aload_n 0, 1) := by decide +kernel
theorem dX4_latestFor_26 : decode cX4_latestFor 26 = .ok (.getfield 22, 3) := by decide +kernel
theorem dX4_latestFor_29 : decode cX4_latestFor 29 = .ok (.getfield 85, 3) := by decide +kernel
theorem dX4_latestFor_32 : decode cX4_latestFor 32 = .ok (.iload_n 3, 1) := by decide +kernel
theorem dX4_latestFor_33 : decode cX4_latestFor 33 = .ok (.iaload, 1) := by decide +kernel
theorem dX4_latestFor_34 : decode cX4_latestFor 34 = .ok (.iload_n 1, 1) := by decide +kernel
theorem dX4_latestFor_35 : decode cX4_latestFor 35 = .ok (.invokestatic 58, 3) := by decide +kernel
theorem dX4_latestFor_38 : decode cX4_latestFor 38 = .ok (.ifCond .eq 14, 3) := by decide +kernel
theorem dX4_latestFor_41 : decode cX4_latestFor 41 = .ok (.iload_n 2, 1) := by decide +kernel
theorem dX4_latestFor_42 : decode cX4_latestFor 42 = .ok (.aload_n 0, 1) := by decide +kernel
theorem dX4_latestFor_43 : decode cX4_latestFor 43 = .ok (.getfield 15, 3) := by decide +kernel
theorem dX4_latestFor_46 : decode cX4_latestFor 46 = .ok (.iload_n 3, 1) := by decide +kernel
theorem dX4_latestFor_47 : decode cX4_latestFor 47 = .ok (.iaload, 1) := by decide +kernel
theorem dX4_latestFor_48 : decode cX4_latestFor 48 = .ok (.invokestatic 91, 3) := by decide +kernel
theorem dX4_latestFor_51 : decode cX4_latestFor 51 = .ok (.istore_n 2, 1) := by decide +kernel
theorem dX4_latestFor_52 : decode cX4_latestFor 52 = .ok (.iinc 3 1, 3) := by decide +kernel
theorem dX4_latestFor_55 : decode cX4_latestFor 55 = .ok (.goto (-46), 3) := by decide +kernel
theorem dX4_latestFor_58 : decode cX4_latestFor 58 = .ok (.iload_n 2, 1) := by decide +kernel
theorem dX4_latestFor_59 : decode cX4_latestFor 59 = .ok (.ireturn, 1) := by decide +kernel
theorem dX4_earliestFor_0 : decode cX4_earliestFor 0 = .ok (.iconst 0, 1) := by decide +kernel
theorem dX4_earliestFor_1 : decode cX4_earliestFor 1 = .ok (.istore_n 2, 1) := by decide +kernel
theorem dX4_earliestFor_2 : decode cX4_earliestFor 2 = .ok (.iconst 0, 1) := by decide +kernel
theorem dX4_earliestFor_3 : decode cX4_earliestFor 3 = .ok (.istore_n 3, 1) := by decide +kernel
theorem dX4_earliestFor_4 : decode cX4_earliestFor 4 = .ok (.iload_n 3, 1) := by decide +kernel
theorem dX4_earliestFor_5 : decode cX4_earliestFor 5 = .ok (.iload_n 1, 1) := by decide +kernel
theorem dX4_earliestFor_6 : decode cX4_earliestFor 6 = .ok (.if_icmp .ge 41, 3) := by decide +kernel
theorem dX4_earliestFor_9 : decode cX4_earliestFor 9 = .ok (.aload_n 0, 1) := by decide +kernel
theorem dX4_earliestFor_10 : decode cX4_earliestFor 10 = .ok (.getfield 32, 3) := by decide +kernel
theorem dX4_earliestFor_13 : decode cX4_earliestFor 13 = .ok (.aload_n 0, 1) := by decide +kernel
theorem dX4_earliestFor_14 : decode cX4_earliestFor 14 = .ok (.getfield 22, 3) := by decide +kernel
theorem dX4_earliestFor_17 : decode cX4_earliestFor 17 = .ok (.getfield 85, 3) := by decide +kernel
theorem dX4_earliestFor_20 : decode cX4_earliestFor 20 = .ok (.iload_n 1, 1) := by decide +kernel
theorem dX4_earliestFor_21 : decode cX4_earliestFor 21 = .ok (.iaload, 1) := by decide +kernel
theorem dX4_earliestFor_22 : decode cX4_earliestFor 22 = .ok (.iand, 1) := by decide +kernel
theorem dX4_earliestFor_23 : decode cX4_earliestFor 23 = .ok (.iload_n 3, 1) := by decide +kernel
theorem dX4_earliestFor_24 : decode cX4_earliestFor 24 = .ok (.invokestatic 58, 3) := by decide +kernel
theorem dX4_earliestFor_27 : decode cX4_earliestFor 27 = .ok (.ifCond .eq 14, 3) := by decide +kernel
theorem dX4_earliestFor_30 : decode cX4_earliestFor 30 = .ok (.iload_n 2, 1) := by decide +kernel
theorem dX4_earliestFor_31 : decode cX4_earliestFor 31 = .ok (.aload_n 0, 1) := by decide +kernel
theorem dX4_earliestFor_32 : decode cX4_earliestFor 32 = .ok (.getfield 15, 3) := by decide +kernel
theorem dX4_earliestFor_35 : decode cX4_earliestFor 35 = .ok (.iload_n 3, 1) := by decide +kernel
theorem dX4_earliestFor_36 : decode cX4_earliestFor 36 = .ok (.iaload, 1) := by decide +kernel
theorem dX4_earliestFor_37 : decode cX4_earliestFor 37 = .ok (.invokestatic 88, 3) := by decide +kernel
theorem dX4_earliestFor_40 : decode cX4_earliestFor 40 = .ok (.istore_n 2, 1) := by decide +kernel
theorem dX4_earliestFor_41 : decode cX4_earliestFor 41 = .ok (.iinc 3 1, 3) := by decide +kernel
theorem dX4_earliestFor_44 : decode cX4_earliestFor 44 = .ok (.goto (-40), 3) := by decide +kernel
theorem dX4_earliestFor_47 : decode cX4_earliestFor 47 = .ok (.iload_n 2, 1) := by decide +kernel
theorem dX4_earliestFor_48 : decode cX4_earliestFor 48 = .ok (.ireturn, 1) := by decide +kernel
