theorem dX0_around_0 : decode cX0_around 0 = .ok (.iload_n 0, 1) := by decide +kernel
theorem dX0_around_1 : decode cX0_around 1 = .ok (.istore_n 1, 1) := by decide +kernel
theorem dX0_around_2 : decode cX0_around 2 = .ok (.iconst 0, 1) := by decide +kernel
theorem dX0_around_3 : decode cX0_around 3 = .ok (.istore_n 2, 1) := by decide +kernel
theorem dX0_around_4 : decode cX0_around 4 = .ok (.iload_n 2, 1) := by decide +kernel
theorem dX0_around_5 : decode cX0_around 5 = .ok (.bipush 30, 2) := by decide +kernel
theorem dX0_around_7 : decode cX0_around 7 = .ok (.if_icmp .ge 33, 3) := by decide +kernel
theorem dX0_around_10 : decode cX0_around 10 = .ok (.iload_n 0, 1) := by decide +kernel
theorem dX0_around_11 : decode cX0_around 11 = .ok (.iload_n 2, 1) := by decide +kernel
theorem dX0_around_12 : decode cX0_around 12 = .ok (.invokestatic 9, 3) := by decide +kernel
theorem dX0_around_15 : decode cX0_around 15 = .ok (.ifCond .eq 19, 3) := by decide +kernel
theorem dX0_around_18 : decode cX0_around 18 = .ok (.iload_n 1, 1) := by decide +kernel
theorem dX0_around_19 : decode cX0_around 19 = .ok (.iload_n 2, 1) := by decide +kernel
theorem dX0_around_20 : decode cX0_around 20 = .ok (.invokestatic 13, 3) := by decide +kernel
theorem dX0_around_23 : decode cX0_around 23 = .ok (.ifCond .ne 11, 3) := by decide +kernel
theorem dX0_around_26 : decode cX0_around 26 = .ok (.iload_n 1, 1) := by decide +kernel
theorem dX0_around_27 : decode cX0_around 27 = .ok (.iload_n 1, 1) := by decide +kernel
theorem dX0_around_28 : decode cX0_around 28 = .ok (.iload_n 2, 1) := by decide +kernel
theorem dX0_around_29 : decode cX0_around 29 = .ok (.invokestatic 18, 3) := by decide +kernel
theorem dX0_around_32 : decode cX0_around 32 = .ok (.ior, 1) := by decide +kernel
theorem dX0_around_33 : decode cX0_around 33 = .ok (.istore_n 1, 1) := by decide +kernel
theorem dX0_around_34 : decode cX0_around 34 = .ok (.iinc 2 1, 3) := by decide +kernel
theorem dX0_around_37 : decode cX0_around 37 = .ok (.goto (-33), 3) := by decide +kernel
theorem dX0_around_40 : decode cX0_around 40 = .ok (.iload_n 1, 1) := by decide +kernel
theorem dX0_around_41 : decode cX0_around 41 = .ok (.ireturn, 1) := by decide +kernel
theorem dX0_isOnRound_0 : decode cX0_isOnRound 0 = .ok (.iload_n 0, 1) := by decide +kernel
theorem dX0_isOnRound_1 : decode cX0_isOnRound 1 = .ok (.iconst 1, 1) := by decide +kernel
theorem dX0_isOnRound_2 : decode cX0_isOnRound 2 = .ok (.iload_n 1, 1) := by decide +kernel
theorem dX0_isOnRound_3 : decode cX0_isOnRound 3 = .ok (.ishl, 1) := by decide +kernel
theorem dX0_isOnRound_4 : decode cX0_isOnRound 4 = .ok (.iconst (-1), 1) := by decide +kernel
theorem dX0_isOnRound_5 : decode cX0_isOnRound 5 = .ok (.ixor, 1) := by decide +kernel
theorem dX0_isOnRound_6 : decode cX0_isOnRound 6 = .ok (.iand, 1) := by decide +kernel
theorem dX0_isOnRound_7 : decode cX0_isOnRound 7 = .ok (.istore_n 2, 1) := by decide +kernel
theorem dX0_isOnRound_8 : decode cX0_isOnRound 8 = .ok (.iload_n 2, 1) := by decide +kernel
theorem dX0_isOnRound_9 : decode cX0_isOnRound 9 = .ok (.iload_n 1, 1) := by decide +kernel
theorem dX0_isOnRound_10 : decode cX0_isOnRound 10 = .ok (.bipush 6, 2) := by decide +kernel
theorem dX0_isOnRound_12 : decode cX0_isOnRound 12 = .ok (.idiv, 1) := by decide +kernel
theorem dX0_isOnRound_13 : decode cX0_isOnRound 13 = .ok (.invokestatic 22, 3) := by decide +kernel
theorem dX0_isOnRound_16 : decode cX0_isOnRound 16 = .ok (.istore_n 3, 1) := by decide +kernel
theorem dX0_isOnRound_17 : decode cX0_isOnRound 17 = .ok (.iconst 0, 1) := by decide +kernel
theorem dX0_isOnRound_18 : decode cX0_isOnRound 18 = .ok (.istore 4, 2) := by decide +kernel
theorem dX0_isOnRound_20 : decode cX0_isOnRound 20 = .ok (.iload 4, 2) := by decide +kernel
theorem dX0_isOnRound_22 : decode cX0_isOnRound 22 = .ok (.iconst 5, 1) := by decide +kernel
theorem dX0_isOnRound_23 : decode cX0_isOnRound 23 = .ok (.if_icmp .ge 44, 3) := by decide +kernel
theorem dX0_isOnRound_26 : decode cX0_isOnRound 26 = .ok (.iconst 0, 1) := by decide +kernel
theorem dX0_isOnRound_27 : decode cX0_isOnRound 27 = .ok (.istore 5, 2) := by decide +kernel
theorem dX0_isOnRound_29 : decode cX0_isOnRound 29 = .ok (.iload 5, 2) := by decide +kernel
theorem dX0_isOnRound_31 : decode cX0_isOnRound 31 = .ok (.iconst 5, 1) := by decide +kernel
theorem dX0_isOnRound_32 : decode cX0_isOnRound 32 = .ok (.if_icmp .ge 29, 3) := by decide +kernel
theorem dX0_isOnRound_35 : decode cX0_isOnRound 35 = .ok (.iload_n 2, 1) := by decide +kernel
theorem dX0_isOnRound_36 : decode cX0_isOnRound 36 = .ok (.iload 5, 2) := by decide +kernel
theorem dX0_isOnRound_38 : decode cX0_isOnRound 38 = .ok (.invokestatic 22, 3) := by decide +kernel
theorem dX0_isOnRound_41 : decode cX0_isOnRound 41 = .ok (.istore 6, 2) := by decide +kernel
theorem dX0_isOnRound_43 : decode cX0_isOnRound 43 = .ok (.iload 6, 2) := by decide +kernel
theorem dX0_isOnRound_45 : decode cX0_isOnRound 45 = .ok (.iload_n 3, 1) := by decide +kernel
theorem dX0_isOnRound_46 : decode cX0_isOnRound 46 = .ok (.iand, 1) := by decide +kernel
theorem dX0_isOnRound_47 : decode cX0_isOnRound 47 = .ok (.ifCond .eq 8, 3) := by decide +kernel
theorem dX0_isOnRound_50 : decode cX0_isOnRound 50 = .ok (.iload_n 3, 1) := by decide +kernel
theorem dX0_isOnRound_51 : decode cX0_isOnRound 51 = .ok (.iload 6, 2) := by decide +kernel
theorem dX0_isOnRound_53 : decode cX0_isOnRound 53 = .ok (.ior, 1) := by decide +kernel
theorem dX0_isOnRound_54 : decode cX0_isOnRound 54 = .ok (.istore_n 3, 1) := by decide +kernel
theorem dX0_isOnRound_55 : decode cX0_isOnRound 55 = .ok (.iinc 5 1, 3) := by decide +kernel
theorem dX0_isOnRound_58 : decode cX0_isOnRound 58 = .ok (.goto (-29), 3) := by decide +kernel
theorem dX0_isOnRound_61 : decode cX0_isOnRound 61 = .ok (.iinc 4 1, 3) := by decide +kernel
theorem dX0_isOnRound_64 : decode cX0_isOnRound 64 = .ok (.goto (-44), 3) := by decide +kernel
theorem dX0_isOnRound_67 : decode cX0_isOnRound 67 = .ok (.iload_n 3, 1) := by decide +kernel
theorem dX0_isOnRound_68 : decode cX0_isOnRound 68 = .ok (.iload_n 1, 1) := by decide +kernel
theorem dX0_isOnRound_69 : decode cX0_isOnRound 69 = .ok (.bipush 6, 2) := by decide +kernel
theorem dX0_isOnRound_71 : decode cX0_isOnRound 71 = .ok (.irem, 1) := by decide +kernel
theorem dX0_isOnRound_72 : decode cX0_isOnRound 72 = .ok (.invokestatic 9, 3) := by decide +kernel
theorem dX0_isOnRound_75 : decode cX0_isOnRound 75 = .ok (.ireturn, 1) := by decide +kernel
theorem dX0_columnsOf_0 : decode cX0_columnsOf 0 = .ok (.iload_n 0, 1) := by decide +kernel
theorem dX0_columnsOf_1 : decode cX0_columnsOf 1 = .ok (.iload_n 1, 1) := by decide +kernel
theorem dX0_columnsOf_2 : decode cX0_columnsOf 2 = .ok (.bipush 6, 2) := by decide +kernel
theorem dX0_columnsOf_4 : decode cX0_columnsOf 4 = .ok (.imul, 1) := by decide +kernel
theorem dX0_columnsOf_5 : decode cX0_columnsOf 5 = .ok (.ishr, 1) := by decide +kernel
theorem dX0_columnsOf_6 : decode cX0_columnsOf 6 = .ok (.bipush 63, 2) := by decide +kernel
theorem dX0_columnsOf_8 : decode cX0_columnsOf 8 = .ok (.iand, 1) := by decide +kernel
theorem dX0_columnsOf_9 : decode cX0_columnsOf 9 = .ok (.ireturn, 1) := by decide +kernel
theorem dX0_fewestCovers_0 : decode cX0_fewestCovers 0 = .ok (.iconst 4, 1) := by decide +kernel
theorem dX0_fewestCovers_1 : decode cX0_fewestCovers 1 = .ok (.istore_n 2, 1) := by decide +kernel
theorem dX0_fewestCovers_2 : decode cX0_fewestCovers 2 = .ok (.iconst 0, 1) := by decide +kernel
theorem dX0_fewestCovers_3 : decode cX0_fewestCovers 3 = .ok (.istore_n 3, 1) := by decide +kernel
theorem dX0_fewestCovers_4 : decode cX0_fewestCovers 4 = .ok (.iconst 0, 1) := by decide +kernel
theorem dX0_fewestCovers_5 : decode cX0_fewestCovers 5 = .ok (.istore 4, 2) := by decide +kernel
theorem dX0_fewestCovers_7 : decode cX0_fewestCovers 7 = .ok (.iload 4, 2) := by decide +kernel
theorem dX0_fewestCovers_9 : decode cX0_fewestCovers 9 = .ok (.iconst 5, 1) := by decide +kernel
theorem dX0_fewestCovers_10 : decode cX0_fewestCovers 10 = .ok (.if_icmp .ge 76, 3) := by decide +kernel
theorem dX0_fewestCovers_13 : decode cX0_fewestCovers 13 = .ok (.iconst 0, 1) := by decide +kernel
theorem dX0_fewestCovers_14 : decode cX0_fewestCovers 14 = .ok (.istore 5, 2) := by decide +kernel
theorem dX0_fewestCovers_16 : decode cX0_fewestCovers 16 = .ok (.iload 5, 2) := by decide +kernel
theorem dX0_fewestCovers_18 : decode cX0_fewestCovers 18 = .ok (.bipush 6, 2) := by decide +kernel
theorem dX0_fewestCovers_20 : decode cX0_fewestCovers 20 = .ok (.if_icmp .ge 60, 3) := by decide +kernel
theorem dX0_fewestCovers_23 : decode cX0_fewestCovers 23 = .ok (.iload 4, 2) := by decide +kernel
theorem dX0_fewestCovers_25 : decode cX0_fewestCovers 25 = .ok (.iload_n 1, 1) := by decide +kernel
theorem dX0_fewestCovers_26 : decode cX0_fewestCovers 26 = .ok (.bipush 6, 2) := by decide +kernel
theorem dX0_fewestCovers_28 : decode cX0_fewestCovers 28 = .ok (.idiv, 1) := by decide +kernel
theorem dX0_fewestCovers_29 : decode cX0_fewestCovers 29 = .ok (.if_icmp .eq 45, 3) := by decide +kernel
theorem dX0_fewestCovers_32 : decode cX0_fewestCovers 32 = .ok (.iload 5, 2) := by decide +kernel
theorem dX0_fewestCovers_34 : decode cX0_fewestCovers 34 = .ok (.iload_n 1, 1) := by decide +kernel
theorem dX0_fewestCovers_35 : decode cX0_fewestCovers 35 = .ok (.bipush 6, 2) := by decide +kernel
theorem dX0_fewestCovers_37 : decode cX0_fewestCovers 37 = .ok (.irem, 1) := by decide +kernel
theorem dX0_fewestCovers_38 : decode cX0_fewestCovers 38 = .ok (.if_icmp .eq 36, 3) := by decide +kernel
theorem dX0_fewestCovers_41 : decode cX0_fewestCovers 41 = .ok (.iload_n 1, 1) := by decide +kernel
theorem dX0_fewestCovers_42 : decode cX0_fewestCovers 42 = .ok (.iload 4, 2) := by decide +kernel
theorem dX0_fewestCovers_44 : decode cX0_fewestCovers 44 = .ok (.iload 5, 2) := by decide +kernel
theorem dX0_fewestCovers_46 : decode cX0_fewestCovers 46 = .ok (.invokestatic 25, 3) := by decide +kernel
theorem dX0_fewestCovers_49 : decode cX0_fewestCovers 49 = .ok (.istore 6, 2) := by decide +kernel
theorem dX0_fewestCovers_51 : decode cX0_fewestCovers 51 = .ok (.iload 6, 2) := by decide +kernel
theorem dX0_fewestCovers_53 : decode cX0_fewestCovers 53 = .ok (.iload_n 0, 1) := by decide +kernel
theorem dX0_fewestCovers_54 : decode cX0_fewestCovers 54 = .ok (.iconst (-1), 1) := by decide +kernel
theorem dX0_fewestCovers_55 : decode cX0_fewestCovers 55 = .ok (.ixor, 1) := by decide +kernel
theorem dX0_fewestCovers_56 : decode cX0_fewestCovers 56 = .ok (.iand, 1) := by decide +kernel
theorem dX0_fewestCovers_57 : decode cX0_fewestCovers 57 = .ok (.invokestatic 29, 3) := by decide +kernel
theorem dX0_fewestCovers_60 : decode cX0_fewestCovers 60 = .ok (.istore 7, 2) := by decide +kernel
theorem dX0_fewestCovers_62 : decode cX0_fewestCovers 62 = .ok (.iload 7, 2) := by decide +kernel
theorem dX0_fewestCovers_64 : decode cX0_fewestCovers 64 = .ok (.iload_n 2, 1) := by decide +kernel
theorem dX0_fewestCovers_65 : decode cX0_fewestCovers 65 = .ok (.if_icmp .ge 9, 3) := by decide +kernel
theorem dX0_fewestCovers_68 : decode cX0_fewestCovers 68 = .ok (.iload 7, 2) := by decide +kernel
theorem dX0_fewestCovers_70 : decode cX0_fewestCovers 70 = .ok (.istore_n 2, 1) := by decide +kernel
theorem dX0_fewestCovers_71 : decode cX0_fewestCovers 71 = .ok (.iload 6, 2) := by decide +kernel
theorem dX0_fewestCovers_73 : decode cX0_fewestCovers 73 = .ok (.istore_n 3, 1) := by decide +kernel
theorem dX0_fewestCovers_74 : decode cX0_fewestCovers 74 = .ok (.iinc 5 1, 3) := by decide +kernel
theorem dX0_fewestCovers_77 : decode cX0_fewestCovers 77 = .ok (.goto (-61), 3) := by decide +kernel
theorem dX0_fewestCovers_80 : decode cX0_fewestCovers 80 = .ok (.iinc 4 1, 3) := by decide +kernel
theorem dX0_fewestCovers_83 : decode cX0_fewestCovers 83 = .ok (.goto (-76), 3) := by decide +kernel
theorem dX0_fewestCovers_86 : decode cX0_fewestCovers 86 = .ok (.iload_n 3, 1) := by decide +kernel
theorem dX0_fewestCovers_87 : decode cX0_fewestCovers 87 = .ok (.ireturn, 1) := by decide +kernel
theorem dX0_cornersOf_0 : decode cX0_cornersOf 0 = .ok (.iload_n 0, 1) := by decide +kernel
theorem dX0_cornersOf_1 : decode cX0_cornersOf 1 = .ok (.bipush 6, 2) := by decide +kernel
theorem dX0_cornersOf_3 : decode cX0_cornersOf 3 = .ok (.idiv, 1) := by decide +kernel
theorem dX0_cornersOf_4 : decode cX0_cornersOf 4 = .ok (.bipush 6, 2) := by decide +kernel
theorem dX0_cornersOf_6 : decode cX0_cornersOf 6 = .ok (.imul, 1) := by decide +kernel
theorem dX0_cornersOf_7 : decode cX0_cornersOf 7 = .ok (.iload_n 2, 1) := by decide +kernel
theorem dX0_cornersOf_8 : decode cX0_cornersOf 8 = .ok (.iadd, 1) := by decide +kernel
theorem dX0_cornersOf_9 : decode cX0_cornersOf 9 = .ok (.istore_n 3, 1) := by decide +kernel
theorem dX0_cornersOf_10 : decode cX0_cornersOf 10 = .ok (.iload_n 1, 1) := by decide +kernel
theorem dX0_cornersOf_11 : decode cX0_cornersOf 11 = .ok (.bipush 6, 2) := by decide +kernel
theorem dX0_cornersOf_13 : decode cX0_cornersOf 13 = .ok (.imul, 1) := by decide +kernel
theorem dX0_cornersOf_14 : decode cX0_cornersOf 14 = .ok (.iload_n 0, 1) := by decide +kernel
theorem dX0_cornersOf_15 : decode cX0_cornersOf 15 = .ok (.bipush 6, 2) := by decide +kernel
theorem dX0_cornersOf_17 : decode cX0_cornersOf 17 = .ok (.irem, 1) := by decide +kernel
theorem dX0_cornersOf_18 : decode cX0_cornersOf 18 = .ok (.iadd, 1) := by decide +kernel
theorem dX0_cornersOf_19 : decode cX0_cornersOf 19 = .ok (.istore 4, 2) := by decide +kernel
theorem dX0_cornersOf_21 : decode cX0_cornersOf 21 = .ok (.iload_n 1, 1) := by decide +kernel
theorem dX0_cornersOf_22 : decode cX0_cornersOf 22 = .ok (.bipush 6, 2) := by decide +kernel
theorem dX0_cornersOf_24 : decode cX0_cornersOf 24 = .ok (.imul, 1) := by decide +kernel
theorem dX0_cornersOf_25 : decode cX0_cornersOf 25 = .ok (.iload_n 2, 1) := by decide +kernel
theorem dX0_cornersOf_26 : decode cX0_cornersOf 26 = .ok (.iadd, 1) := by decide +kernel
theorem dX0_cornersOf_27 : decode cX0_cornersOf 27 = .ok (.istore 5, 2) := by decide +kernel
theorem dX0_cornersOf_29 : decode cX0_cornersOf 29 = .ok (.iconst 1, 1) := by decide +kernel
theorem dX0_cornersOf_30 : decode cX0_cornersOf 30 = .ok (.iload_n 3, 1) := by decide +kernel
theorem dX0_cornersOf_31 : decode cX0_cornersOf 31 = .ok (.ishl, 1) := by decide +kernel
theorem dX0_cornersOf_32 : decode cX0_cornersOf 32 = .ok (.iconst 1, 1) := by decide +kernel
theorem dX0_cornersOf_33 : decode cX0_cornersOf 33 = .ok (.iload 4, 2) := by decide +kernel
theorem dX0_cornersOf_35 : decode cX0_cornersOf 35 = .ok (.ishl, 1) := by decide +kernel
theorem dX0_cornersOf_36 : decode cX0_cornersOf 36 = .ok (.ior, 1) := by decide +kernel
theorem dX0_cornersOf_37 : decode cX0_cornersOf 37 = .ok (.iconst 1, 1) := by decide +kernel
theorem dX0_cornersOf_38 : decode cX0_cornersOf 38 = .ok (.iload 5, 2) := by decide +kernel
theorem dX0_cornersOf_40 : decode cX0_cornersOf 40 = .ok (.ishl, 1) := by decide +kernel
theorem dX0_cornersOf_41 : decode cX0_cornersOf 41 = .ok (.ior, 1) := by decide +kernel
theorem dX0_cornersOf_42 : decode cX0_cornersOf 42 = .ok (.ireturn, 1) := by decide +kernel
theorem dX1_init_0 : decode cX1_init 0 = .ok (.aload_n 0, 1) := by decide +kernel
theorem dX1_init_1 : decode cX1_init 1 = .ok (.invokespecial 1, 3) := by decide +kernel
theorem dX1_init_4 : decode cX1_init 4 = .ok (.aload_n 0, 1) := by decide +kernel
theorem dX1_init_5 : decode cX1_init 5 = .ok (.iload_n 1, 1) := by decide +kernel
theorem dX1_init_6 : decode cX1_init 6 = .ok (.putfield 7, 3) := by decide +kernel
theorem dX1_init_9 : decode cX1_init 9 = .ok (.aload_n 0, 1) := by decide +kernel
theorem dX1_init_10 : decode cX1_init 10 = .ok (.iload_n 2, 1) := by decide +kernel
theorem dX1_init_11 : decode cX1_init 11 = .ok (.putfield 13, 3) := by decide +kernel
theorem dX1_init_14 : decode cX1_init 14 = .ok (.aload_n 0, 1) := by decide +kernel
theorem dX1_init_15 : decode cX1_init 15 = .ok (.iload_n 3, 1) := by decide +kernel
theorem dX1_init_16 : decode cX1_init 16 = .ok (.putfield 16, 3) := by decide +kernel
theorem dX1_init_19 : decode cX1_init 19 = .ok (.aload_n 0, 1) := by decide +kernel
theorem dX1_init_20 : decode cX1_init 20 = .ok (.iload 4, 2) := by decide +kernel
theorem dX1_init_22 : decode cX1_init 22 = .ok (.putfield 19, 3) := by decide +kernel
theorem dX1_init_25 : decode cX1_init 25 = .ok (.return_, 1) := by decide +kernel
theorem dX1_lastsAt_0 : decode cX1_lastsAt 0 = .ok (.aload_n 0, 1) := by decide +kernel
theorem dX1_lastsAt_1 : decode cX1_lastsAt 1 = .ok (.getfield 22, 3) := by decide +kernel
theorem dX1_lastsAt_4 : decode cX1_lastsAt 4 = .ok (.ifCond .ne 15, 3) := by decide +kernel
theorem dX1_lastsAt_7 : decode cX1_lastsAt 7 = .ok (.iload_n 1, 1) := by decide +kernel
theorem dX1_lastsAt_8 : decode cX1_lastsAt 8 = .ok (.aload_n 0, 1) := by decide +kernel
theorem dX1_lastsAt_9 : decode cX1_lastsAt 9 = .ok (.getfield 19, 3) := by decide +kernel
theorem dX1_lastsAt_12 : decode cX1_lastsAt 12 = .ok (.if_icmp .ge 7, 3) := by decide +kernel
theorem dX1_lastsAt_15 : decode cX1_lastsAt 15 = .ok (.iconst 1, 1) := by decide +kernel
theorem dX1_lastsAt_16 : decode cX1_lastsAt 16 = .ok (.goto 4, 3) := by decide +kernel
theorem dX1_lastsAt_19 : decode cX1_lastsAt 19 = .ok (.iconst 0, 1) := by decide +kernel
theorem dX1_lastsAt_20 : decode cX1_lastsAt 20 = .ok (.ireturn, 1) := by decide +kernel
theorem dX2_init_0 : decode cX2_init 0 = .ok (.aload_n 0, 1) := by decide +kernel
theorem dX2_init_1 : decode cX2_init 1 = .ok (.invokespecial 3, 3) := by decide +kernel
theorem dX2_init_4 : decode cX2_init 4 = .ok (.aload_n 0, 1) := by decide +kernel
theorem dX2_init_5 : decode cX2_init 5 = .ok (.bipush 11, 2) := by decide +kernel
theorem dX2_init_7 : decode cX2_init 7 = .ok (.bipush 30, 2) := by decide +kernel
theorem dX2_init_9 : decode cX2_init 9 = .ok (.multianewarray 11 2, 4) := by decide +kernel
theorem dX2_init_13 : decode cX2_init 13 = .ok (.putfield 13, 3) := by decide +kernel
theorem dX2_init_16 : decode cX2_init 16 = .ok (.return_, 1) := by decide +kernel
theorem dX2_determine_0 : decode cX2_determine 0 = .ok (.aload_n 0, 1) := by decide +kernel
theorem dX2_determine_1 : decode cX2_determine 1 = .ok (.iload_n 1, 1) := by decide +kernel
theorem dX2_determine_2 : decode cX2_determine 2 = .ok (.invokevirtual 16, 3) := by decide +kernel
theorem dX2_determine_5 : decode cX2_determine 5 = .ok (.aload_n 0, 1) := by decide +kernel
theorem dX2_determine_6 : decode cX2_determine 6 = .ok (.invokevirtual 20, 3) := by decide +kernel
theorem dX2_determine_9 : decode cX2_determine 9 = .ok (.iconst 0, 1) := by decide +kernel
theorem dX2_determine_10 : decode cX2_determine 10 = .ok (.istore_n 3, 1) := by decide +kernel
theorem dX2_determine_11 : decode cX2_determine 11 = .ok (.iload_n 3, 1) := by decide +kernel
theorem dX2_determine_12 : decode cX2_determine 12 = .ok (.bipush 11, 2) := by decide +kernel
theorem dX2_determine_14 : decode cX2_determine 14 = .ok (.if_icmp .ge 20, 3) := by decide +kernel
theorem dX2_determine_17 : decode cX2_determine 17 = .ok (.aload_n 0, 1) := by decide +kernel
theorem dX2_determine_18 : decode cX2_determine 18 = .ok (.iload_n 3, 1) := by decide +kernel
theorem dX2_determine_19 : decode cX2_determine 19 = .ok (.iload_n 2, 1) := by decide +kernel
theorem dX2_determine_20 : decode cX2_determine 20 = .ok (.invokevirtual 23, 3) := by decide +kernel
theorem dX2_determine_23 : decode cX2_determine 23 = .ok (.ifCond .eq 5, 3) := by decide +kernel
theorem dX2_determine_26 : decode cX2_determine 26 = .ok (.iconst 1, 1) := by decide +kernel
theorem dX2_determine_27 : decode cX2_determine 27 = .ok (.ireturn, 1) := by decide +kernel
theorem dX2_determine_28 : decode cX2_determine 28 = .ok (.iinc 3 1, 3) := by decide +kernel
theorem dX2_determine_31 : decode cX2_determine 31 = .ok (.goto (-20), 3) := by decide +kernel
theorem dX2_determine_34 : decode cX2_determine 34 = .ok (.iconst 0, 1) := by decide +kernel
theorem dX2_determine_35 : decode cX2_determine 35 = .ok (.ireturn, 1) := by decide +kernel
theorem dX2_write_0 : decode cX2_write 0 = .ok (.iconst 0, 1) := by decide +kernel
theorem dX2_write_1 : decode cX2_write 1 = .ok (.istore_n 2, 1) := by decide +kernel
theorem dX2_write_2 : decode cX2_write 2 = .ok (.iload_n 2, 1) := by decide +kernel
theorem dX2_write_3 : decode cX2_write 3 = .ok (.bipush 30, 2) := by decide +kernel
theorem dX2_write_5 : decode cX2_write 5 = .ok (.if_icmp .ge 94, 3) := by decide +kernel
theorem dX2_write_8 : decode cX2_write 8 = .ok (.iload_n 2, 1) := by decide +kernel
theorem dX2_write_9 : decode cX2_write 9 = .ok (.bipush 6, 2) := by decide +kernel
theorem dX2_write_11 : decode cX2_write 11 = .ok (.idiv, 1) := by decide +kernel
theorem dX2_write_12 : decode cX2_write 12 = .ok (.istore_n 3, 1) := by decide +kernel
theorem dX2_write_13 : decode cX2_write 13 = .ok (.iload_n 2, 1) := by decide +kernel
theorem dX2_write_14 : decode cX2_write 14 = .ok (.bipush 6, 2) := by decide +kernel
theorem dX2_write_16 : decode cX2_write 16 = .ok (.irem, 1) := by decide +kernel
theorem dX2_write_17 : decode cX2_write 17 = .ok (.istore 4, 2) := by decide +kernel
theorem dX2_write_19 : decode cX2_write 19 = .ok (.iconst 0, 1) := by decide +kernel
theorem dX2_write_20 : decode cX2_write 20 = .ok (.istore 5, 2) := by decide +kernel
theorem dX2_write_22 : decode cX2_write 22 = .ok (.iload 5, 2) := by decide +kernel
theorem dX2_write_24 : decode cX2_write 24 = .ok (.bipush 11, 2) := by decide +kernel
theorem dX2_write_26 : decode cX2_write 26 = .ok (.if_icmp .ge 19, 3) := by decide +kernel
theorem dX2_write_29 : decode cX2_write 29 = .ok (.aload_n 0, 1) := by decide +kernel
theorem dX2_write_30 : decode cX2_write 30 = .ok (.getfield 13, 3) := by decide +kernel
theorem dX2_write_33 : decode cX2_write 33 = .ok (.iload 5, 2) := by decide +kernel
theorem dX2_write_35 : decode cX2_write 35 = .ok (.aaload, 1) := by decide +kernel
theorem dX2_write_36 : decode cX2_write 36 = .ok (.iload_n 2, 1) := by decide +kernel
theorem dX2_write_37 : decode cX2_write 37 = .ok (.iconst 0, 1) := by decide +kernel
theorem dX2_write_38 : decode cX2_write 38 = .ok (.iastore, 1) := by decide +kernel
theorem dX2_write_39 : decode cX2_write 39 = .ok (.iinc 5 1, 3) := by decide +kernel
theorem dX2_write_42 : decode cX2_write 42 = .ok (.goto (-20), 3) := by decide +kernel
theorem dX2_write_45 : decode cX2_write 45 = .ok (.iload_n 1, 1) := by decide +kernel
theorem dX2_write_46 : decode cX2_write 46 = .ok (.iload_n 2, 1) := by decide +kernel
theorem dX2_write_47 : decode cX2_write 47 = .ok (.invokestatic 27, 3) := by decide +kernel
theorem dX2_write_50 : decode cX2_write 50 = .ok (.ifCond .eq 43, 3) := by decide +kernel
theorem dX2_write_53 : decode cX2_write 53 = .ok (.aload_n 0, 1) := by decide +kernel
theorem dX2_write_54 : decode cX2_write 54 = .ok (.getfield 13, 3) := by decide +kernel
theorem dX2_write_57 : decode cX2_write 57 = .ok (.iload_n 3, 1) := by decide +kernel
theorem dX2_write_58 : decode cX2_write 58 = .ok (.aaload, 1) := by decide +kernel
theorem dX2_write_59 : decode cX2_write 59 = .ok (.iload_n 2, 1) := by decide +kernel
theorem dX2_write_60 : decode cX2_write 60 = .ok (.iload 4, 2) := by decide +kernel
theorem dX2_write_62 : decode cX2_write 62 = .ok (.iconst 5, 1) := by decide +kernel
theorem dX2_write_63 : decode cX2_write 63 = .ok (.if_icmp .ne 7, 3) := by decide +kernel
theorem dX2_write_66 : decode cX2_write 66 = .ok (.iconst (-1), 1) := by decide +kernel
theorem dX2_write_67 : decode cX2_write 67 = .ok (.goto 4, 3) := by decide +kernel
theorem dX2_write_70 : decode cX2_write 70 = .ok (.iconst 1, 1) := by decide +kernel
theorem dX2_write_71 : decode cX2_write 71 = .ok (.iastore, 1) := by decide +kernel
theorem dX2_write_72 : decode cX2_write 72 = .ok (.aload_n 0, 1) := by decide +kernel
theorem dX2_write_73 : decode cX2_write 73 = .ok (.getfield 13, 3) := by decide +kernel
theorem dX2_write_76 : decode cX2_write 76 = .ok (.iconst 5, 1) := by decide +kernel
theorem dX2_write_77 : decode cX2_write 77 = .ok (.iload 4, 2) := by decide +kernel
theorem dX2_write_79 : decode cX2_write 79 = .ok (.iadd, 1) := by decide +kernel
theorem dX2_write_80 : decode cX2_write 80 = .ok (.aaload, 1) := by decide +kernel
theorem dX2_write_81 : decode cX2_write 81 = .ok (.iload_n 2, 1) := by decide +kernel
theorem dX2_write_82 : decode cX2_write 82 = .ok (.iload_n 3, 1) := by decide +kernel
theorem dX2_write_83 : decode cX2_write 83 = .ok (.iconst 4, 1) := by decide +kernel
theorem dX2_write_84 : decode cX2_write 84 = .ok (.if_icmp .ne 7, 3) := by decide +kernel
theorem dX2_write_87 : decode cX2_write 87 = .ok (.iconst (-1), 1) := by decide +kernel
theorem dX2_write_88 : decode cX2_write 88 = .ok (.goto 4, 3) := by decide +kernel
theorem dX2_write_91 : decode cX2_write 91 = .ok (.iconst 1, 1) := by decide +kernel
theorem dX2_write_92 : decode cX2_write 92 = .ok (.iastore, 1) := by decide +kernel
theorem dX2_write_93 : decode cX2_write 93 = .ok (.iinc 2 1, 3) := by decide +kernel
theorem dX2_write_96 : decode cX2_write 96 = .ok (.goto (-94), 3) := by decide +kernel
theorem dX2_write_99 : decode cX2_write 99 = .ok (.return_, 1) := by decide +kernel
theorem dX2_solve_0 : decode cX2_solve 0 = .ok (.iconst 0, 1) := by decide +kernel
theorem dX2_solve_1 : decode cX2_solve 1 = .ok (.istore_n 1, 1) := by decide +kernel
theorem dX2_solve_2 : decode cX2_solve 2 = .ok (.iconst 0, 1) := by decide +kernel
theorem dX2_solve_3 : decode cX2_solve 3 = .ok (.istore_n 2, 1) := by decide +kernel
theorem dX2_solve_4 : decode cX2_solve 4 = .ok (.iload_n 2, 1) := by decide +kernel
theorem dX2_solve_5 : decode cX2_solve 5 = .ok (.bipush 30, 2) := by decide +kernel
theorem dX2_solve_7 : decode cX2_solve 7 = .ok (.if_icmp .ge 34, 3) := by decide +kernel
theorem dX2_solve_10 : decode cX2_solve 10 = .ok (.aload_n 0, 1) := by decide +kernel
theorem dX2_solve_11 : decode cX2_solve 11 = .ok (.iload_n 2, 1) := by decide +kernel
theorem dX2_solve_12 : decode cX2_solve 12 = .ok (.iload_n 1, 1) := by decide +kernel
theorem dX2_solve_13 : decode cX2_solve 13 = .ok (.invokevirtual 30, 3) := by decide +kernel
theorem dX2_solve_16 : decode cX2_solve 16 = .ok (.istore_n 3, 1) := by decide +kernel
theorem dX2_solve_17 : decode cX2_solve 17 = .ok (.iload_n 3, 1) := by decide +kernel
theorem dX2_solve_18 : decode cX2_solve 18 = .ok (.bipush 11, 2) := by decide +kernel
theorem dX2_solve_20 : decode cX2_solve 20 = .ok (.if_icmp .ge 15, 3) := by decide +kernel
theorem dX2_solve_23 : decode cX2_solve 23 = .ok (.iload_n 1, 1) := by decide +kernel
theorem dX2_solve_24 : decode cX2_solve 24 = .ok (.iconst 1, 1) := by decide +kernel
theorem dX2_solve_25 : decode cX2_solve 25 = .ok (.iload_n 3, 1) := by decide +kernel
theorem dX2_solve_26 : decode cX2_solve 26 = .ok (.ishl, 1) := by decide +kernel
theorem dX2_solve_27 : decode cX2_solve 27 = .ok (.ior, 1) := by decide +kernel
theorem dX2_solve_28 : decode cX2_solve 28 = .ok (.istore_n 1, 1) := by decide +kernel
theorem dX2_solve_29 : decode cX2_solve 29 = .ok (.aload_n 0, 1) := by decide +kernel
theorem dX2_solve_30 : decode cX2_solve 30 = .ok (.iload_n 2, 1) := by decide +kernel
theorem dX2_solve_31 : decode cX2_solve 31 = .ok (.iload_n 3, 1) := by decide +kernel
theorem dX2_solve_32 : decode cX2_solve 32 = .ok (.invokevirtual 34, 3) := by decide +kernel
theorem dX2_solve_35 : decode cX2_solve 35 = .ok (.iinc 2 1, 3) := by decide +kernel
theorem dX2_solve_38 : decode cX2_solve 38 = .ok (.goto (-34), 3) := by decide +kernel
theorem dX2_solve_41 : decode cX2_solve 41 = .ok (.return_, 1) := by decide +kernel
theorem dX2_unspentWith_0 : decode cX2_unspentWith 0 = .ok (.iconst 0, 1) := by decide +kernel
theorem dX2_unspentWith_1 : decode cX2_unspentWith 1 = .ok (.istore_n 3, 1) := by decide +kernel
theorem dX2_unspentWith_2 : decode cX2_unspentWith 2 = .ok (.iload_n 3, 1) := by decide +kernel
theorem dX2_unspentWith_3 : decode cX2_unspentWith 3 = .ok (.bipush 11, 2) := by decide +kernel
theorem dX2_unspentWith_5 : decode cX2_unspentWith 5 = .ok (.if_icmp .ge 30, 3) := by decide +kernel
theorem dX2_unspentWith_8 : decode cX2_unspentWith 8 = .ok (.iload_n 2, 1) := by decide +kernel
theorem dX2_unspentWith_9 : decode cX2_unspentWith 9 = .ok (.iload_n 3, 1) := by decide +kernel
theorem dX2_unspentWith_10 : decode cX2_unspentWith 10 = .ok (.invokestatic 27, 3) := by decide +kernel
theorem dX2_unspentWith_13 : decode cX2_unspentWith 13 = .ok (.ifCond .ne 16, 3) := by decide +kernel
theorem dX2_unspentWith_16 : decode cX2_unspentWith 16 = .ok (.aload_n 0, 1) := by decide +kernel
theorem dX2_unspentWith_17 : decode cX2_unspentWith 17 = .ok (.getfield 13, 3) := by decide +kernel
theorem dX2_unspentWith_20 : decode cX2_unspentWith 20 = .ok (.iload_n 3, 1) := by decide +kernel
theorem dX2_unspentWith_21 : decode cX2_unspentWith 21 = .ok (.aaload, 1) := by decide +kernel
theorem dX2_unspentWith_22 : decode cX2_unspentWith 22 = .ok (.iload_n 1, 1) := by decide +kernel
theorem dX2_unspentWith_23 : decode cX2_unspentWith 23 = .ok (.iaload, 1) := by decide +kernel
theorem dX2_unspentWith_24 : decode cX2_unspentWith 24 = .ok (.ifCond .eq 5, 3) := by decide +kernel
theorem dX2_unspentWith_27 : decode cX2_unspentWith 27 = .ok (.iload_n 3, 1) := by decide +kernel
theorem dX2_unspentWith_28 : decode cX2_unspentWith 28 = .ok (.ireturn, 1) := by decide +kernel
theorem dX2_unspentWith_29 : decode cX2_unspentWith 29 = .ok (.iinc 3 1, 3) := by decide +kernel
theorem dX2_unspentWith_32 : decode cX2_unspentWith 32 = .ok (.goto (-30), 3) := by decide +kernel
theorem dX2_unspentWith_35 : decode cX2_unspentWith 35 = .ok (.bipush 11, 2) := by decide +kernel
theorem dX2_unspentWith_37 : decode cX2_unspentWith 37 = .ok (.ireturn, 1) := by decide +kernel
theorem dX2_removeFromOthers_0 : decode cX2_removeFromOthers 0 = .ok (.aload_n 0, 1) := by decide +kernel
theorem dX2_removeFromOthers_1 : decode cX2_removeFromOthers 1 = .ok (.getfield 13, 3) := by decide +kernel
theorem dX2_removeFromOthers_4 : decode cX2_removeFromOthers 4 = .ok (.iload_n 2, 1) := by decide +kernel
theorem dX2_removeFromOthers_5 : decode cX2_removeFromOthers 5 = .ok (.aaload, 1) := by decide +kernel
theorem dX2_removeFromOthers_6 : decode cX2_removeFromOthers 6 = .ok (.iload_n 1, 1) := by decide +kernel
theorem dX2_removeFromOthers_7 : decode cX2_removeFromOthers 7 = .ok (.iaload, 1) := by decide +kernel
theorem dX2_removeFromOthers_8 : decode cX2_removeFromOthers 8 = .ok (.istore_n 3, 1) := by decide +kernel
theorem dX2_removeFromOthers_9 : decode cX2_removeFromOthers 9 = .ok (.iconst 0, 1) := by decide +kernel
theorem dX2_removeFromOthers_10 : decode cX2_removeFromOthers 10 = .ok (.istore 4, 2) := by decide +kernel
theorem dX2_removeFromOthers_12 : decode cX2_removeFromOthers 12 = .ok (.iload 4, 2) := by decide +kernel
theorem dX2_removeFromOthers_14 : decode cX2_removeFromOthers 14 = .ok (.bipush 11, 2) := by decide +kernel
theorem dX2_removeFromOthers_16 : decode cX2_removeFromOthers 16 = .ok (.if_icmp .ge 82, 3) := by decide +kernel
theorem dX2_removeFromOthers_19 : decode cX2_removeFromOthers 19 = .ok (.aload_n 0, 1) := by decide +kernel
theorem dX2_removeFromOthers_20 : decode cX2_removeFromOthers 20 = .ok (.getfield 13, 3) := by decide +kernel
theorem dX2_removeFromOthers_23 : decode cX2_removeFromOthers 23 = .ok (.iload 4, 2) := by decide +kernel
theorem dX2_removeFromOthers_25 : decode cX2_removeFromOthers 25 = .ok (.aaload, 1) := by decide +kernel
theorem dX2_removeFromOthers_26 : decode cX2_removeFromOthers 26 = .ok (.iload_n 1, 1) := by decide +kernel
theorem dX2_removeFromOthers_27 : decode cX2_removeFromOthers 27 = .ok (.iaload, 1) := by decide +kernel
theorem dX2_removeFromOthers_28 : decode cX2_removeFromOthers 28 = .ok (.istore 5, 2) := by decide +kernel
theorem dX2_removeFromOthers_30 : decode cX2_removeFromOthers 30 = .ok (.iload 4, 2) := by decide +kernel
theorem dX2_removeFromOthers_32 : decode cX2_removeFromOthers 32 = .ok (.iload_n 2, 1) := by decide +kernel
theorem dX2_removeFromOthers_33 : decode cX2_removeFromOthers 33 = .ok (.if_icmp .eq 59, 3) := by decide +kernel
theorem dX2_removeFromOthers_36 : decode cX2_removeFromOthers 36 = .ok (.iload 5, 2) := by decide +kernel
theorem dX2_removeFromOthers_38 : decode cX2_removeFromOthers 38 = .ok (.ifCond .eq 54, 3) := by decide +kernel
theorem dX2_removeFromOthers_41 : decode cX2_removeFromOthers 41 = .ok (.iconst 0, 1) := by decide +kernel
theorem dX2_removeFromOthers_42 : decode cX2_removeFromOthers 42 = .ok (.istore 6, 2) := by decide +kernel
theorem dX2_removeFromOthers_44 : decode cX2_removeFromOthers 44 = .ok (.iload 6, 2) := by decide +kernel
theorem dX2_removeFromOthers_46 : decode cX2_removeFromOthers 46 = .ok (.bipush 30, 2) := by decide +kernel
theorem dX2_removeFromOthers_48 : decode cX2_removeFromOthers 48 = .ok (.if_icmp .ge 44, 3) := by decide +kernel
theorem dX2_removeFromOthers_51 : decode cX2_removeFromOthers 51 = .ok (.aload_n 0, 1) := by decide +kernel
theorem dX2_removeFromOthers_52 : decode cX2_removeFromOthers 52 = .ok (.getfield 13, 3) := by decide +kernel
theorem dX2_removeFromOthers_55 : decode cX2_removeFromOthers 55 = .ok (.iload 4, 2) := by decide +kernel
theorem dX2_removeFromOthers_57 : decode cX2_removeFromOthers 57 = .ok (.aaload, 1) := by decide +kernel
theorem dX2_removeFromOthers_58 : decode cX2_removeFromOthers 58 = .ok (.iload 6, 2) := by decide +kernel
theorem dX2_removeFromOthers_60 : decode cX2_removeFromOthers 60 = .ok (.aload_n 0, 1) := by decide +kernel
theorem dX2_removeFromOthers_61 : decode cX2_removeFromOthers 61 = .ok (.getfield 13, 3) := by decide +kernel
theorem dX2_removeFromOthers_64 : decode cX2_removeFromOthers 64 = .ok (.iload 4, 2) := by decide +kernel
theorem dX2_removeFromOthers_66 : decode cX2_removeFromOthers 66 = .ok (.aaload, 1) := by decide +kernel
theorem dX2_removeFromOthers_67 : decode cX2_removeFromOthers 67 = .ok (.iload 6, 2) := by decide +kernel
theorem dX2_removeFromOthers_69 : decode cX2_removeFromOthers 69 = .ok (.iaload, 1) := by decide +kernel
theorem dX2_removeFromOthers_70 : decode cX2_removeFromOthers 70 = .ok (.iload_n 3, 1) := by decide +kernel
theorem dX2_removeFromOthers_71 : decode cX2_removeFromOthers 71 = .ok (.imul, 1) := by decide +kernel
theorem dX2_removeFromOthers_72 : decode cX2_removeFromOthers 72 = .ok (.aload_n 0, 1) := by decide +kernel
theorem dX2_removeFromOthers_73 : decode cX2_removeFromOthers 73 = .ok (.getfield 13, 3) := by decide +kernel
theorem dX2_removeFromOthers_76 : decode cX2_removeFromOthers 76 = .ok (.iload_n 2, 1) := by decide +kernel
theorem dX2_removeFromOthers_77 : decode cX2_removeFromOthers 77 = .ok (.aaload, 1) := by decide +kernel
theorem dX2_removeFromOthers_78 : decode cX2_removeFromOthers 78 = .ok (.iload 6, 2) := by decide +kernel
theorem dX2_removeFromOthers_80 : decode cX2_removeFromOthers 80 = .ok (.iaload, 1) := by decide +kernel
theorem dX2_removeFromOthers_81 : decode cX2_removeFromOthers 81 = .ok (.iload 5, 2) := by decide +kernel
theorem dX2_removeFromOthers_83 : decode cX2_removeFromOthers 83 = .ok (.imul, 1) := by decide +kernel
theorem dX2_removeFromOthers_84 : decode cX2_removeFromOthers 84 = .ok (.isub, 1) := by decide +kernel
theorem dX2_removeFromOthers_85 : decode cX2_removeFromOthers 85 = .ok (.iastore, 1) := by decide +kernel
theorem dX2_removeFromOthers_86 : decode cX2_removeFromOthers 86 = .ok (.iinc 6 1, 3) := by decide +kernel
theorem dX2_removeFromOthers_89 : decode cX2_removeFromOthers 89 = .ok (.goto (-45), 3) := by decide +kernel
theorem dX2_removeFromOthers_92 : decode cX2_removeFromOthers 92 = .ok (.iinc 4 1, 3) := by decide +kernel
theorem dX2_removeFromOthers_95 : decode cX2_removeFromOthers 95 = .ok (.goto (-83), 3) := by decide +kernel
theorem dX2_removeFromOthers_98 : decode cX2_removeFromOthers 98 = .ok (.return_, 1) := by decide +kernel
theorem dX2_tellsOnly_0 : decode cX2_tellsOnly 0 = .ok (.iconst 0, 1) := by decide +kernel
theorem dX2_tellsOnly_1 : decode cX2_tellsOnly 1 = .ok (.istore_n 3, 1) := by decide +kernel
theorem dX2_tellsOnly_2 : decode cX2_tellsOnly 2 = .ok (.iload_n 3, 1) := by decide +kernel
theorem dX2_tellsOnly_3 : decode cX2_tellsOnly 3 = .ok (.bipush 30, 2) := by decide +kernel
theorem dX2_tellsOnly_5 : decode cX2_tellsOnly 5 = .ok (.if_icmp .ge 27, 3) := by decide +kernel
theorem dX2_tellsOnly_8 : decode cX2_tellsOnly 8 = .ok (.iload_n 3, 1) := by decide +kernel
theorem dX2_tellsOnly_9 : decode cX2_tellsOnly 9 = .ok (.iload_n 2, 1) := by decide +kernel
theorem dX2_tellsOnly_10 : decode cX2_tellsOnly 10 = .ok (.if_icmp .eq 16, 3) := by decide +kernel
theorem dX2_tellsOnly_13 : decode cX2_tellsOnly 13 = .ok (.aload_n 0, 1) := by decide +kernel
theorem dX2_tellsOnly_14 : decode cX2_tellsOnly 14 = .ok (.getfield 13, 3) := by decide +kernel
theorem dX2_tellsOnly_17 : decode cX2_tellsOnly 17 = .ok (.iload_n 1, 1) := by decide +kernel
theorem dX2_tellsOnly_18 : decode cX2_tellsOnly 18 = .ok (.aaload, 1) := by decide +kernel
theorem dX2_tellsOnly_19 : decode cX2_tellsOnly 19 = .ok (.iload_n 3, 1) := by decide +kernel
theorem dX2_tellsOnly_20 : decode cX2_tellsOnly 20 = .ok (.iaload, 1) := by decide +kernel
theorem dX2_tellsOnly_21 : decode cX2_tellsOnly 21 = .ok (.ifCond .eq 5, 3) := by decide +kernel
theorem dX2_tellsOnly_24 : decode cX2_tellsOnly 24 = .ok (.iconst 0, 1) := by decide +kernel
theorem dX2_tellsOnly_25 : decode cX2_tellsOnly 25 = .ok (.ireturn, 1) := by decide +kernel
theorem dX2_tellsOnly_26 : decode cX2_tellsOnly 26 = .ok (.iinc 3 1, 3) := by decide +kernel
theorem dX2_tellsOnly_29 : decode cX2_tellsOnly 29 = .ok (.goto (-27), 3) := by decide +kernel
theorem dX2_tellsOnly_32 : decode cX2_tellsOnly 32 = .ok (.aload_n 0, 1) := by decide +kernel
theorem dX2_tellsOnly_33 : decode cX2_tellsOnly 33 = .ok (.getfield 13, 3) := by decide +kernel
theorem dX2_tellsOnly_36 : decode cX2_tellsOnly 36 = .ok (.iload_n 1, 1) := by decide +kernel
theorem dX2_tellsOnly_37 : decode cX2_tellsOnly 37 = .ok (.aaload, 1) := by decide +kernel
theorem dX2_tellsOnly_38 : decode cX2_tellsOnly 38 = .ok (.iload_n 2, 1) := by decide +kernel
theorem dX2_tellsOnly_39 : decode cX2_tellsOnly 39 = .ok (.iaload, 1) := by decide +kernel
theorem dX2_tellsOnly_40 : decode cX2_tellsOnly 40 = .ok (.ifCond .eq 7, 3) := by decide +kernel
theorem dX2_tellsOnly_43 : decode cX2_tellsOnly 43 = .ok (.iconst 1, 1) := by decide +kernel
theorem dX2_tellsOnly_44 : decode cX2_tellsOnly 44 = .ok (.goto 4, 3) := by decide +kernel
theorem dX2_tellsOnly_47 : decode cX2_tellsOnly 47 = .ok (.iconst 0, 1) := by decide +kernel
theorem dX2_tellsOnly_48 : decode cX2_tellsOnly 48 = .ok (.ireturn, 1) := by decide +kernel
theorem dX3_init_0 : decode cX3_init 0 = .ok (.aload_n 0, 1) := by decide +kernel
theorem dX3_init_1 : decode cX3_init 1 = .ok (.invokespecial 3, 3) := by decide +kernel
theorem dX3_init_4 : decode cX3_init 4 = .ok (.aload_n 0, 1) := by decide +kernel
theorem dX3_init_5 : decode cX3_init 5 = .ok (.bipush 30, 2) := by decide +kernel
theorem dX3_init_7 : decode cX3_init 7 = .ok (.newarray .int, 2) := by decide +kernel
theorem dX3_init_9 : decode cX3_init 9 = .ok (.putfield 9, 3) := by decide +kernel
theorem dX3_init_12 : decode cX3_init 12 = .ok (.return_, 1) := by decide +kernel
theorem dX3_fill_0 : decode cX3_fill 0 = .ok (.aload_n 1, 1) := by decide +kernel
theorem dX3_fill_1 : decode cX3_fill 1 = .ok (.getfield 15, 3) := by decide +kernel
theorem dX3_fill_4 : decode cX3_fill 4 = .ok (.iconst 0, 1) := by decide +kernel
theorem dX3_fill_5 : decode cX3_fill 5 = .ok (.aload_n 0, 1) := by decide +kernel
theorem dX3_fill_6 : decode cX3_fill 6 = .ok (.getfield 9, 3) := by decide +kernel
theorem dX3_fill_9 : decode cX3_fill 9 = .ok (.iconst 0, 1) := by decide +kernel
theorem dX3_fill_10 : decode cX3_fill 10 = .ok (.bipush 30, 2) := by decide +kernel
theorem dX3_fill_12 : decode cX3_fill 12 = .ok (.invokestatic 20, 3) := by decide +kernel
theorem dX3_fill_15 : decode cX3_fill 15 = .ok (.aload_n 0, 1) := by decide +kernel
theorem dX3_fill_16 : decode cX3_fill 16 = .ok (.iload_n 2, 1) := by decide +kernel
theorem dX3_fill_17 : decode cX3_fill 17 = .ok (.putfield 26, 3) := by decide +kernel
theorem dX3_fill_20 : decode cX3_fill 20 = .ok (.aload_n 0, 1) := by decide +kernel
theorem dX3_fill_21 : decode cX3_fill 21 = .ok (.iload_n 3, 1) := by decide +kernel
theorem dX3_fill_22 : decode cX3_fill 22 = .ok (.putfield 30, 3) := by decide +kernel
theorem dX3_fill_25 : decode cX3_fill 25 = .ok (.aload_n 0, 1) := by decide +kernel
theorem dX3_fill_26 : decode cX3_fill 26 = .ok (.aload_n 1, 1) := by decide +kernel
theorem dX3_fill_27 : decode cX3_fill 27 = .ok (.getfield 33, 3) := by decide +kernel
theorem dX3_fill_30 : decode cX3_fill 30 = .ok (.putfield 36, 3) := by decide +kernel
theorem dX3_fill_33 : decode cX3_fill 33 = .ok (.aload_n 0, 1) := by decide +kernel
theorem dX3_fill_34 : decode cX3_fill 34 = .ok (.iconst 1, 1) := by decide +kernel
theorem dX3_fill_35 : decode cX3_fill 35 = .ok (.putfield 39, 3) := by decide +kernel
theorem dX3_fill_38 : decode cX3_fill 38 = .ok (.return_, 1) := by decide +kernel
theorem dX4_init_0 : decode cX4_init 0 = .ok (.aload_n 0, 1) := by decide +kernel
theorem dX4_init_1 : decode cX4_init 1 = .ok (.invokespecial 3, 3) := by decide +kernel
theorem dX4_init_4 : decode cX4_init 4 = .ok (.aload_n 0, 1) := by decide +kernel
theorem dX4_init_5 : decode cX4_init 5 = .ok (.iload_n 1, 1) := by decide +kernel
theorem dX4_init_6 : decode cX4_init 6 = .ok (.putfield 9, 3) := by decide +kernel
theorem dX4_init_9 : decode cX4_init 9 = .ok (.aload_n 0, 1) := by decide +kernel
theorem dX4_init_10 : decode cX4_init 10 = .ok (.iload_n 2, 1) := by decide +kernel
theorem dX4_init_11 : decode cX4_init 11 = .ok (.putfield 15, 3) := by decide +kernel
theorem dX4_init_14 : decode cX4_init 14 = .ok (.aload_n 0, 1) := by decide +kernel
theorem dX4_init_15 : decode cX4_init 15 = .ok (.iload_n 3, 1) := by decide +kernel
theorem dX4_init_16 : decode cX4_init 16 = .ok (.putfield 18, 3) := by decide +kernel
theorem dX4_init_19 : decode cX4_init 19 = .ok (.aload_n 0, 1) := by decide +kernel
theorem dX4_init_20 : decode cX4_init 20 = .ok (.iload 4, 2) := by decide +kernel
theorem dX4_init_22 : decode cX4_init 22 = .ok (.putfield 21, 3) := by decide +kernel
theorem dX4_init_25 : decode cX4_init 25 = .ok (.return_, 1) := by decide +kernel
theorem dX4_countsIn_0 : decode cX4_countsIn 0 = .ok (.iload_n 1, 1) := by decide +kernel
theorem dX4_countsIn_1 : decode cX4_countsIn 1 = .ok (.bipush 6, 2) := by decide +kernel
theorem dX4_countsIn_3 : decode cX4_countsIn 3 = .ok (.idiv, 1) := by decide +kernel
theorem dX4_countsIn_4 : decode cX4_countsIn 4 = .ok (.istore_n 2, 1) := by decide +kernel
theorem dX4_countsIn_5 : decode cX4_countsIn 5 = .ok (.iload_n 1, 1) := by decide +kernel
theorem dX4_countsIn_6 : decode cX4_countsIn 6 = .ok (.bipush 6, 2) := by decide +kernel
theorem dX4_countsIn_8 : decode cX4_countsIn 8 = .ok (.irem, 1) := by decide +kernel
theorem dX4_countsIn_9 : decode cX4_countsIn 9 = .ok (.istore_n 3, 1) := by decide +kernel
theorem dX4_countsIn_10 : decode cX4_countsIn 10 = .ok (.aload_n 0, 1) := by decide +kernel
theorem dX4_countsIn_11 : decode cX4_countsIn 11 = .ok (.getfield 24, 3) := by decide +kernel
theorem dX4_countsIn_14 : decode cX4_countsIn 14 = .ok (.ifCond .ne 33, 3) := by decide +kernel
theorem dX4_countsIn_17 : decode cX4_countsIn 17 = .ok (.iload_n 2, 1) := by decide +kernel
theorem dX4_countsIn_18 : decode cX4_countsIn 18 = .ok (.iconst 4, 1) := by decide +kernel
theorem dX4_countsIn_19 : decode cX4_countsIn 19 = .ok (.if_icmp .eq 11, 3) := by decide +kernel
theorem dX4_countsIn_22 : decode cX4_countsIn 22 = .ok (.iload_n 2, 1) := by decide +kernel
theorem dX4_countsIn_23 : decode cX4_countsIn 23 = .ok (.aload_n 0, 1) := by decide +kernel
theorem dX4_countsIn_24 : decode cX4_countsIn 24 = .ok (.getfield 15, 3) := by decide +kernel
theorem dX4_countsIn_27 : decode cX4_countsIn 27 = .ok (.if_icmp .ne 20, 3) := by decide +kernel
theorem dX4_countsIn_30 : decode cX4_countsIn 30 = .ok (.iload_n 3, 1) := by decide +kernel
theorem dX4_countsIn_31 : decode cX4_countsIn 31 = .ok (.iconst 5, 1) := by decide +kernel
theorem dX4_countsIn_32 : decode cX4_countsIn 32 = .ok (.if_icmp .eq 11, 3) := by decide +kernel
theorem dX4_countsIn_35 : decode cX4_countsIn 35 = .ok (.iload_n 3, 1) := by decide +kernel
theorem dX4_countsIn_36 : decode cX4_countsIn 36 = .ok (.aload_n 0, 1) := by decide +kernel
theorem dX4_countsIn_37 : decode cX4_countsIn 37 = .ok (.getfield 18, 3) := by decide +kernel
theorem dX4_countsIn_40 : decode cX4_countsIn 40 = .ok (.if_icmp .ne 7, 3) := by decide +kernel
theorem dX4_countsIn_43 : decode cX4_countsIn 43 = .ok (.iconst 1, 1) := by decide +kernel
theorem dX4_countsIn_44 : decode cX4_countsIn 44 = .ok (.goto 4, 3) := by decide +kernel
theorem dX4_countsIn_47 : decode cX4_countsIn 47 = .ok (.iconst 0, 1) := by decide +kernel
theorem dX4_countsIn_48 : decode cX4_countsIn 48 = .ok (.ireturn, 1) := by decide +kernel
theorem dX5_init_0 : decode cX5_init 0 = .ok (.aload_n 0, 1) := by decide +kernel
theorem dX5_init_1 : decode cX5_init 1 = .ok (.invokespecial 3, 3) := by decide +kernel
theorem dX5_init_4 : decode cX5_init 4 = .ok (.aload_n 0, 1) := by decide +kernel
theorem dX5_init_5 : decode cX5_init 5 = .ok (.bipush 30, 2) := by decide +kernel
theorem dX5_init_7 : decode cX5_init 7 = .ok (.newarray .int, 2) := by decide +kernel
theorem dX5_init_9 : decode cX5_init 9 = .ok (.putfield 9, 3) := by decide +kernel
theorem dX5_init_12 : decode cX5_init 12 = .ok (.aload_n 0, 1) := by decide +kernel
theorem dX5_init_13 : decode cX5_init 13 = .ok (.iconst 4, 1) := by decide +kernel
theorem dX5_init_14 : decode cX5_init 14 = .ok (.anewarray 15, 3) := by decide +kernel
theorem dX5_init_17 : decode cX5_init 17 = .ok (.putfield 17, 3) := by decide +kernel
theorem dX5_init_20 : decode cX5_init 20 = .ok (.iconst 0, 1) := by decide +kernel
theorem dX5_init_21 : decode cX5_init 21 = .ok (.istore_n 1, 1) := by decide +kernel
theorem dX5_init_22 : decode cX5_init 22 = .ok (.iload_n 1, 1) := by decide +kernel
theorem dX5_init_23 : decode cX5_init 23 = .ok (.iconst 4, 1) := by decide +kernel
theorem dX5_init_24 : decode cX5_init 24 = .ok (.if_icmp .ge 22, 3) := by decide +kernel
theorem dX5_init_27 : decode cX5_init 27 = .ok (.aload_n 0, 1) := by decide +kernel
theorem dX5_init_28 : decode cX5_init 28 = .ok (.getfield 17, 3) := by decide +kernel
theorem dX5_init_31 : decode cX5_init 31 = .ok (.iload_n 1, 1) := by decide +kernel
theorem dX5_init_32 : decode cX5_init 32 = .ok (.new 15, 3) := by decide +kernel
theorem dX5_init_35 : decode cX5_init 35 = .ok (.dup, 1) := by decide +kernel
theorem dX5_init_36 : decode cX5_init 36 = .ok (.invokespecial 21, 3) := by decide +kernel
theorem dX5_init_39 : decode cX5_init 39 = .ok (.aastore, 1) := by decide +kernel
theorem dX5_init_40 : decode cX5_init 40 = .ok (.iinc 1 1, 3) := by decide +kernel
theorem dX5_init_43 : decode cX5_init 43 = .ok (.goto (-21), 3) := by decide +kernel
theorem dX5_init_46 : decode cX5_init 46 = .ok (.return_, 1) := by decide +kernel
theorem dX5_enter_0 : decode cX5_enter 0 = .ok (.aload_n 0, 1) := by decide +kernel
theorem dX5_enter_1 : decode cX5_enter 1 = .ok (.getfield 9, 3) := by decide +kernel
theorem dX5_enter_4 : decode cX5_enter 4 = .ok (.iload_n 1, 1) := by decide +kernel
theorem dX5_enter_5 : decode cX5_enter 5 = .ok (.bipush 6, 2) := by decide +kernel
theorem dX5_enter_7 : decode cX5_enter 7 = .ok (.imul, 1) := by decide +kernel
theorem dX5_enter_8 : decode cX5_enter 8 = .ok (.iload_n 2, 1) := by decide +kernel
theorem dX5_enter_9 : decode cX5_enter 9 = .ok (.iadd, 1) := by decide +kernel
theorem dX5_enter_10 : decode cX5_enter 10 = .ok (.dup2, 1) := by decide +kernel
theorem dX5_enter_11 : decode cX5_enter 11 = .ok (.iaload, 1) := by decide +kernel
theorem dX5_enter_12 : decode cX5_enter 12 = .ok (.iload_n 3, 1) := by decide +kernel
theorem dX5_enter_13 : decode cX5_enter 13 = .ok (.iadd, 1) := by decide +kernel
theorem dX5_enter_14 : decode cX5_enter 14 = .ok (.iastore, 1) := by decide +kernel
theorem dX5_enter_15 : decode cX5_enter 15 = .ok (.aload_n 0, 1) := by decide +kernel
theorem dX5_enter_16 : decode cX5_enter 16 = .ok (.getfield 9, 3) := by decide +kernel
theorem dX5_enter_19 : decode cX5_enter 19 = .ok (.iload_n 1, 1) := by decide +kernel
theorem dX5_enter_20 : decode cX5_enter 20 = .ok (.bipush 6, 2) := by decide +kernel
theorem dX5_enter_22 : decode cX5_enter 22 = .ok (.imul, 1) := by decide +kernel
theorem dX5_enter_23 : decode cX5_enter 23 = .ok (.iconst 5, 1) := by decide +kernel
theorem dX5_enter_24 : decode cX5_enter 24 = .ok (.iadd, 1) := by decide +kernel
theorem dX5_enter_25 : decode cX5_enter 25 = .ok (.dup2, 1) := by decide +kernel
theorem dX5_enter_26 : decode cX5_enter 26 = .ok (.iaload, 1) := by decide +kernel
theorem dX5_enter_27 : decode cX5_enter 27 = .ok (.iload_n 3, 1) := by decide +kernel
theorem dX5_enter_28 : decode cX5_enter 28 = .ok (.iadd, 1) := by decide +kernel
theorem dX5_enter_29 : decode cX5_enter 29 = .ok (.iastore, 1) := by decide +kernel
theorem dX5_enter_30 : decode cX5_enter 30 = .ok (.aload_n 0, 1) := by decide +kernel
theorem dX5_enter_31 : decode cX5_enter 31 = .ok (.getfield 9, 3) := by decide +kernel
theorem dX5_enter_34 : decode cX5_enter 34 = .ok (.bipush 24, 2) := by decide +kernel
theorem dX5_enter_36 : decode cX5_enter 36 = .ok (.iload_n 2, 1) := by decide +kernel
theorem dX5_enter_37 : decode cX5_enter 37 = .ok (.iadd, 1) := by decide +kernel
theorem dX5_enter_38 : decode cX5_enter 38 = .ok (.dup2, 1) := by decide +kernel
theorem dX5_enter_39 : decode cX5_enter 39 = .ok (.iaload, 1) := by decide +kernel
theorem dX5_enter_40 : decode cX5_enter 40 = .ok (.iload_n 3, 1) := by decide +kernel
theorem dX5_enter_41 : decode cX5_enter 41 = .ok (.iadd, 1) := by decide +kernel
theorem dX5_enter_42 : decode cX5_enter 42 = .ok (.iastore, 1) := by decide +kernel
theorem dX5_enter_43 : decode cX5_enter 43 = .ok (.aload_n 0, 1) := by decide +kernel
theorem dX5_enter_44 : decode cX5_enter 44 = .ok (.getfield 9, 3) := by decide +kernel
theorem dX5_enter_47 : decode cX5_enter 47 = .ok (.bipush 29, 2) := by decide +kernel
theorem dX5_enter_49 : decode cX5_enter 49 = .ok (.dup2, 1) := by decide +kernel
theorem dX5_enter_50 : decode cX5_enter 50 = .ok (.iaload, 1) := by decide +kernel
theorem dX5_enter_51 : decode cX5_enter 51 = .ok (.iload_n 3, 1) := by decide +kernel
theorem dX5_enter_52 : decode cX5_enter 52 = .ok (.iadd, 1) := by decide +kernel
theorem dX5_enter_53 : decode cX5_enter 53 = .ok (.iastore, 1) := by decide +kernel
theorem dX5_enter_54 : decode cX5_enter 54 = .ok (.return_, 1) := by decide +kernel
theorem dX6_init_0 : decode cX6_init 0 = .ok (.aload_n 0, 1) := by decide +kernel
theorem dX6_init_1 : decode cX6_init 1 = .ok (.invokespecial 1, 3) := by decide +kernel
theorem dX6_init_4 : decode cX6_init 4 = .ok (.aload_n 0, 1) := by decide +kernel
theorem dX6_init_5 : decode cX6_init 5 = .ok (.iconst 3, 1) := by decide +kernel
theorem dX6_init_6 : decode cX6_init 6 = .ok (.anewarray 9, 3) := by decide +kernel
theorem dX6_init_9 : decode cX6_init 9 = .ok (.putfield 11, 3) := by decide +kernel
theorem dX6_init_12 : decode cX6_init 12 = .ok (.iconst 0, 1) := by decide +kernel
theorem dX6_init_13 : decode cX6_init 13 = .ok (.istore_n 1, 1) := by decide +kernel
theorem dX6_init_14 : decode cX6_init 14 = .ok (.iload_n 1, 1) := by decide +kernel
theorem dX6_init_15 : decode cX6_init 15 = .ok (.iconst 3, 1) := by decide +kernel
theorem dX6_init_16 : decode cX6_init 16 = .ok (.if_icmp .ge 22, 3) := by decide +kernel
theorem dX6_init_19 : decode cX6_init 19 = .ok (.aload_n 0, 1) := by decide +kernel
theorem dX6_init_20 : decode cX6_init 20 = .ok (.getfield 11, 3) := by decide +kernel
theorem dX6_init_23 : decode cX6_init 23 = .ok (.iload_n 1, 1) := by decide +kernel
theorem dX6_init_24 : decode cX6_init 24 = .ok (.new 9, 3) := by decide +kernel
theorem dX6_init_27 : decode cX6_init 27 = .ok (.dup, 1) := by decide +kernel
theorem dX6_init_28 : decode cX6_init 28 = .ok (.invokespecial 15, 3) := by decide +kernel
theorem dX6_init_31 : decode cX6_init 31 = .ok (.aastore, 1) := by decide +kernel
theorem dX6_init_32 : decode cX6_init 32 = .ok (.iinc 1 1, 3) := by decide +kernel
theorem dX6_init_35 : decode cX6_init 35 = .ok (.goto (-21), 3) := by decide +kernel
theorem dX6_init_38 : decode cX6_init 38 = .ok (.aload_n 0, 1) := by decide +kernel
theorem dX6_init_39 : decode cX6_init 39 = .ok (.bipush 120, 2) := by decide +kernel
theorem dX6_init_41 : decode cX6_init 41 = .ok (.anewarray 16, 3) := by decide +kernel
theorem dX6_init_44 : decode cX6_init 44 = .ok (.putfield 18, 3) := by decide +kernel
theorem dX6_init_47 : decode cX6_init 47 = .ok (.aload_n 0, 1) := by decide +kernel
theorem dX6_init_48 : decode cX6_init 48 = .ok (.bipush 40, 2) := by decide +kernel
theorem dX6_init_50 : decode cX6_init 50 = .ok (.anewarray 22, 3) := by decide +kernel
theorem dX6_init_53 : decode cX6_init 53 = .ok (.putfield 24, 3) := by decide +kernel
theorem dX6_init_56 : decode cX6_init 56 = .ok (.aload_n 0, 1) := by decide +kernel
theorem dX6_init_57 : decode cX6_init 57 = .ok (.new 28, 3) := by decide +kernel
theorem dX6_init_60 : decode cX6_init 60 = .ok (.dup, 1) := by decide +kernel
theorem dX6_init_61 : decode cX6_init 61 = .ok (.invokespecial 30, 3) := by decide +kernel
theorem dX6_init_64 : decode cX6_init 64 = .ok (.putfield 31, 3) := by decide +kernel
theorem dX6_init_67 : decode cX6_init 67 = .ok (.return_, 1) := by decide +kernel
theorem dX6_sale_0 : decode cX6_sale 0 = .ok (.aload_n 0, 1) := by decide +kernel
theorem dX6_sale_1 : decode cX6_sale 1 = .ok (.iload_n 1, 1) := by decide +kernel
theorem dX6_sale_2 : decode cX6_sale 2 = .ok (.invokevirtual 35, 3) := by decide +kernel
theorem dX6_sale_5 : decode cX6_sale 5 = .ok (.astore 5, 2) := by decide +kernel
theorem dX6_sale_7 : decode cX6_sale 7 = .ok (.iload_n 2, 1) := by decide +kernel
theorem dX6_sale_8 : decode cX6_sale 8 = .ok (.ifCond .lt 17, 3) := by decide +kernel
theorem dX6_sale_11 : decode cX6_sale 11 = .ok (.iload_n 2, 1) := by decide +kernel
theorem dX6_sale_12 : decode cX6_sale 12 = .ok (.iconst 4, 1) := by decide +kernel
theorem dX6_sale_13 : decode cX6_sale 13 = .ok (.if_icmp .ge 12, 3) := by decide +kernel
theorem dX6_sale_16 : decode cX6_sale 16 = .ok (.iload_n 3, 1) := by decide +kernel
theorem dX6_sale_17 : decode cX6_sale 17 = .ok (.ifCond .lt 8, 3) := by decide +kernel
theorem dX6_sale_20 : decode cX6_sale 20 = .ok (.iload_n 3, 1) := by decide +kernel
theorem dX6_sale_21 : decode cX6_sale 21 = .ok (.iconst 5, 1) := by decide +kernel
theorem dX6_sale_22 : decode cX6_sale 22 = .ok (.if_icmp .lt 13, 3) := by decide +kernel
theorem dX6_sale_25 : decode cX6_sale 25 = .ok (.new 39, 3) := by decide +kernel
theorem dX6_sale_28 : decode cX6_sale 28 = .ok (.dup, 1) := by decide +kernel
theorem dX6_sale_29 : decode cX6_sale 29 = .ok (.ldc 41, 2) := by decide +kernel
theorem dX6_sale_31 : decode cX6_sale 31 = .ok (.invokespecial 43, 3) := by decide +kernel
theorem dX6_sale_34 : decode cX6_sale 34 = .ok (.athrow, 1) := by decide +kernel
theorem dX6_sale_35 : decode cX6_sale 35 = .ok (.iload 4, 2) := by decide +kernel
theorem dX6_sale_37 : decode cX6_sale 37 = .ok (.sipush (-1000), 3) := by decide +kernel
theorem dX6_sale_40 : decode cX6_sale 40 = .ok (.if_icmp .lt 11, 3) := by decide +kernel
theorem dX6_sale_43 : decode cX6_sale 43 = .ok (.iload 4, 2) := by decide +kernel
theorem dX6_sale_45 : decode cX6_sale 45 = .ok (.sipush 1000, 3) := by decide +kernel
theorem dX6_sale_48 : decode cX6_sale 48 = .ok (.if_icmp .le 13, 3) := by decide +kernel
theorem dX6_sale_51 : decode cX6_sale 51 = .ok (.new 46, 3) := by decide +kernel
theorem dX6_sale_54 : decode cX6_sale 54 = .ok (.dup, 1) := by decide +kernel
theorem dX6_sale_55 : decode cX6_sale 55 = .ok (.ldc 48, 2) := by decide +kernel
theorem dX6_sale_57 : decode cX6_sale 57 = .ok (.invokespecial 50, 3) := by decide +kernel
theorem dX6_sale_60 : decode cX6_sale 60 = .ok (.athrow, 1) := by decide +kernel
theorem dX6_sale_61 : decode cX6_sale 61 = .ok (.aload_n 0, 1) := by decide +kernel
theorem dX6_sale_62 : decode cX6_sale 62 = .ok (.getfield 51, 3) := by decide +kernel
theorem dX6_sale_65 : decode cX6_sale 65 = .ok (.bipush 120, 2) := by decide +kernel
theorem dX6_sale_67 : decode cX6_sale 67 = .ok (.if_icmp .lt 13, 3) := by decide +kernel
theorem dX6_sale_70 : decode cX6_sale 70 = .ok (.new 55, 3) := by decide +kernel
theorem dX6_sale_73 : decode cX6_sale 73 = .ok (.dup, 1) := by decide +kernel
theorem dX6_sale_74 : decode cX6_sale 74 = .ok (.ldc 57, 2) := by decide +kernel
theorem dX6_sale_76 : decode cX6_sale 76 = .ok (.invokespecial 59, 3) := by decide +kernel
theorem dX6_sale_79 : decode cX6_sale 79 = .ok (.athrow, 1) := by decide +kernel
theorem dX6_sale_80 : decode cX6_sale 80 = .ok (.aload_n 0, 1) := by decide +kernel
theorem dX6_sale_81 : decode cX6_sale 81 = .ok (.getfield 51, 3) := by decide +kernel
theorem dX6_sale_84 : decode cX6_sale 84 = .ok (.istore 6, 2) := by decide +kernel
theorem dX6_sale_86 : decode cX6_sale 86 = .ok (.aload_n 0, 1) := by decide +kernel
theorem dX6_sale_87 : decode cX6_sale 87 = .ok (.getfield 18, 3) := by decide +kernel
theorem dX6_sale_90 : decode cX6_sale 90 = .ok (.iload 6, 2) := by decide +kernel
theorem dX6_sale_92 : decode cX6_sale 92 = .ok (.new 16, 3) := by decide +kernel
theorem dX6_sale_95 : decode cX6_sale 95 = .ok (.dup, 1) := by decide +kernel
theorem dX6_sale_96 : decode cX6_sale 96 = .ok (.iload_n 1, 1) := by decide +kernel
theorem dX6_sale_97 : decode cX6_sale 97 = .ok (.iload_n 2, 1) := by decide +kernel
theorem dX6_sale_98 : decode cX6_sale 98 = .ok (.iload_n 3, 1) := by decide +kernel
theorem dX6_sale_99 : decode cX6_sale 99 = .ok (.iload 4, 2) := by decide +kernel
theorem dX6_sale_101 : decode cX6_sale 101 = .ok (.invokespecial 60, 3) := by decide +kernel
theorem dX6_sale_104 : decode cX6_sale 104 = .ok (.aastore, 1) := by decide +kernel
theorem dX6_sale_105 : decode cX6_sale 105 = .ok (.aload_n 0, 1) := by decide +kernel
theorem dX6_sale_106 : decode cX6_sale 106 = .ok (.dup, 1) := by decide +kernel
theorem dX6_sale_107 : decode cX6_sale 107 = .ok (.getfield 51, 3) := by decide +kernel
theorem dX6_sale_110 : decode cX6_sale 110 = .ok (.iconst 1, 1) := by decide +kernel
theorem dX6_sale_111 : decode cX6_sale 111 = .ok (.iadd, 1) := by decide +kernel
theorem dX6_sale_112 : decode cX6_sale 112 = .ok (.putfield 51, 3) := by decide +kernel
theorem dX6_sale_115 : decode cX6_sale 115 = .ok (.aload 5, 2) := by decide +kernel
theorem dX6_sale_117 : decode cX6_sale 117 = .ok (.iload_n 2, 1) := by decide +kernel
theorem dX6_sale_118 : decode cX6_sale 118 = .ok (.iload_n 3, 1) := by decide +kernel
theorem dX6_sale_119 : decode cX6_sale 119 = .ok (.iload 4, 2) := by decide +kernel
theorem dX6_sale_121 : decode cX6_sale 121 = .ok (.invokevirtual 63, 3) := by decide +kernel
theorem dX6_sale_124 : decode cX6_sale 124 = .ok (.aload 5, 2) := by decide +kernel
theorem dX6_sale_126 : decode cX6_sale 126 = .ok (.dup, 1) := by decide +kernel
theorem dX6_sale_127 : decode cX6_sale 127 = .ok (.getfield 67, 3) := by decide +kernel
theorem dX6_sale_130 : decode cX6_sale 130 = .ok (.iconst 1, 1) := by decide +kernel
theorem dX6_sale_131 : decode cX6_sale 131 = .ok (.iadd, 1) := by decide +kernel
theorem dX6_sale_132 : decode cX6_sale 132 = .ok (.putfield 67, 3) := by decide +kernel
theorem dX6_sale_135 : decode cX6_sale 135 = .ok (.aload_n 0, 1) := by decide +kernel
theorem dX6_sale_136 : decode cX6_sale 136 = .ok (.aload 5, 2) := by decide +kernel
theorem dX6_sale_138 : decode cX6_sale 138 = .ok (.iconst 4, 1) := by decide +kernel
theorem dX6_sale_139 : decode cX6_sale 139 = .ok (.invokevirtual 70, 3) := by decide +kernel
theorem dX6_sale_142 : decode cX6_sale 142 = .ok (.iload 6, 2) := by decide +kernel
theorem dX6_sale_144 : decode cX6_sale 144 = .ok (.ireturn, 1) := by decide +kernel
theorem dX6_takeBack_0 : decode cX6_takeBack 0 = .ok (.iload_n 1, 1) := by decide +kernel
theorem dX6_takeBack_1 : decode cX6_takeBack 1 = .ok (.ifCond .lt 11, 3) := by decide +kernel
theorem dX6_takeBack_4 : decode cX6_takeBack 4 = .ok (.iload_n 1, 1) := by decide +kernel
theorem dX6_takeBack_5 : decode cX6_takeBack 5 = .ok (.aload_n 0, 1) := by decide +kernel
theorem dX6_takeBack_6 : decode cX6_takeBack 6 = .ok (.getfield 51, 3) := by decide +kernel
theorem dX6_takeBack_9 : decode cX6_takeBack 9 = .ok (.if_icmp .lt 13, 3) := by decide +kernel
theorem dX6_takeBack_12 : decode cX6_takeBack 12 = .ok (.new 39, 3) := by decide +kernel
theorem dX6_takeBack_15 : decode cX6_takeBack 15 = .ok (.dup, 1) := by decide +kernel
theorem dX6_takeBack_16 : decode cX6_takeBack 16 = .ok (.ldc 74, 2) := by decide +kernel
theorem dX6_takeBack_18 : decode cX6_takeBack 18 = .ok (.invokespecial 43, 3) := by decide +kernel
theorem dX6_takeBack_21 : decode cX6_takeBack 21 = .ok (.athrow, 1) := by decide +kernel
theorem dX6_takeBack_22 : decode cX6_takeBack 22 = .ok (.aload_n 0, 1) := by decide +kernel
theorem dX6_takeBack_23 : decode cX6_takeBack 23 = .ok (.getfield 18, 3) := by decide +kernel
theorem dX6_takeBack_26 : decode cX6_takeBack 26 = .ok (.iload_n 1, 1) := by decide +kernel
theorem dX6_takeBack_27 : decode cX6_takeBack 27 = .ok (.aaload, 1) := by decide +kernel
theorem dX6_takeBack_28 : decode cX6_takeBack 28 = .ok (.astore_n 2, 1) := by decide +kernel
theorem dX6_takeBack_29 : decode cX6_takeBack 29 = .ok (.aload_n 2, 1) := by decide +kernel
theorem dX6_takeBack_30 : decode cX6_takeBack 30 = .ok (.getfield 76, 3) := by decide +kernel
theorem dX6_takeBack_33 : decode cX6_takeBack 33 = .ok (.ifCond .eq 13, 3) := by decide +kernel
theorem dX6_takeBack_36 : decode cX6_takeBack 36 = .ok (.new 55, 3) := by decide +kernel
theorem dX6_takeBack_39 : decode cX6_takeBack 39 = .ok (.dup, 1) := by decide +kernel
theorem dX6_takeBack_40 : decode cX6_takeBack 40 = .ok (.ldc 80, 2) := by decide +kernel
theorem dX6_takeBack_42 : decode cX6_takeBack 42 = .ok (.invokespecial 59, 3) := by decide +kernel
theorem dX6_takeBack_45 : decode cX6_takeBack 45 = .ok (.athrow, 1) := by decide +kernel
theorem dX6_takeBack_46 : decode cX6_takeBack 46 = .ok (.aload_n 0, 1) := by decide +kernel
theorem dX6_takeBack_47 : decode cX6_takeBack 47 = .ok (.getfield 11, 3) := by decide +kernel
theorem dX6_takeBack_50 : decode cX6_takeBack 50 = .ok (.aload_n 2, 1) := by decide +kernel
theorem dX6_takeBack_51 : decode cX6_takeBack 51 = .ok (.getfield 82, 3) := by decide +kernel
theorem dX6_takeBack_54 : decode cX6_takeBack 54 = .ok (.aaload, 1) := by decide +kernel
theorem dX6_takeBack_55 : decode cX6_takeBack 55 = .ok (.astore_n 3, 1) := by decide +kernel
theorem dX6_takeBack_56 : decode cX6_takeBack 56 = .ok (.aload_n 2, 1) := by decide +kernel
theorem dX6_takeBack_57 : decode cX6_takeBack 57 = .ok (.iconst 1, 1) := by decide +kernel
theorem dX6_takeBack_58 : decode cX6_takeBack 58 = .ok (.putfield 76, 3) := by decide +kernel
theorem dX6_takeBack_61 : decode cX6_takeBack 61 = .ok (.aload_n 3, 1) := by decide +kernel
theorem dX6_takeBack_62 : decode cX6_takeBack 62 = .ok (.aload_n 2, 1) := by decide +kernel
theorem dX6_takeBack_63 : decode cX6_takeBack 63 = .ok (.getfield 85, 3) := by decide +kernel
theorem dX6_takeBack_66 : decode cX6_takeBack 66 = .ok (.aload_n 2, 1) := by decide +kernel
theorem dX6_takeBack_67 : decode cX6_takeBack 67 = .ok (.getfield 88, 3) := by decide +kernel
theorem dX6_takeBack_70 : decode cX6_takeBack 70 = .ok (.aload_n 2, 1) := by decide +kernel
theorem dX6_takeBack_71 : decode cX6_takeBack 71 = .ok (.getfield 91, 3) := by decide +kernel
theorem dX6_takeBack_74 : decode cX6_takeBack 74 = .ok (.ineg, 1) := by decide +kernel
theorem dX6_takeBack_75 : decode cX6_takeBack 75 = .ok (.invokevirtual 63, 3) := by decide +kernel
theorem dX6_takeBack_78 : decode cX6_takeBack 78 = .ok (.aload_n 3, 1) := by decide +kernel
theorem dX6_takeBack_79 : decode cX6_takeBack 79 = .ok (.dup, 1) := by decide +kernel
theorem dX6_takeBack_80 : decode cX6_takeBack 80 = .ok (.getfield 67, 3) := by decide +kernel
theorem dX6_takeBack_83 : decode cX6_takeBack 83 = .ok (.iconst 1, 1) := by decide +kernel
theorem dX6_takeBack_84 : decode cX6_takeBack 84 = .ok (.isub, 1) := by decide +kernel
theorem dX6_takeBack_85 : decode cX6_takeBack 85 = .ok (.putfield 67, 3) := by decide +kernel
theorem dX6_takeBack_88 : decode cX6_takeBack 88 = .ok (.aload_n 0, 1) := by decide +kernel
theorem dX6_takeBack_89 : decode cX6_takeBack 89 = .ok (.aload_n 3, 1) := by decide +kernel
theorem dX6_takeBack_90 : decode cX6_takeBack 90 = .ok (.iconst 4, 1) := by decide +kernel
theorem dX6_takeBack_91 : decode cX6_takeBack 91 = .ok (.invokevirtual 70, 3) := by decide +kernel
theorem dX6_takeBack_94 : decode cX6_takeBack 94 = .ok (.aload_n 2, 1) := by decide +kernel
theorem dX6_takeBack_95 : decode cX6_takeBack 95 = .ok (.getfield 91, 3) := by decide +kernel
theorem dX6_takeBack_98 : decode cX6_takeBack 98 = .ok (.ireturn, 1) := by decide +kernel
theorem dX6_turn_0 : decode cX6_turn 0 = .ok (.aload_n 0, 1) := by decide +kernel
theorem dX6_turn_1 : decode cX6_turn 1 = .ok (.iload_n 1, 1) := by decide +kernel
theorem dX6_turn_2 : decode cX6_turn 2 = .ok (.invokevirtual 35, 3) := by decide +kernel
theorem dX6_turn_5 : decode cX6_turn 5 = .ok (.astore_n 2, 1) := by decide +kernel
theorem dX6_turn_6 : decode cX6_turn 6 = .ok (.aload_n 2, 1) := by decide +kernel
theorem dX6_turn_7 : decode cX6_turn 7 = .ok (.aload_n 2, 1) := by decide +kernel
theorem dX6_turn_8 : decode cX6_turn 8 = .ok (.getfield 94, 3) := by decide +kernel
theorem dX6_turn_11 : decode cX6_turn 11 = .ok (.ifCond .ne 7, 3) := by decide +kernel
theorem dX6_turn_14 : decode cX6_turn 14 = .ok (.iconst 1, 1) := by decide +kernel
theorem dX6_turn_15 : decode cX6_turn 15 = .ok (.goto 4, 3) := by decide +kernel
theorem dX6_turn_18 : decode cX6_turn 18 = .ok (.iconst 0, 1) := by decide +kernel
theorem dX6_turn_19 : decode cX6_turn 19 = .ok (.putfield 94, 3) := by decide +kernel
theorem dX6_turn_22 : decode cX6_turn 22 = .ok (.aload_n 2, 1) := by decide +kernel
theorem dX6_turn_23 : decode cX6_turn 23 = .ok (.getfield 94, 3) := by decide +kernel
theorem dX6_turn_26 : decode cX6_turn 26 = .ok (.ireturn, 1) := by decide +kernel
theorem dX6_sum_0 : decode cX6_sum 0 = .ok (.aload_n 0, 1) := by decide +kernel
theorem dX6_sum_1 : decode cX6_sum 1 = .ok (.iload_n 1, 1) := by decide +kernel
theorem dX6_sum_2 : decode cX6_sum 2 = .ok (.iload_n 2, 1) := by decide +kernel
theorem dX6_sum_3 : decode cX6_sum 3 = .ok (.iload_n 3, 1) := by decide +kernel
theorem dX6_sum_4 : decode cX6_sum 4 = .ok (.invokevirtual 97, 3) := by decide +kernel
theorem dX6_sum_7 : decode cX6_sum 7 = .ok (.istore 4, 2) := by decide +kernel
theorem dX6_sum_9 : decode cX6_sum 9 = .ok (.aload_n 0, 1) := by decide +kernel
theorem dX6_sum_10 : decode cX6_sum 10 = .ok (.getfield 11, 3) := by decide +kernel
theorem dX6_sum_13 : decode cX6_sum 13 = .ok (.iload_n 1, 1) := by decide +kernel
theorem dX6_sum_14 : decode cX6_sum 14 = .ok (.aaload, 1) := by decide +kernel
theorem dX6_sum_15 : decode cX6_sum 15 = .ok (.getfield 101, 3) := by decide +kernel
theorem dX6_sum_18 : decode cX6_sum 18 = .ok (.iload 4, 2) := by decide +kernel
theorem dX6_sum_20 : decode cX6_sum 20 = .ok (.iaload, 1) := by decide +kernel
theorem dX6_sum_21 : decode cX6_sum 21 = .ok (.ireturn, 1) := by decide +kernel
theorem dX6_sumFromSales_0 : decode cX6_sumFromSales 0 = .ok (.aload_n 0, 1) := by decide +kernel
theorem dX6_sumFromSales_1 : decode cX6_sumFromSales 1 = .ok (.iload_n 1, 1) := by decide +kernel
theorem dX6_sumFromSales_2 : decode cX6_sumFromSales 2 = .ok (.iload_n 2, 1) := by decide +kernel
theorem dX6_sumFromSales_3 : decode cX6_sumFromSales 3 = .ok (.iload_n 3, 1) := by decide +kernel
theorem dX6_sumFromSales_4 : decode cX6_sumFromSales 4 = .ok (.invokevirtual 97, 3) := by decide +kernel
theorem dX6_sumFromSales_7 : decode cX6_sumFromSales 7 = .ok (.istore 4, 2) := by decide +kernel
theorem dX6_sumFromSales_9 : decode cX6_sumFromSales 9 = .ok (.iconst 0, 1) := by decide +kernel
theorem dX6_sumFromSales_10 : decode cX6_sumFromSales 10 = .ok (.istore 5, 2) := by decide +kernel
theorem dX6_sumFromSales_12 : decode cX6_sumFromSales 12 = .ok (.iconst 0, 1) := by decide +kernel
theorem dX6_sumFromSales_13 : decode cX6_sumFromSales 13 = .ok (.istore 6, 2) := by decide +kernel
theorem dX6_sumFromSales_15 : decode cX6_sumFromSales 15 = .ok (.iload 6, 2) := by decide +kernel
theorem dX6_sumFromSales_17 : decode cX6_sumFromSales 17 = .ok (.aload_n 0, 1) := by decide +kernel
theorem dX6_sumFromSales_18 : decode cX6_sumFromSales 18 = .ok (.getfield 51, 3) := by decide +kernel
theorem dX6_sumFromSales_21 : decode cX6_sumFromSales 21 = .ok (.if_icmp .ge 53, 3) := by decide +kernel
theorem dX6_sumFromSales_24 : decode cX6_sumFromSales 24 = .ok (.aload_n 0, 1) := by decide +kernel
theorem dX6_sumFromSales_25 : decode cX6_sumFromSales 25 = .ok (.getfield 18, 3) := by decide +kernel
theorem dX6_sumFromSales_28 : decode cX6_sumFromSales 28 = .ok (.iload 6, 2) := by decide +kernel
theorem dX6_sumFromSales_30 : decode cX6_sumFromSales 30 = .ok (.aaload, 1) := by decide +kernel
theorem dX6_sumFromSales_31 : decode cX6_sumFromSales 31 = .ok (.getfield 82, 3) := by decide +kernel
theorem dX6_sumFromSales_34 : decode cX6_sumFromSales 34 = .ok (.iload_n 1, 1) := by decide +kernel
theorem dX6_sumFromSales_35 : decode cX6_sumFromSales 35 = .ok (.if_icmp .ne 33, 3) := by decide +kernel
theorem dX6_sumFromSales_38 : decode cX6_sumFromSales 38 = .ok (.aload_n 0, 1) := by decide +kernel
theorem dX6_sumFromSales_39 : decode cX6_sumFromSales 39 = .ok (.getfield 18, 3) := by decide +kernel
theorem dX6_sumFromSales_42 : decode cX6_sumFromSales 42 = .ok (.iload 6, 2) := by decide +kernel
theorem dX6_sumFromSales_44 : decode cX6_sumFromSales 44 = .ok (.aaload, 1) := by decide +kernel
theorem dX6_sumFromSales_45 : decode cX6_sumFromSales 45 = .ok (.iload 4, 2) := by decide +kernel
theorem dX6_sumFromSales_47 : decode cX6_sumFromSales 47 = .ok (.invokevirtual 105, 3) := by decide +kernel
theorem dX6_sumFromSales_50 : decode cX6_sumFromSales 50 = .ok (.ifCond .eq 18, 3) := by decide +kernel
theorem dX6_sumFromSales_53 : decode cX6_sumFromSales 53 = .ok (.iload 5, 2) := by decide +kernel
theorem dX6_sumFromSales_55 : decode cX6_sumFromSales 55 = .ok (.aload_n 0, 1) := by decide +kernel
theorem dX6_sumFromSales_56 : decode cX6_sumFromSales 56 = .ok (.getfield 18, 3) := by decide +kernel
theorem dX6_sumFromSales_59 : decode cX6_sumFromSales 59 = .ok (.iload 6, 2) := by decide +kernel
theorem dX6_sumFromSales_61 : decode cX6_sumFromSales 61 = .ok (.aaload, 1) := by decide +kernel
theorem dX6_sumFromSales_62 : decode cX6_sumFromSales 62 = .ok (.getfield 91, 3) := by decide +kernel
theorem dX6_sumFromSales_65 : decode cX6_sumFromSales 65 = .ok (.iadd, 1) := by decide +kernel
theorem dX6_sumFromSales_66 : decode cX6_sumFromSales 66 = .ok (.istore 5, 2) := by decide +kernel
theorem dX6_sumFromSales_68 : decode cX6_sumFromSales 68 = .ok (.iinc 6 1, 3) := by decide +kernel
theorem dX6_sumFromSales_71 : decode cX6_sumFromSales 71 = .ok (.goto (-56), 3) := by decide +kernel
theorem dX6_sumFromSales_74 : decode cX6_sumFromSales 74 = .ok (.iload 5, 2) := by decide +kernel
theorem dX6_sumFromSales_76 : decode cX6_sumFromSales 76 = .ok (.ireturn, 1) := by decide +kernel
theorem dX6_embargo_0 : decode cX6_embargo 0 = .ok (.aload_n 0, 1) := by decide +kernel
theorem dX6_embargo_1 : decode cX6_embargo 1 = .ok (.iload_n 1, 1) := by decide +kernel
theorem dX6_embargo_2 : decode cX6_embargo 2 = .ok (.iload_n 2, 1) := by decide +kernel
theorem dX6_embargo_3 : decode cX6_embargo 3 = .ok (.iload_n 3, 1) := by decide +kernel
theorem dX6_embargo_4 : decode cX6_embargo 4 = .ok (.invokevirtual 97, 3) := by decide +kernel
theorem dX6_embargo_7 : decode cX6_embargo 7 = .ok (.istore 6, 2) := by decide +kernel
theorem dX6_embargo_9 : decode cX6_embargo 9 = .ok (.iload 4, 2) := by decide +kernel
theorem dX6_embargo_11 : decode cX6_embargo 11 = .ok (.iconst 1, 1) := by decide +kernel
theorem dX6_embargo_12 : decode cX6_embargo 12 = .ok (.if_icmp .lt 9, 3) := by decide +kernel
theorem dX6_embargo_15 : decode cX6_embargo 15 = .ok (.iload 4, 2) := by decide +kernel
theorem dX6_embargo_17 : decode cX6_embargo 17 = .ok (.iconst 4, 1) := by decide +kernel
theorem dX6_embargo_18 : decode cX6_embargo 18 = .ok (.if_icmp .lt 13, 3) := by decide +kernel
theorem dX6_embargo_21 : decode cX6_embargo 21 = .ok (.new 46, 3) := by decide +kernel
theorem dX6_embargo_24 : decode cX6_embargo 24 = .ok (.dup, 1) := by decide +kernel
theorem dX6_embargo_25 : decode cX6_embargo 25 = .ok (.ldc 109, 2) := by decide +kernel
theorem dX6_embargo_27 : decode cX6_embargo 27 = .ok (.invokespecial 50, 3) := by decide +kernel
theorem dX6_embargo_30 : decode cX6_embargo 30 = .ok (.athrow, 1) := by decide +kernel
theorem dX6_embargo_31 : decode cX6_embargo 31 = .ok (.iload 5, 2) := by decide +kernel
theorem dX6_embargo_33 : decode cX6_embargo 33 = .ok (.iconst 1, 1) := by decide +kernel
theorem dX6_embargo_34 : decode cX6_embargo 34 = .ok (.if_icmp .lt 10, 3) := by decide +kernel
theorem dX6_embargo_37 : decode cX6_embargo 37 = .ok (.iload 5, 2) := by decide +kernel
theorem dX6_embargo_39 : decode cX6_embargo 39 = .ok (.bipush 100, 2) := by decide +kernel
theorem dX6_embargo_41 : decode cX6_embargo 41 = .ok (.if_icmp .le 13, 3) := by decide +kernel
theorem dX6_embargo_44 : decode cX6_embargo 44 = .ok (.new 46, 3) := by decide +kernel
theorem dX6_embargo_47 : decode cX6_embargo 47 = .ok (.dup, 1) := by decide +kernel
theorem dX6_embargo_48 : decode cX6_embargo 48 = .ok (.ldc 111, 2) := by decide +kernel
theorem dX6_embargo_50 : decode cX6_embargo 50 = .ok (.invokespecial 50, 3) := by decide +kernel
theorem dX6_embargo_53 : decode cX6_embargo 53 = .ok (.athrow, 1) := by decide +kernel
theorem dX6_embargo_54 : decode cX6_embargo 54 = .ok (.aload_n 0, 1) := by decide +kernel
theorem dX6_embargo_55 : decode cX6_embargo 55 = .ok (.getfield 113, 3) := by decide +kernel
theorem dX6_embargo_58 : decode cX6_embargo 58 = .ok (.bipush 40, 2) := by decide +kernel
theorem dX6_embargo_60 : decode cX6_embargo 60 = .ok (.if_icmp .lt 13, 3) := by decide +kernel
theorem dX6_embargo_63 : decode cX6_embargo 63 = .ok (.new 55, 3) := by decide +kernel
theorem dX6_embargo_66 : decode cX6_embargo 66 = .ok (.dup, 1) := by decide +kernel
theorem dX6_embargo_67 : decode cX6_embargo 67 = .ok (.ldc 116, 2) := by decide +kernel
theorem dX6_embargo_69 : decode cX6_embargo 69 = .ok (.invokespecial 59, 3) := by decide +kernel
theorem dX6_embargo_72 : decode cX6_embargo 72 = .ok (.athrow, 1) := by decide +kernel
theorem dX6_embargo_73 : decode cX6_embargo 73 = .ok (.aload_n 0, 1) := by decide +kernel
theorem dX6_embargo_74 : decode cX6_embargo 74 = .ok (.getfield 113, 3) := by decide +kernel
theorem dX6_embargo_77 : decode cX6_embargo 77 = .ok (.istore 7, 2) := by decide +kernel
theorem dX6_embargo_79 : decode cX6_embargo 79 = .ok (.aload_n 0, 1) := by decide +kernel
theorem dX6_embargo_80 : decode cX6_embargo 80 = .ok (.getfield 24, 3) := by decide +kernel
theorem dX6_embargo_83 : decode cX6_embargo 83 = .ok (.iload 7, 2) := by decide +kernel
theorem dX6_embargo_85 : decode cX6_embargo 85 = .ok (.new 22, 3) := by decide +kernel
theorem dX6_embargo_88 : decode cX6_embargo 88 = .ok (.dup, 1) := by decide +kernel
theorem dX6_embargo_89 : decode cX6_embargo 89 = .ok (.iload_n 1, 1) := by decide +kernel
theorem dX6_embargo_90 : decode cX6_embargo 90 = .ok (.iload 6, 2) := by decide +kernel
theorem dX6_embargo_92 : decode cX6_embargo 92 = .ok (.iload 4, 2) := by decide +kernel
theorem dX6_embargo_94 : decode cX6_embargo 94 = .ok (.aload_n 0, 1) := by decide +kernel
theorem dX6_embargo_95 : decode cX6_embargo 95 = .ok (.getfield 118, 3) := by decide +kernel
theorem dX6_embargo_98 : decode cX6_embargo 98 = .ok (.iload 5, 2) := by decide +kernel
theorem dX6_embargo_100 : decode cX6_embargo 100 = .ok (.iadd, 1) := by decide +kernel
theorem dX6_embargo_101 : decode cX6_embargo 101 = .ok (.invokespecial 121, 3) := by decide +kernel
theorem dX6_embargo_104 : decode cX6_embargo 104 = .ok (.aastore, 1) := by decide +kernel
theorem dX6_embargo_105 : decode cX6_embargo 105 = .ok (.aload_n 0, 1) := by decide +kernel
theorem dX6_embargo_106 : decode cX6_embargo 106 = .ok (.dup, 1) := by decide +kernel
theorem dX6_embargo_107 : decode cX6_embargo 107 = .ok (.getfield 113, 3) := by decide +kernel
theorem dX6_embargo_110 : decode cX6_embargo 110 = .ok (.iconst 1, 1) := by decide +kernel
theorem dX6_embargo_111 : decode cX6_embargo 111 = .ok (.iadd, 1) := by decide +kernel
theorem dX6_embargo_112 : decode cX6_embargo 112 = .ok (.putfield 113, 3) := by decide +kernel
theorem dX6_embargo_115 : decode cX6_embargo 115 = .ok (.aload_n 0, 1) := by decide +kernel
theorem dX6_embargo_116 : decode cX6_embargo 116 = .ok (.aload_n 0, 1) := by decide +kernel
theorem dX6_embargo_117 : decode cX6_embargo 117 = .ok (.getfield 11, 3) := by decide +kernel
theorem dX6_embargo_120 : decode cX6_embargo 120 = .ok (.iload_n 1, 1) := by decide +kernel
theorem dX6_embargo_121 : decode cX6_embargo 121 = .ok (.aaload, 1) := by decide +kernel
theorem dX6_embargo_122 : decode cX6_embargo 122 = .ok (.iload 4, 2) := by decide +kernel
theorem dX6_embargo_124 : decode cX6_embargo 124 = .ok (.invokevirtual 70, 3) := by decide +kernel
theorem dX6_embargo_127 : decode cX6_embargo 127 = .ok (.iload 7, 2) := by decide +kernel
theorem dX6_embargo_129 : decode cX6_embargo 129 = .ok (.ireturn, 1) := by decide +kernel
theorem dX6_lift_0 : decode cX6_lift 0 = .ok (.iload_n 1, 1) := by decide +kernel
theorem dX6_lift_1 : decode cX6_lift 1 = .ok (.ifCond .lt 11, 3) := by decide +kernel
theorem dX6_lift_4 : decode cX6_lift 4 = .ok (.iload_n 1, 1) := by decide +kernel
theorem dX6_lift_5 : decode cX6_lift 5 = .ok (.aload_n 0, 1) := by decide +kernel
theorem dX6_lift_6 : decode cX6_lift 6 = .ok (.getfield 113, 3) := by decide +kernel
theorem dX6_lift_9 : decode cX6_lift 9 = .ok (.if_icmp .lt 13, 3) := by decide +kernel
theorem dX6_lift_12 : decode cX6_lift 12 = .ok (.new 39, 3) := by decide +kernel
theorem dX6_lift_15 : decode cX6_lift 15 = .ok (.dup, 1) := by decide +kernel
theorem dX6_lift_16 : decode cX6_lift 16 = .ok (.ldc 122, 2) := by decide +kernel
theorem dX6_lift_18 : decode cX6_lift 18 = .ok (.invokespecial 43, 3) := by decide +kernel
theorem dX6_lift_21 : decode cX6_lift 21 = .ok (.athrow, 1) := by decide +kernel
theorem dX6_lift_22 : decode cX6_lift 22 = .ok (.aload_n 0, 1) := by decide +kernel
theorem dX6_lift_23 : decode cX6_lift 23 = .ok (.getfield 24, 3) := by decide +kernel
theorem dX6_lift_26 : decode cX6_lift 26 = .ok (.iload_n 1, 1) := by decide +kernel
theorem dX6_lift_27 : decode cX6_lift 27 = .ok (.aaload, 1) := by decide +kernel
theorem dX6_lift_28 : decode cX6_lift 28 = .ok (.astore_n 2, 1) := by decide +kernel
theorem dX6_lift_29 : decode cX6_lift 29 = .ok (.aload_n 2, 1) := by decide +kernel
theorem dX6_lift_30 : decode cX6_lift 30 = .ok (.aload_n 0, 1) := by decide +kernel
theorem dX6_lift_31 : decode cX6_lift 31 = .ok (.getfield 118, 3) := by decide +kernel
theorem dX6_lift_34 : decode cX6_lift 34 = .ok (.invokevirtual 124, 3) := by decide +kernel
theorem dX6_lift_37 : decode cX6_lift 37 = .ok (.ifCond .ne 13, 3) := by decide +kernel
theorem dX6_lift_40 : decode cX6_lift 40 = .ok (.new 55, 3) := by decide +kernel
theorem dX6_lift_43 : decode cX6_lift 43 = .ok (.dup, 1) := by decide +kernel
theorem dX6_lift_44 : decode cX6_lift 44 = .ok (.ldc 127, 2) := by decide +kernel
theorem dX6_lift_46 : decode cX6_lift 46 = .ok (.invokespecial 59, 3) := by decide +kernel
theorem dX6_lift_49 : decode cX6_lift 49 = .ok (.athrow, 1) := by decide +kernel
theorem dX6_lift_50 : decode cX6_lift 50 = .ok (.aload_n 2, 1) := by decide +kernel
theorem dX6_lift_51 : decode cX6_lift 51 = .ok (.iconst 1, 1) := by decide +kernel
theorem dX6_lift_52 : decode cX6_lift 52 = .ok (.putfield 129, 3) := by decide +kernel
theorem dX6_lift_55 : decode cX6_lift 55 = .ok (.aload_n 0, 1) := by decide +kernel
theorem dX6_lift_56 : decode cX6_lift 56 = .ok (.aload_n 0, 1) := by decide +kernel
theorem dX6_lift_57 : decode cX6_lift 57 = .ok (.getfield 11, 3) := by decide +kernel
theorem dX6_lift_60 : decode cX6_lift 60 = .ok (.aload_n 2, 1) := by decide +kernel
theorem dX6_lift_61 : decode cX6_lift 61 = .ok (.getfield 132, 3) := by decide +kernel
theorem dX6_lift_64 : decode cX6_lift 64 = .ok (.aaload, 1) := by decide +kernel
theorem dX6_lift_65 : decode cX6_lift 65 = .ok (.aload_n 2, 1) := by decide +kernel
theorem dX6_lift_66 : decode cX6_lift 66 = .ok (.getfield 133, 3) := by decide +kernel
theorem dX6_lift_69 : decode cX6_lift 69 = .ok (.invokevirtual 70, 3) := by decide +kernel
theorem dX6_lift_72 : decode cX6_lift 72 = .ok (.aload_n 2, 1) := by decide +kernel
theorem dX6_lift_73 : decode cX6_lift 73 = .ok (.getfield 136, 3) := by decide +kernel
theorem dX6_lift_76 : decode cX6_lift 76 = .ok (.aload_n 0, 1) := by decide +kernel
theorem dX6_lift_77 : decode cX6_lift 77 = .ok (.getfield 118, 3) := by decide +kernel
theorem dX6_lift_80 : decode cX6_lift 80 = .ok (.isub, 1) := by decide +kernel
theorem dX6_lift_81 : decode cX6_lift 81 = .ok (.ireturn, 1) := by decide +kernel
theorem dX6_isEmbargoed_0 : decode cX6_isEmbargoed 0 = .ok (.aload_n 0, 1) := by decide +kernel
theorem dX6_isEmbargoed_1 : decode cX6_isEmbargoed 1 = .ok (.iload_n 1, 1) := by decide +kernel
theorem dX6_isEmbargoed_2 : decode cX6_isEmbargoed 2 = .ok (.iload_n 2, 1) := by decide +kernel
theorem dX6_isEmbargoed_3 : decode cX6_isEmbargoed 3 = .ok (.iload_n 3, 1) := by decide +kernel
theorem dX6_isEmbargoed_4 : decode cX6_isEmbargoed 4 = .ok (.invokevirtual 97, 3) := by decide +kernel
theorem dX6_isEmbargoed_7 : decode cX6_isEmbargoed 7 = .ok (.istore 5, 2) := by decide +kernel
theorem dX6_isEmbargoed_9 : decode cX6_isEmbargoed 9 = .ok (.iload 4, 2) := by decide +kernel
theorem dX6_isEmbargoed_11 : decode cX6_isEmbargoed 11 = .ok (.invokestatic 139, 3) := by decide +kernel
theorem dX6_isEmbargoed_14 : decode cX6_isEmbargoed 14 = .ok (.aload_n 0, 1) := by decide +kernel
theorem dX6_isEmbargoed_15 : decode cX6_isEmbargoed 15 = .ok (.iload_n 1, 1) := by decide +kernel
theorem dX6_isEmbargoed_16 : decode cX6_isEmbargoed 16 = .ok (.iload 4, 2) := by decide +kernel
theorem dX6_isEmbargoed_18 : decode cX6_isEmbargoed 18 = .ok (.invokevirtual 143, 3) := by decide +kernel
theorem dX6_isEmbargoed_21 : decode cX6_isEmbargoed 21 = .ok (.iload 5, 2) := by decide +kernel
theorem dX6_isEmbargoed_23 : decode cX6_isEmbargoed 23 = .ok (.invokestatic 147, 3) := by decide +kernel
theorem dX6_isEmbargoed_26 : decode cX6_isEmbargoed 26 = .ok (.ireturn, 1) := by decide +kernel
theorem dX6_pass_0 : decode cX6_pass 0 = .ok (.iload_n 1, 1) := by decide +kernel
theorem dX6_pass_1 : decode cX6_pass 1 = .ok (.iconst 1, 1) := by decide +kernel
theorem dX6_pass_2 : decode cX6_pass 2 = .ok (.if_icmp .lt 9, 3) := by decide +kernel
theorem dX6_pass_5 : decode cX6_pass 5 = .ok (.iload_n 1, 1) := by decide +kernel
theorem dX6_pass_6 : decode cX6_pass 6 = .ok (.bipush 100, 2) := by decide +kernel
theorem dX6_pass_8 : decode cX6_pass 8 = .ok (.if_icmp .le 13, 3) := by decide +kernel
theorem dX6_pass_11 : decode cX6_pass 11 = .ok (.new 46, 3) := by decide +kernel
theorem dX6_pass_14 : decode cX6_pass 14 = .ok (.dup, 1) := by decide +kernel
theorem dX6_pass_15 : decode cX6_pass 15 = .ok (.ldc 111, 2) := by decide +kernel
theorem dX6_pass_17 : decode cX6_pass 17 = .ok (.invokespecial 50, 3) := by decide +kernel
theorem dX6_pass_20 : decode cX6_pass 20 = .ok (.athrow, 1) := by decide +kernel
theorem dX6_pass_21 : decode cX6_pass 21 = .ok (.aload_n 0, 1) := by decide +kernel
theorem dX6_pass_22 : decode cX6_pass 22 = .ok (.getfield 118, 3) := by decide +kernel
theorem dX6_pass_25 : decode cX6_pass 25 = .ok (.iload_n 1, 1) := by decide +kernel
theorem dX6_pass_26 : decode cX6_pass 26 = .ok (.iadd, 1) := by decide +kernel
theorem dX6_pass_27 : decode cX6_pass 27 = .ok (.sipush 10000, 3) := by decide +kernel
theorem dX6_pass_30 : decode cX6_pass 30 = .ok (.if_icmp .le 13, 3) := by decide +kernel
theorem dX6_pass_33 : decode cX6_pass 33 = .ok (.new 55, 3) := by decide +kernel
theorem dX6_pass_36 : decode cX6_pass 36 = .ok (.dup, 1) := by decide +kernel
theorem dX6_pass_37 : decode cX6_pass 37 = .ok (.ldc 151, 2) := by decide +kernel
theorem dX6_pass_39 : decode cX6_pass 39 = .ok (.invokespecial 59, 3) := by decide +kernel
theorem dX6_pass_42 : decode cX6_pass 42 = .ok (.athrow, 1) := by decide +kernel
theorem dX6_pass_43 : decode cX6_pass 43 = .ok (.aload_n 0, 1) := by decide +kernel
theorem dX6_pass_44 : decode cX6_pass 44 = .ok (.getfield 153, 3) := by decide +kernel
theorem dX6_pass_47 : decode cX6_pass 47 = .ok (.istore_n 2, 1) := by decide +kernel
theorem dX6_pass_48 : decode cX6_pass 48 = .ok (.aload_n 0, 1) := by decide +kernel
theorem dX6_pass_49 : decode cX6_pass 49 = .ok (.getfield 118, 3) := by decide +kernel
theorem dX6_pass_52 : decode cX6_pass 52 = .ok (.iload_n 1, 1) := by decide +kernel
theorem dX6_pass_53 : decode cX6_pass 53 = .ok (.iadd, 1) := by decide +kernel
theorem dX6_pass_54 : decode cX6_pass 54 = .ok (.istore_n 3, 1) := by decide +kernel
theorem dX6_pass_55 : decode cX6_pass 55 = .ok (.iconst 0, 1) := by decide +kernel
theorem dX6_pass_56 : decode cX6_pass 56 = .ok (.istore 4, 2) := by decide +kernel
theorem dX6_pass_58 : decode cX6_pass 58 = .ok (.iload 4, 2) := by decide +kernel
theorem dX6_pass_60 : decode cX6_pass 60 = .ok (.aload_n 0, 1) := by decide +kernel
theorem dX6_pass_61 : decode cX6_pass 61 = .ok (.getfield 113, 3) := by decide +kernel
theorem dX6_pass_64 : decode cX6_pass 64 = .ok (.if_icmp .ge 58, 3) := by decide +kernel
theorem dX6_pass_67 : decode cX6_pass 67 = .ok (.aload_n 0, 1) := by decide +kernel
theorem dX6_pass_68 : decode cX6_pass 68 = .ok (.getfield 24, 3) := by decide +kernel
theorem dX6_pass_71 : decode cX6_pass 71 = .ok (.iload 4, 2) := by decide +kernel
theorem dX6_pass_73 : decode cX6_pass 73 = .ok (.aaload, 1) := by decide +kernel
theorem dX6_pass_74 : decode cX6_pass 74 = .ok (.astore 5, 2) := by decide +kernel
theorem dX6_pass_76 : decode cX6_pass 76 = .ok (.aload 5, 2) := by decide +kernel
theorem dX6_pass_78 : decode cX6_pass 78 = .ok (.aload_n 0, 1) := by decide +kernel
theorem dX6_pass_79 : decode cX6_pass 79 = .ok (.getfield 118, 3) := by decide +kernel
theorem dX6_pass_82 : decode cX6_pass 82 = .ok (.invokevirtual 124, 3) := by decide +kernel
theorem dX6_pass_85 : decode cX6_pass 85 = .ok (.ifCond .eq 31, 3) := by decide +kernel
theorem dX6_pass_88 : decode cX6_pass 88 = .ok (.aload 5, 2) := by decide +kernel
theorem dX6_pass_90 : decode cX6_pass 90 = .ok (.iload_n 3, 1) := by decide +kernel
theorem dX6_pass_91 : decode cX6_pass 91 = .ok (.invokevirtual 124, 3) := by decide +kernel
theorem dX6_pass_94 : decode cX6_pass 94 = .ok (.ifCond .ne 22, 3) := by decide +kernel
theorem dX6_pass_97 : decode cX6_pass 97 = .ok (.aload_n 0, 1) := by decide +kernel
theorem dX6_pass_98 : decode cX6_pass 98 = .ok (.aload_n 0, 1) := by decide +kernel
theorem dX6_pass_99 : decode cX6_pass 99 = .ok (.getfield 11, 3) := by decide +kernel
theorem dX6_pass_102 : decode cX6_pass 102 = .ok (.aload 5, 2) := by decide +kernel
theorem dX6_pass_104 : decode cX6_pass 104 = .ok (.getfield 132, 3) := by decide +kernel
theorem dX6_pass_107 : decode cX6_pass 107 = .ok (.aaload, 1) := by decide +kernel
theorem dX6_pass_108 : decode cX6_pass 108 = .ok (.aload 5, 2) := by decide +kernel
theorem dX6_pass_110 : decode cX6_pass 110 = .ok (.getfield 133, 3) := by decide +kernel
theorem dX6_pass_113 : decode cX6_pass 113 = .ok (.invokevirtual 70, 3) := by decide +kernel
theorem dX6_pass_116 : decode cX6_pass 116 = .ok (.iinc 4 1, 3) := by decide +kernel
theorem dX6_pass_119 : decode cX6_pass 119 = .ok (.goto (-61), 3) := by decide +kernel
theorem dX6_pass_122 : decode cX6_pass 122 = .ok (.aload_n 0, 1) := by decide +kernel
theorem dX6_pass_123 : decode cX6_pass 123 = .ok (.iload_n 3, 1) := by decide +kernel
theorem dX6_pass_124 : decode cX6_pass 124 = .ok (.putfield 118, 3) := by decide +kernel
theorem dX6_pass_127 : decode cX6_pass 127 = .ok (.aload_n 0, 1) := by decide +kernel
theorem dX6_pass_128 : decode cX6_pass 128 = .ok (.getfield 153, 3) := by decide +kernel
theorem dX6_pass_131 : decode cX6_pass 131 = .ok (.iload_n 2, 1) := by decide +kernel
theorem dX6_pass_132 : decode cX6_pass 132 = .ok (.isub, 1) := by decide +kernel
theorem dX6_pass_133 : decode cX6_pass 133 = .ok (.ireturn, 1) := by decide +kernel
theorem dX6_build_0 : decode cX6_build 0 = .ok (.aload_n 0, 1) := by decide +kernel
theorem dX6_build_1 : decode cX6_build 1 = .ok (.iload_n 1, 1) := by decide +kernel
theorem dX6_build_2 : decode cX6_build 2 = .ok (.iload_n 2, 1) := by decide +kernel
theorem dX6_build_3 : decode cX6_build 3 = .ok (.invokevirtual 156, 3) := by decide +kernel
