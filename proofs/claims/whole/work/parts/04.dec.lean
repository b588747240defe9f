theorem dX6_build_6 : decode cX6_build 6 = .ok (.astore_n 3, 1) := by decide +kernel
theorem dX6_build_7 : decode cX6_build 7 = .ok (.aload_n 0, 1) := by decide +kernel
theorem dX6_build_8 : decode cX6_build 8 = .ok (.iload_n 1, 1) := by decide +kernel
theorem dX6_build_9 : decode cX6_build 9 = .ok (.iload_n 2, 1) := by decide +kernel
theorem dX6_build_10 : decode cX6_build 10 = .ok (.invokevirtual 143, 3) := by decide +kernel
theorem dX6_build_13 : decode cX6_build 13 = .ok (.istore 4, 2) := by decide +kernel
theorem dX6_build_15 : decode cX6_build 15 = .ok (.aload_n 3, 1) := by decide +kernel
theorem dX6_build_16 : decode cX6_build 16 = .ok (.aload_n 0, 1) := by decide +kernel
theorem dX6_build_17 : decode cX6_build 17 = .ok (.getfield 11, 3) := by decide +kernel
theorem dX6_build_20 : decode cX6_build 20 = .ok (.iload_n 1, 1) := by decide +kernel
theorem dX6_build_21 : decode cX6_build 21 = .ok (.aaload, 1) := by decide +kernel
theorem dX6_build_22 : decode cX6_build 22 = .ok (.iload 4, 2) := by decide +kernel
theorem dX6_build_24 : decode cX6_build 24 = .ok (.iload 4, 2) := by decide +kernel
theorem dX6_build_26 : decode cX6_build 26 = .ok (.invokestatic 160, 3) := by decide +kernel
theorem dX6_build_29 : decode cX6_build 29 = .ok (.invokevirtual 166, 3) := by decide +kernel
theorem dX6_build_32 : decode cX6_build 32 = .ok (.aload_n 3, 1) := by decide +kernel
theorem dX6_build_33 : decode cX6_build 33 = .ok (.getfield 172, 3) := by decide +kernel
theorem dX6_build_36 : decode cX6_build 36 = .ok (.invokestatic 175, 3) := by decide +kernel
theorem dX6_build_39 : decode cX6_build 39 = .ok (.ireturn, 1) := by decide +kernel
theorem dX6_isBuilt_0 : decode cX6_isBuilt 0 = .ok (.aload_n 0, 1) := by decide +kernel
theorem dX6_isBuilt_1 : decode cX6_isBuilt 1 = .ok (.iload_n 1, 1) := by decide +kernel
theorem dX6_isBuilt_2 : decode cX6_isBuilt 2 = .ok (.iload_n 2, 1) := by decide +kernel
theorem dX6_isBuilt_3 : decode cX6_isBuilt 3 = .ok (.invokevirtual 156, 3) := by decide +kernel
theorem dX6_isBuilt_6 : decode cX6_isBuilt 6 = .ok (.getfield 180, 3) := by decide +kernel
theorem dX6_isBuilt_9 : decode cX6_isBuilt 9 = .ok (.ireturn, 1) := by decide +kernel
theorem dX6_shown_0 : decode cX6_shown 0 = .ok (.aload_n 0, 1) := by decide +kernel
theorem dX6_shown_1 : decode cX6_shown 1 = .ok (.iload_n 1, 1) := by decide +kernel
theorem dX6_shown_2 : decode cX6_shown 2 = .ok (.iload_n 2, 1) := by decide +kernel
theorem dX6_shown_3 : decode cX6_shown 3 = .ok (.invokevirtual 156, 3) := by decide +kernel
theorem dX6_shown_6 : decode cX6_shown 6 = .ok (.astore 5, 2) := by decide +kernel
theorem dX6_shown_8 : decode cX6_shown 8 = .ok (.aload_n 0, 1) := by decide +kernel
theorem dX6_shown_9 : decode cX6_shown 9 = .ok (.iload_n 1, 1) := by decide +kernel
theorem dX6_shown_10 : decode cX6_shown 10 = .ok (.iload_n 3, 1) := by decide +kernel
theorem dX6_shown_11 : decode cX6_shown 11 = .ok (.iload 4, 2) := by decide +kernel
theorem dX6_shown_13 : decode cX6_shown 13 = .ok (.invokevirtual 97, 3) := by decide +kernel
theorem dX6_shown_16 : decode cX6_shown 16 = .ok (.istore 6, 2) := by decide +kernel
theorem dX6_shown_18 : decode cX6_shown 18 = .ok (.aload 5, 2) := by decide +kernel
theorem dX6_shown_20 : decode cX6_shown 20 = .ok (.getfield 180, 3) := by decide +kernel
theorem dX6_shown_23 : decode cX6_shown 23 = .ok (.ifCond .ne 13, 3) := by decide +kernel
theorem dX6_shown_26 : decode cX6_shown 26 = .ok (.new 55, 3) := by decide +kernel
theorem dX6_shown_29 : decode cX6_shown 29 = .ok (.dup, 1) := by decide +kernel
theorem dX6_shown_30 : decode cX6_shown 30 = .ok (.ldc 183, 2) := by decide +kernel
theorem dX6_shown_32 : decode cX6_shown 32 = .ok (.invokespecial 59, 3) := by decide +kernel
theorem dX6_shown_35 : decode cX6_shown 35 = .ok (.athrow, 1) := by decide +kernel
theorem dX6_shown_36 : decode cX6_shown 36 = .ok (.aload 5, 2) := by decide +kernel
theorem dX6_shown_38 : decode cX6_shown 38 = .ok (.getfield 172, 3) := by decide +kernel
theorem dX6_shown_41 : decode cX6_shown 41 = .ok (.iload 6, 2) := by decide +kernel
theorem dX6_shown_43 : decode cX6_shown 43 = .ok (.invokestatic 147, 3) := by decide +kernel
theorem dX6_shown_46 : decode cX6_shown 46 = .ok (.ifCond .eq 8, 3) := by decide +kernel
theorem dX6_shown_49 : decode cX6_shown 49 = .ok (.ldc 185, 2) := by decide +kernel
theorem dX6_shown_51 : decode cX6_shown 51 = .ok (.goto 11, 3) := by decide +kernel
theorem dX6_shown_54 : decode cX6_shown 54 = .ok (.aload 5, 2) := by decide +kernel
theorem dX6_shown_56 : decode cX6_shown 56 = .ok (.getfield 186, 3) := by decide +kernel
theorem dX6_shown_59 : decode cX6_shown 59 = .ok (.iload 6, 2) := by decide +kernel
theorem dX6_shown_61 : decode cX6_shown 61 = .ok (.iaload, 1) := by decide +kernel
theorem dX6_shown_62 : decode cX6_shown 62 = .ok (.ireturn, 1) := by decide +kernel
theorem dX6_why_0 : decode cX6_why 0 = .ok (.aload_n 0, 1) := by decide +kernel
theorem dX6_why_1 : decode cX6_why 1 = .ok (.iload_n 1, 1) := by decide +kernel
theorem dX6_why_2 : decode cX6_why 2 = .ok (.iload_n 2, 1) := by decide +kernel
theorem dX6_why_3 : decode cX6_why 3 = .ok (.invokevirtual 156, 3) := by decide +kernel
theorem dX6_why_6 : decode cX6_why 6 = .ok (.astore 5, 2) := by decide +kernel
theorem dX6_why_8 : decode cX6_why 8 = .ok (.aload_n 0, 1) := by decide +kernel
theorem dX6_why_9 : decode cX6_why 9 = .ok (.iload_n 1, 1) := by decide +kernel
theorem dX6_why_10 : decode cX6_why 10 = .ok (.iload_n 3, 1) := by decide +kernel
theorem dX6_why_11 : decode cX6_why 11 = .ok (.iload 4, 2) := by decide +kernel
theorem dX6_why_13 : decode cX6_why 13 = .ok (.invokevirtual 97, 3) := by decide +kernel
theorem dX6_why_16 : decode cX6_why 16 = .ok (.istore 6, 2) := by decide +kernel
theorem dX6_why_18 : decode cX6_why 18 = .ok (.aload 5, 2) := by decide +kernel
theorem dX6_why_20 : decode cX6_why 20 = .ok (.getfield 180, 3) := by decide +kernel
theorem dX6_why_23 : decode cX6_why 23 = .ok (.ifCond .ne 5, 3) := by decide +kernel
theorem dX6_why_26 : decode cX6_why 26 = .ok (.iconst 3, 1) := by decide +kernel
theorem dX6_why_27 : decode cX6_why 27 = .ok (.ireturn, 1) := by decide +kernel
theorem dX6_why_28 : decode cX6_why 28 = .ok (.aload 5, 2) := by decide +kernel
theorem dX6_why_30 : decode cX6_why 30 = .ok (.getfield 189, 3) := by decide +kernel
theorem dX6_why_33 : decode cX6_why 33 = .ok (.iload 6, 2) := by decide +kernel
theorem dX6_why_35 : decode cX6_why 35 = .ok (.invokestatic 147, 3) := by decide +kernel
theorem dX6_why_38 : decode cX6_why 38 = .ok (.ifCond .eq 5, 3) := by decide +kernel
theorem dX6_why_41 : decode cX6_why 41 = .ok (.iconst 1, 1) := by decide +kernel
theorem dX6_why_42 : decode cX6_why 42 = .ok (.ireturn, 1) := by decide +kernel
theorem dX6_why_43 : decode cX6_why 43 = .ok (.aload 5, 2) := by decide +kernel
theorem dX6_why_45 : decode cX6_why 45 = .ok (.getfield 172, 3) := by decide +kernel
theorem dX6_why_48 : decode cX6_why 48 = .ok (.iload 6, 2) := by decide +kernel
theorem dX6_why_50 : decode cX6_why 50 = .ok (.invokestatic 147, 3) := by decide +kernel
theorem dX6_why_53 : decode cX6_why 53 = .ok (.ifCond .eq 7, 3) := by decide +kernel
theorem dX6_why_56 : decode cX6_why 56 = .ok (.iconst 2, 1) := by decide +kernel
theorem dX6_why_57 : decode cX6_why 57 = .ok (.goto 4, 3) := by decide +kernel
theorem dX6_why_60 : decode cX6_why 60 = .ok (.iconst 0, 1) := by decide +kernel
theorem dX6_why_61 : decode cX6_why 61 = .ok (.ireturn, 1) := by decide +kernel
theorem dX6_read_0 : decode cX6_read 0 = .ok (.aload_n 0, 1) := by decide +kernel
theorem dX6_read_1 : decode cX6_read 1 = .ok (.iload_n 1, 1) := by decide +kernel
theorem dX6_read_2 : decode cX6_read 2 = .ok (.iload_n 2, 1) := by decide +kernel
theorem dX6_read_3 : decode cX6_read 3 = .ok (.invokevirtual 156, 3) := by decide +kernel
theorem dX6_read_6 : decode cX6_read 6 = .ok (.astore_n 3, 1) := by decide +kernel
theorem dX6_read_7 : decode cX6_read 7 = .ok (.aload_n 3, 1) := by decide +kernel
theorem dX6_read_8 : decode cX6_read 8 = .ok (.getfield 180, 3) := by decide +kernel
theorem dX6_read_11 : decode cX6_read 11 = .ok (.ifCond .ne 13, 3) := by decide +kernel
theorem dX6_read_14 : decode cX6_read 14 = .ok (.new 55, 3) := by decide +kernel
theorem dX6_read_17 : decode cX6_read 17 = .ok (.dup, 1) := by decide +kernel
theorem dX6_read_18 : decode cX6_read 18 = .ok (.ldc 183, 2) := by decide +kernel
theorem dX6_read_20 : decode cX6_read 20 = .ok (.invokespecial 59, 3) := by decide +kernel
theorem dX6_read_23 : decode cX6_read 23 = .ok (.athrow, 1) := by decide +kernel
theorem dX6_read_24 : decode cX6_read 24 = .ok (.aload_n 3, 1) := by decide +kernel
theorem dX6_read_25 : decode cX6_read 25 = .ok (.getfield 192, 3) := by decide +kernel
theorem dX6_read_28 : decode cX6_read 28 = .ok (.ireturn, 1) := by decide +kernel
theorem dX6_dropped_0 : decode cX6_dropped 0 = .ok (.aload_n 0, 1) := by decide +kernel
theorem dX6_dropped_1 : decode cX6_dropped 1 = .ok (.getfield 153, 3) := by decide +kernel
theorem dX6_dropped_4 : decode cX6_dropped 4 = .ok (.ireturn, 1) := by decide +kernel
theorem dX6_mark_0 : decode cX6_mark 0 = .ok (.iload_n 1, 1) := by decide +kernel
theorem dX6_mark_1 : decode cX6_mark 1 = .ok (.iload_n 2, 1) := by decide +kernel
theorem dX6_mark_2 : decode cX6_mark 2 = .ok (.invokestatic 195, 3) := by decide +kernel
theorem dX6_mark_5 : decode cX6_mark 5 = .ok (.istore_n 3, 1) := by decide +kernel
theorem dX6_mark_6 : decode cX6_mark 6 = .ok (.aload_n 0, 1) := by decide +kernel
theorem dX6_mark_7 : decode cX6_mark 7 = .ok (.dup, 1) := by decide +kernel
theorem dX6_mark_8 : decode cX6_mark 8 = .ok (.getfield 198, 3) := by decide +kernel
theorem dX6_mark_11 : decode cX6_mark 11 = .ok (.iconst 1, 1) := by decide +kernel
theorem dX6_mark_12 : decode cX6_mark 12 = .ok (.iload_n 3, 1) := by decide +kernel
theorem dX6_mark_13 : decode cX6_mark 13 = .ok (.ishl, 1) := by decide +kernel
theorem dX6_mark_14 : decode cX6_mark 14 = .ok (.ixor, 1) := by decide +kernel
theorem dX6_mark_15 : decode cX6_mark 15 = .ok (.putfield 198, 3) := by decide +kernel
theorem dX6_mark_18 : decode cX6_mark 18 = .ok (.aload_n 0, 1) := by decide +kernel
theorem dX6_mark_19 : decode cX6_mark 19 = .ok (.getfield 198, 3) := by decide +kernel
theorem dX6_mark_22 : decode cX6_mark 22 = .ok (.iload_n 3, 1) := by decide +kernel
theorem dX6_mark_23 : decode cX6_mark 23 = .ok (.invokestatic 147, 3) := by decide +kernel
theorem dX6_mark_26 : decode cX6_mark 26 = .ok (.ireturn, 1) := by decide +kernel
theorem dX6_clear_0 : decode cX6_clear 0 = .ok (.aload_n 0, 1) := by decide +kernel
theorem dX6_clear_1 : decode cX6_clear 1 = .ok (.getfield 198, 3) := by decide +kernel
theorem dX6_clear_4 : decode cX6_clear 4 = .ok (.invokestatic 175, 3) := by decide +kernel
theorem dX6_clear_7 : decode cX6_clear 7 = .ok (.istore_n 1, 1) := by decide +kernel
theorem dX6_clear_8 : decode cX6_clear 8 = .ok (.aload_n 0, 1) := by decide +kernel
theorem dX6_clear_9 : decode cX6_clear 9 = .ok (.iconst 0, 1) := by decide +kernel
theorem dX6_clear_10 : decode cX6_clear 10 = .ok (.putfield 198, 3) := by decide +kernel
theorem dX6_clear_13 : decode cX6_clear 13 = .ok (.iload_n 1, 1) := by decide +kernel
theorem dX6_clear_14 : decode cX6_clear 14 = .ok (.ireturn, 1) := by decide +kernel
theorem dX6_isKnown_0 : decode cX6_isKnown 0 = .ok (.iload_n 1, 1) := by decide +kernel
theorem dX6_isKnown_1 : decode cX6_isKnown 1 = .ok (.iload_n 2, 1) := by decide +kernel
theorem dX6_isKnown_2 : decode cX6_isKnown 2 = .ok (.invokestatic 195, 3) := by decide +kernel
theorem dX6_isKnown_5 : decode cX6_isKnown 5 = .ok (.istore_n 3, 1) := by decide +kernel
theorem dX6_isKnown_6 : decode cX6_isKnown 6 = .ok (.aload_n 0, 1) := by decide +kernel
theorem dX6_isKnown_7 : decode cX6_isKnown 7 = .ok (.getfield 198, 3) := by decide +kernel
theorem dX6_isKnown_10 : decode cX6_isKnown 10 = .ok (.iload_n 3, 1) := by decide +kernel
theorem dX6_isKnown_11 : decode cX6_isKnown 11 = .ok (.invokestatic 147, 3) := by decide +kernel
theorem dX6_isKnown_14 : decode cX6_isKnown 14 = .ok (.ifCond .eq 14, 3) := by decide +kernel
theorem dX6_isKnown_17 : decode cX6_isKnown 17 = .ok (.aload_n 0, 1) := by decide +kernel
theorem dX6_isKnown_18 : decode cX6_isKnown 18 = .ok (.getfield 198, 3) := by decide +kernel
theorem dX6_isKnown_21 : decode cX6_isKnown 21 = .ok (.iload_n 3, 1) := by decide +kernel
theorem dX6_isKnown_22 : decode cX6_isKnown 22 = .ok (.invokestatic 201, 3) := by decide +kernel
theorem dX6_isKnown_25 : decode cX6_isKnown 25 = .ok (.ifCond .ne 7, 3) := by decide +kernel
theorem dX6_isKnown_28 : decode cX6_isKnown 28 = .ok (.iconst 1, 1) := by decide +kernel
theorem dX6_isKnown_29 : decode cX6_isKnown 29 = .ok (.goto 4, 3) := by decide +kernel
theorem dX6_isKnown_32 : decode cX6_isKnown 32 = .ok (.iconst 0, 1) := by decide +kernel
theorem dX6_isKnown_33 : decode cX6_isKnown 33 = .ok (.ireturn, 1) := by decide +kernel
theorem dX6_isKnownBySolving_0 : decode cX6_isKnownBySolving 0 = .ok (.iload_n 1, 1) := by decide +kernel
theorem dX6_isKnownBySolving_1 : decode cX6_isKnownBySolving 1 = .ok (.iload_n 2, 1) := by decide +kernel
theorem dX6_isKnownBySolving_2 : decode cX6_isKnownBySolving 2 = .ok (.invokestatic 195, 3) := by decide +kernel
theorem dX6_isKnownBySolving_5 : decode cX6_isKnownBySolving 5 = .ok (.istore_n 3, 1) := by decide +kernel
theorem dX6_isKnownBySolving_6 : decode cX6_isKnownBySolving 6 = .ok (.aload_n 0, 1) := by decide +kernel
theorem dX6_isKnownBySolving_7 : decode cX6_isKnownBySolving 7 = .ok (.getfield 198, 3) := by decide +kernel
theorem dX6_isKnownBySolving_10 : decode cX6_isKnownBySolving 10 = .ok (.iload_n 3, 1) := by decide +kernel
theorem dX6_isKnownBySolving_11 : decode cX6_isKnownBySolving 11 = .ok (.invokestatic 147, 3) := by decide +kernel
theorem dX6_isKnownBySolving_14 : decode cX6_isKnownBySolving 14 = .ok (.ifCond .eq 18, 3) := by decide +kernel
theorem dX6_isKnownBySolving_17 : decode cX6_isKnownBySolving 17 = .ok (.aload_n 0, 1) := by decide +kernel
theorem dX6_isKnownBySolving_18 : decode cX6_isKnownBySolving 18 = .ok (.getfield 31, 3) := by decide +kernel
theorem dX6_isKnownBySolving_21 : decode cX6_isKnownBySolving 21 = .ok (.aload_n 0, 1) := by decide +kernel
theorem dX6_isKnownBySolving_22 : decode cX6_isKnownBySolving 22 = .ok (.getfield 198, 3) := by decide +kernel
theorem dX6_isKnownBySolving_25 : decode cX6_isKnownBySolving 25 = .ok (.iload_n 3, 1) := by decide +kernel
theorem dX6_isKnownBySolving_26 : decode cX6_isKnownBySolving 26 = .ok (.invokevirtual 204, 3) := by decide +kernel
theorem dX6_isKnownBySolving_29 : decode cX6_isKnownBySolving 29 = .ok (.ifCond .eq 7, 3) := by decide +kernel
theorem dX6_isKnownBySolving_32 : decode cX6_isKnownBySolving 32 = .ok (.iconst 1, 1) := by decide +kernel
theorem dX6_isKnownBySolving_33 : decode cX6_isKnownBySolving 33 = .ok (.goto 4, 3) := by decide +kernel
theorem dX6_isKnownBySolving_36 : decode cX6_isKnownBySolving 36 = .ok (.iconst 0, 1) := by decide +kernel
theorem dX6_isKnownBySolving_37 : decode cX6_isKnownBySolving 37 = .ok (.ireturn, 1) := by decide +kernel
theorem dX6_cover_0 : decode cX6_cover 0 = .ok (.aload_n 0, 1) := by decide +kernel
theorem dX6_cover_1 : decode cX6_cover 1 = .ok (.getfield 198, 3) := by decide +kernel
theorem dX6_cover_4 : decode cX6_cover 4 = .ok (.invokestatic 175, 3) := by decide +kernel
theorem dX6_cover_7 : decode cX6_cover 7 = .ok (.istore_n 1, 1) := by decide +kernel
theorem dX6_cover_8 : decode cX6_cover 8 = .ok (.aload_n 0, 1) := by decide +kernel
theorem dX6_cover_9 : decode cX6_cover 9 = .ok (.aload_n 0, 1) := by decide +kernel
theorem dX6_cover_10 : decode cX6_cover 10 = .ok (.getfield 198, 3) := by decide +kernel
theorem dX6_cover_13 : decode cX6_cover 13 = .ok (.invokestatic 160, 3) := by decide +kernel
theorem dX6_cover_16 : decode cX6_cover 16 = .ok (.putfield 198, 3) := by decide +kernel
theorem dX6_cover_19 : decode cX6_cover 19 = .ok (.aload_n 0, 1) := by decide +kernel
theorem dX6_cover_20 : decode cX6_cover 20 = .ok (.getfield 198, 3) := by decide +kernel
theorem dX6_cover_23 : decode cX6_cover 23 = .ok (.invokestatic 175, 3) := by decide +kernel
theorem dX6_cover_26 : decode cX6_cover 26 = .ok (.iload_n 1, 1) := by decide +kernel
theorem dX6_cover_27 : decode cX6_cover 27 = .ok (.isub, 1) := by decide +kernel
theorem dX6_cover_28 : decode cX6_cover 28 = .ok (.ireturn, 1) := by decide +kernel
theorem dX6_tableAt_0 : decode cX6_tableAt 0 = .ok (.iload_n 1, 1) := by decide +kernel
theorem dX6_tableAt_1 : decode cX6_tableAt 1 = .ok (.ifCond .lt 8, 3) := by decide +kernel
theorem dX6_tableAt_4 : decode cX6_tableAt 4 = .ok (.iload_n 1, 1) := by decide +kernel
theorem dX6_tableAt_5 : decode cX6_tableAt 5 = .ok (.iconst 3, 1) := by decide +kernel
theorem dX6_tableAt_6 : decode cX6_tableAt 6 = .ok (.if_icmp .lt 13, 3) := by decide +kernel
theorem dX6_tableAt_9 : decode cX6_tableAt 9 = .ok (.new 39, 3) := by decide +kernel
theorem dX6_tableAt_12 : decode cX6_tableAt 12 = .ok (.dup, 1) := by decide +kernel
theorem dX6_tableAt_13 : decode cX6_tableAt 13 = .ok (.ldc 207, 2) := by decide +kernel
theorem dX6_tableAt_15 : decode cX6_tableAt 15 = .ok (.invokespecial 43, 3) := by decide +kernel
theorem dX6_tableAt_18 : decode cX6_tableAt 18 = .ok (.athrow, 1) := by decide +kernel
theorem dX6_tableAt_19 : decode cX6_tableAt 19 = .ok (.aload_n 0, 1) := by decide +kernel
theorem dX6_tableAt_20 : decode cX6_tableAt 20 = .ok (.getfield 11, 3) := by decide +kernel
theorem dX6_tableAt_23 : decode cX6_tableAt 23 = .ok (.iload_n 1, 1) := by decide +kernel
theorem dX6_tableAt_24 : decode cX6_tableAt 24 = .ok (.aaload, 1) := by decide +kernel
theorem dX6_tableAt_25 : decode cX6_tableAt 25 = .ok (.areturn, 1) := by decide +kernel
theorem dX6_reportAt_0 : decode cX6_reportAt 0 = .ok (.aload_n 0, 1) := by decide +kernel
theorem dX6_reportAt_1 : decode cX6_reportAt 1 = .ok (.iload_n 1, 1) := by decide +kernel
theorem dX6_reportAt_2 : decode cX6_reportAt 2 = .ok (.invokevirtual 35, 3) := by decide +kernel
theorem dX6_reportAt_5 : decode cX6_reportAt 5 = .ok (.astore_n 3, 1) := by decide +kernel
theorem dX6_reportAt_6 : decode cX6_reportAt 6 = .ok (.iload_n 2, 1) := by decide +kernel
theorem dX6_reportAt_7 : decode cX6_reportAt 7 = .ok (.invokestatic 139, 3) := by decide +kernel
theorem dX6_reportAt_10 : decode cX6_reportAt 10 = .ok (.aload_n 3, 1) := by decide +kernel
theorem dX6_reportAt_11 : decode cX6_reportAt 11 = .ok (.getfield 209, 3) := by decide +kernel
theorem dX6_reportAt_14 : decode cX6_reportAt 14 = .ok (.iload_n 2, 1) := by decide +kernel
theorem dX6_reportAt_15 : decode cX6_reportAt 15 = .ok (.aaload, 1) := by decide +kernel
theorem dX6_reportAt_16 : decode cX6_reportAt 16 = .ok (.areturn, 1) := by decide +kernel
theorem dX6_refuseStrangeLevel_0 : decode cX6_refuseStrangeLevel 0 = .ok (.iload_n 0, 1) := by decide +kernel
theorem dX6_refuseStrangeLevel_1 : decode cX6_refuseStrangeLevel 1 = .ok (.ifCond .lt 8, 3) := by decide +kernel
theorem dX6_refuseStrangeLevel_4 : decode cX6_refuseStrangeLevel 4 = .ok (.iload_n 0, 1) := by decide +kernel
theorem dX6_refuseStrangeLevel_5 : decode cX6_refuseStrangeLevel 5 = .ok (.iconst 4, 1) := by decide +kernel
theorem dX6_refuseStrangeLevel_6 : decode cX6_refuseStrangeLevel 6 = .ok (.if_icmp .lt 13, 3) := by decide +kernel
theorem dX6_refuseStrangeLevel_9 : decode cX6_refuseStrangeLevel 9 = .ok (.new 39, 3) := by decide +kernel
theorem dX6_refuseStrangeLevel_12 : decode cX6_refuseStrangeLevel 12 = .ok (.dup, 1) := by decide +kernel
theorem dX6_refuseStrangeLevel_13 : decode cX6_refuseStrangeLevel 13 = .ok (.ldc 213, 2) := by decide +kernel
theorem dX6_refuseStrangeLevel_15 : decode cX6_refuseStrangeLevel 15 = .ok (.invokespecial 43, 3) := by decide +kernel
theorem dX6_refuseStrangeLevel_18 : decode cX6_refuseStrangeLevel 18 = .ok (.athrow, 1) := by decide +kernel
theorem dX6_refuseStrangeLevel_19 : decode cX6_refuseStrangeLevel 19 = .ok (.return_, 1) := by decide +kernel
theorem dX6_entryOfTable_0 : decode cX6_entryOfTable 0 = .ok (.aload_n 0, 1) := by decide +kernel
theorem dX6_entryOfTable_1 : decode cX6_entryOfTable 1 = .ok (.iload_n 1, 1) := by decide +kernel
theorem dX6_entryOfTable_2 : decode cX6_entryOfTable 2 = .ok (.invokevirtual 35, 3) := by decide +kernel
theorem dX6_entryOfTable_5 : decode cX6_entryOfTable 5 = .ok (.getfield 94, 3) := by decide +kernel
theorem dX6_entryOfTable_8 : decode cX6_entryOfTable 8 = .ok (.ifCond .eq 11, 3) := by decide +kernel
theorem dX6_entryOfTable_11 : decode cX6_entryOfTable 11 = .ok (.iload_n 3, 1) := by decide +kernel
theorem dX6_entryOfTable_12 : decode cX6_entryOfTable 12 = .ok (.iload_n 2, 1) := by decide +kernel
theorem dX6_entryOfTable_13 : decode cX6_entryOfTable 13 = .ok (.invokestatic 195, 3) := by decide +kernel
theorem dX6_entryOfTable_16 : decode cX6_entryOfTable 16 = .ok (.goto 8, 3) := by decide +kernel
theorem dX6_entryOfTable_19 : decode cX6_entryOfTable 19 = .ok (.iload_n 2, 1) := by decide +kernel
theorem dX6_entryOfTable_20 : decode cX6_entryOfTable 20 = .ok (.iload_n 3, 1) := by decide +kernel
theorem dX6_entryOfTable_21 : decode cX6_entryOfTable 21 = .ok (.invokestatic 195, 3) := by decide +kernel
theorem dX6_entryOfTable_24 : decode cX6_entryOfTable 24 = .ok (.ireturn, 1) := by decide +kernel
theorem dX6_entryAt_0 : decode cX6_entryAt 0 = .ok (.iload_n 0, 1) := by decide +kernel
theorem dX6_entryAt_1 : decode cX6_entryAt 1 = .ok (.ifCond .lt 18, 3) := by decide +kernel
theorem dX6_entryAt_4 : decode cX6_entryAt 4 = .ok (.iload_n 0, 1) := by decide +kernel
theorem dX6_entryAt_5 : decode cX6_entryAt 5 = .ok (.iconst 5, 1) := by decide +kernel
theorem dX6_entryAt_6 : decode cX6_entryAt 6 = .ok (.if_icmp .ge 13, 3) := by decide +kernel
theorem dX6_entryAt_9 : decode cX6_entryAt 9 = .ok (.iload_n 1, 1) := by decide +kernel
theorem dX6_entryAt_10 : decode cX6_entryAt 10 = .ok (.ifCond .lt 9, 3) := by decide +kernel
theorem dX6_entryAt_13 : decode cX6_entryAt 13 = .ok (.iload_n 1, 1) := by decide +kernel
theorem dX6_entryAt_14 : decode cX6_entryAt 14 = .ok (.bipush 6, 2) := by decide +kernel
theorem dX6_entryAt_16 : decode cX6_entryAt 16 = .ok (.if_icmp .lt 13, 3) := by decide +kernel
theorem dX6_entryAt_19 : decode cX6_entryAt 19 = .ok (.new 39, 3) := by decide +kernel
theorem dX6_entryAt_22 : decode cX6_entryAt 22 = .ok (.dup, 1) := by decide +kernel
theorem dX6_entryAt_23 : decode cX6_entryAt 23 = .ok (.ldc 215, 2) := by decide +kernel
theorem dX6_entryAt_25 : decode cX6_entryAt 25 = .ok (.invokespecial 43, 3) := by decide +kernel
theorem dX6_entryAt_28 : decode cX6_entryAt 28 = .ok (.athrow, 1) := by decide +kernel
theorem dX6_entryAt_29 : decode cX6_entryAt 29 = .ok (.iload_n 0, 1) := by decide +kernel
theorem dX6_entryAt_30 : decode cX6_entryAt 30 = .ok (.bipush 6, 2) := by decide +kernel
theorem dX6_entryAt_32 : decode cX6_entryAt 32 = .ok (.imul, 1) := by decide +kernel
theorem dX6_entryAt_33 : decode cX6_entryAt 33 = .ok (.iload_n 1, 1) := by decide +kernel
theorem dX6_entryAt_34 : decode cX6_entryAt 34 = .ok (.iadd, 1) := by decide +kernel
theorem dX6_entryAt_35 : decode cX6_entryAt 35 = .ok (.ireturn, 1) := by decide +kernel
theorem dX6_contains_0 : decode cX6_contains 0 = .ok (.iload_n 0, 1) := by decide +kernel
theorem dX6_contains_1 : decode cX6_contains 1 = .ok (.iconst 1, 1) := by decide +kernel
theorem dX6_contains_2 : decode cX6_contains 2 = .ok (.iload_n 1, 1) := by decide +kernel
theorem dX6_contains_3 : decode cX6_contains 3 = .ok (.ishl, 1) := by decide +kernel
theorem dX6_contains_4 : decode cX6_contains 4 = .ok (.iand, 1) := by decide +kernel
theorem dX6_contains_5 : decode cX6_contains 5 = .ok (.ifCond .eq 7, 3) := by decide +kernel
theorem dX6_contains_8 : decode cX6_contains 8 = .ok (.iconst 1, 1) := by decide +kernel
theorem dX6_contains_9 : decode cX6_contains 9 = .ok (.goto 4, 3) := by decide +kernel
theorem dX6_contains_12 : decode cX6_contains 12 = .ok (.iconst 0, 1) := by decide +kernel
theorem dX6_contains_13 : decode cX6_contains 13 = .ok (.ireturn, 1) := by decide +kernel
theorem dX6_embargoedFor_0 : decode cX6_embargoedFor 0 = .ok (.iconst 0, 1) := by decide +kernel
theorem dX6_embargoedFor_1 : decode cX6_embargoedFor 1 = .ok (.istore_n 3, 1) := by decide +kernel
theorem dX6_embargoedFor_2 : decode cX6_embargoedFor 2 = .ok (.iconst 0, 1) := by decide +kernel
theorem dX6_embargoedFor_3 : decode cX6_embargoedFor 3 = .ok (.istore 4, 2) := by decide +kernel
theorem dX6_embargoedFor_5 : decode cX6_embargoedFor 5 = .ok (.iload 4, 2) := by decide +kernel
theorem dX6_embargoedFor_7 : decode cX6_embargoedFor 7 = .ok (.aload_n 0, 1) := by decide +kernel
theorem dX6_embargoedFor_8 : decode cX6_embargoedFor 8 = .ok (.getfield 113, 3) := by decide +kernel
theorem dX6_embargoedFor_11 : decode cX6_embargoedFor 11 = .ok (.if_icmp .ge 58, 3) := by decide +kernel
theorem dX6_embargoedFor_14 : decode cX6_embargoedFor 14 = .ok (.aload_n 0, 1) := by decide +kernel
theorem dX6_embargoedFor_15 : decode cX6_embargoedFor 15 = .ok (.getfield 24, 3) := by decide +kernel
theorem dX6_embargoedFor_18 : decode cX6_embargoedFor 18 = .ok (.iload 4, 2) := by decide +kernel
theorem dX6_embargoedFor_20 : decode cX6_embargoedFor 20 = .ok (.aaload, 1) := by decide +kernel
theorem dX6_embargoedFor_21 : decode cX6_embargoedFor 21 = .ok (.astore 5, 2) := by decide +kernel
theorem dX6_embargoedFor_23 : decode cX6_embargoedFor 23 = .ok (.aload 5, 2) := by decide +kernel
theorem dX6_embargoedFor_25 : decode cX6_embargoedFor 25 = .ok (.getfield 132, 3) := by decide +kernel
theorem dX6_embargoedFor_28 : decode cX6_embargoedFor 28 = .ok (.iload_n 1, 1) := by decide +kernel
theorem dX6_embargoedFor_29 : decode cX6_embargoedFor 29 = .ok (.if_icmp .ne 34, 3) := by decide +kernel
theorem dX6_embargoedFor_32 : decode cX6_embargoedFor 32 = .ok (.aload 5, 2) := by decide +kernel
theorem dX6_embargoedFor_34 : decode cX6_embargoedFor 34 = .ok (.getfield 133, 3) := by decide +kernel
theorem dX6_embargoedFor_37 : decode cX6_embargoedFor 37 = .ok (.iload_n 2, 1) := by decide +kernel
theorem dX6_embargoedFor_38 : decode cX6_embargoedFor 38 = .ok (.if_icmp .le 25, 3) := by decide +kernel
theorem dX6_embargoedFor_41 : decode cX6_embargoedFor 41 = .ok (.aload 5, 2) := by decide +kernel
theorem dX6_embargoedFor_43 : decode cX6_embargoedFor 43 = .ok (.aload_n 0, 1) := by decide +kernel
theorem dX6_embargoedFor_44 : decode cX6_embargoedFor 44 = .ok (.getfield 118, 3) := by decide +kernel
theorem dX6_embargoedFor_47 : decode cX6_embargoedFor 47 = .ok (.invokevirtual 124, 3) := by decide +kernel
theorem dX6_embargoedFor_50 : decode cX6_embargoedFor 50 = .ok (.ifCond .eq 13, 3) := by decide +kernel
theorem dX6_embargoedFor_53 : decode cX6_embargoedFor 53 = .ok (.iload_n 3, 1) := by decide +kernel
theorem dX6_embargoedFor_54 : decode cX6_embargoedFor 54 = .ok (.iconst 1, 1) := by decide +kernel
theorem dX6_embargoedFor_55 : decode cX6_embargoedFor 55 = .ok (.aload 5, 2) := by decide +kernel
theorem dX6_embargoedFor_57 : decode cX6_embargoedFor 57 = .ok (.getfield 217, 3) := by decide +kernel
theorem dX6_embargoedFor_60 : decode cX6_embargoedFor 60 = .ok (.ishl, 1) := by decide +kernel
theorem dX6_embargoedFor_61 : decode cX6_embargoedFor 61 = .ok (.ior, 1) := by decide +kernel
theorem dX6_embargoedFor_62 : decode cX6_embargoedFor 62 = .ok (.istore_n 3, 1) := by decide +kernel
theorem dX6_embargoedFor_63 : decode cX6_embargoedFor 63 = .ok (.iinc 4 1, 3) := by decide +kernel
theorem dX6_embargoedFor_66 : decode cX6_embargoedFor 66 = .ok (.goto (-61), 3) := by decide +kernel
theorem dX6_embargoedFor_69 : decode cX6_embargoedFor 69 = .ok (.iload_n 3, 1) := by decide +kernel
theorem dX6_embargoedFor_70 : decode cX6_embargoedFor 70 = .ok (.ireturn, 1) := by decide +kernel
theorem dX6_dropBelow_0 : decode cX6_dropBelow 0 = .ok (.iconst 0, 1) := by decide +kernel
theorem dX6_dropBelow_1 : decode cX6_dropBelow 1 = .ok (.istore_n 3, 1) := by decide +kernel
theorem dX6_dropBelow_2 : decode cX6_dropBelow 2 = .ok (.iload_n 3, 1) := by decide +kernel
theorem dX6_dropBelow_3 : decode cX6_dropBelow 3 = .ok (.iload_n 2, 1) := by decide +kernel
theorem dX6_dropBelow_4 : decode cX6_dropBelow 4 = .ok (.if_icmp .ge 41, 3) := by decide +kernel
theorem dX6_dropBelow_7 : decode cX6_dropBelow 7 = .ok (.aload_n 1, 1) := by decide +kernel
theorem dX6_dropBelow_8 : decode cX6_dropBelow 8 = .ok (.getfield 209, 3) := by decide +kernel
theorem dX6_dropBelow_11 : decode cX6_dropBelow 11 = .ok (.iload_n 3, 1) := by decide +kernel
theorem dX6_dropBelow_12 : decode cX6_dropBelow 12 = .ok (.aaload, 1) := by decide +kernel
theorem dX6_dropBelow_13 : decode cX6_dropBelow 13 = .ok (.getfield 180, 3) := by decide +kernel
theorem dX6_dropBelow_16 : decode cX6_dropBelow 16 = .ok (.ifCond .eq 23, 3) := by decide +kernel
theorem dX6_dropBelow_19 : decode cX6_dropBelow 19 = .ok (.aload_n 1, 1) := by decide +kernel
theorem dX6_dropBelow_20 : decode cX6_dropBelow 20 = .ok (.getfield 209, 3) := by decide +kernel
theorem dX6_dropBelow_23 : decode cX6_dropBelow 23 = .ok (.iload_n 3, 1) := by decide +kernel
theorem dX6_dropBelow_24 : decode cX6_dropBelow 24 = .ok (.aaload, 1) := by decide +kernel
theorem dX6_dropBelow_25 : decode cX6_dropBelow 25 = .ok (.iconst 0, 1) := by decide +kernel
theorem dX6_dropBelow_26 : decode cX6_dropBelow 26 = .ok (.putfield 180, 3) := by decide +kernel
theorem dX6_dropBelow_29 : decode cX6_dropBelow 29 = .ok (.aload_n 0, 1) := by decide +kernel
theorem dX6_dropBelow_30 : decode cX6_dropBelow 30 = .ok (.dup, 1) := by decide +kernel
theorem dX6_dropBelow_31 : decode cX6_dropBelow 31 = .ok (.getfield 153, 3) := by decide +kernel
theorem dX6_dropBelow_34 : decode cX6_dropBelow 34 = .ok (.iconst 1, 1) := by decide +kernel
theorem dX6_dropBelow_35 : decode cX6_dropBelow 35 = .ok (.iadd, 1) := by decide +kernel
theorem dX6_dropBelow_36 : decode cX6_dropBelow 36 = .ok (.putfield 153, 3) := by decide +kernel
theorem dX6_dropBelow_39 : decode cX6_dropBelow 39 = .ok (.iinc 3 1, 3) := by decide +kernel
theorem dX6_dropBelow_42 : decode cX6_dropBelow 42 = .ok (.goto (-40), 3) := by decide +kernel
theorem dX6_dropBelow_45 : decode cX6_dropBelow 45 = .ok (.return_, 1) := by decide +kernel
theorem dX7_init_0 : decode cX7_init 0 = .ok (.aload_n 0, 1) := by decide +kernel
theorem dX7_init_1 : decode cX7_init 1 = .ok (.invokespecial 1, 3) := by decide +kernel
theorem dX7_init_4 : decode cX7_init 4 = .ok (.aload_n 0, 1) := by decide +kernel
theorem dX7_init_5 : decode cX7_init 5 = .ok (.bipush 120, 2) := by decide +kernel
theorem dX7_init_7 : decode cX7_init 7 = .ok (.newarray .int, 2) := by decide +kernel
theorem dX7_init_9 : decode cX7_init 9 = .ok (.putfield 7, 3) := by decide +kernel
theorem dX7_init_12 : decode cX7_init 12 = .ok (.aload_n 0, 1) := by decide +kernel
theorem dX7_init_13 : decode cX7_init 13 = .ok (.bipush 120, 2) := by decide +kernel
theorem dX7_init_15 : decode cX7_init 15 = .ok (.newarray .int, 2) := by decide +kernel
theorem dX7_init_17 : decode cX7_init 17 = .ok (.putfield 13, 3) := by decide +kernel
theorem dX7_init_20 : decode cX7_init 20 = .ok (.aload_n 0, 1) := by decide +kernel
theorem dX7_init_21 : decode cX7_init 21 = .ok (.bipush 120, 2) := by decide +kernel
theorem dX7_init_23 : decode cX7_init 23 = .ok (.newarray .int, 2) := by decide +kernel
theorem dX7_init_25 : decode cX7_init 25 = .ok (.putfield 16, 3) := by decide +kernel
theorem dX7_init_28 : decode cX7_init 28 = .ok (.aload_n 0, 1) := by decide +kernel
theorem dX7_init_29 : decode cX7_init 29 = .ok (.bipush 120, 2) := by decide +kernel
theorem dX7_init_31 : decode cX7_init 31 = .ok (.newarray .int, 2) := by decide +kernel
theorem dX7_init_33 : decode cX7_init 33 = .ok (.putfield 19, 3) := by decide +kernel
theorem dX7_init_36 : decode cX7_init 36 = .ok (.aload_n 0, 1) := by decide +kernel
theorem dX7_init_37 : decode cX7_init 37 = .ok (.bipush 120, 2) := by decide +kernel
theorem dX7_init_39 : decode cX7_init 39 = .ok (.newarray .boolean, 2) := by decide +kernel
theorem dX7_init_41 : decode cX7_init 41 = .ok (.putfield 22, 3) := by decide +kernel
theorem dX7_init_44 : decode cX7_init 44 = .ok (.aload_n 0, 1) := by decide +kernel
theorem dX7_init_45 : decode cX7_init 45 = .ok (.iconst 3, 1) := by decide +kernel
theorem dX7_init_46 : decode cX7_init 46 = .ok (.newarray .boolean, 2) := by decide +kernel
theorem dX7_init_48 : decode cX7_init 48 = .ok (.putfield 26, 3) := by decide +kernel
theorem dX7_init_51 : decode cX7_init 51 = .ok (.aload_n 0, 1) := by decide +kernel
theorem dX7_init_52 : decode cX7_init 52 = .ok (.bipush 40, 2) := by decide +kernel
theorem dX7_init_54 : decode cX7_init 54 = .ok (.newarray .int, 2) := by decide +kernel
theorem dX7_init_56 : decode cX7_init 56 = .ok (.putfield 29, 3) := by decide +kernel
theorem dX7_init_59 : decode cX7_init 59 = .ok (.aload_n 0, 1) := by decide +kernel
theorem dX7_init_60 : decode cX7_init 60 = .ok (.bipush 40, 2) := by decide +kernel
theorem dX7_init_62 : decode cX7_init 62 = .ok (.newarray .int, 2) := by decide +kernel
theorem dX7_init_64 : decode cX7_init 64 = .ok (.putfield 32, 3) := by decide +kernel
theorem dX7_init_67 : decode cX7_init 67 = .ok (.aload_n 0, 1) := by decide +kernel
theorem dX7_init_68 : decode cX7_init 68 = .ok (.bipush 40, 2) := by decide +kernel
theorem dX7_init_70 : decode cX7_init 70 = .ok (.newarray .int, 2) := by decide +kernel
theorem dX7_init_72 : decode cX7_init 72 = .ok (.putfield 35, 3) := by decide +kernel
theorem dX7_init_75 : decode cX7_init 75 = .ok (.aload_n 0, 1) := by decide +kernel
theorem dX7_init_76 : decode cX7_init 76 = .ok (.bipush 40, 2) := by decide +kernel
theorem dX7_init_78 : decode cX7_init 78 = .ok (.newarray .int, 2) := by decide +kernel
theorem dX7_init_80 : decode cX7_init 80 = .ok (.putfield 38, 3) := by decide +kernel
theorem dX7_init_83 : decode cX7_init 83 = .ok (.aload_n 0, 1) := by decide +kernel
theorem dX7_init_84 : decode cX7_init 84 = .ok (.bipush 40, 2) := by decide +kernel
theorem dX7_init_86 : decode cX7_init 86 = .ok (.newarray .boolean, 2) := by decide +kernel
theorem dX7_init_88 : decode cX7_init 88 = .ok (.putfield 41, 3) := by decide +kernel
theorem dX7_init_91 : decode cX7_init 91 = .ok (.aload_n 0, 1) := by decide +kernel
theorem dX7_init_92 : decode cX7_init 92 = .ok (.bipush 12, 2) := by decide +kernel
theorem dX7_init_94 : decode cX7_init 94 = .ok (.newarray .boolean, 2) := by decide +kernel
theorem dX7_init_96 : decode cX7_init 96 = .ok (.putfield 44, 3) := by decide +kernel
theorem dX7_init_99 : decode cX7_init 99 = .ok (.aload_n 0, 1) := by decide +kernel
theorem dX7_init_100 : decode cX7_init 100 = .ok (.bipush 12, 2) := by decide +kernel
theorem dX7_init_102 : decode cX7_init 102 = .ok (.newarray .int, 2) := by decide +kernel
theorem dX7_init_104 : decode cX7_init 104 = .ok (.putfield 47, 3) := by decide +kernel
theorem dX7_init_107 : decode cX7_init 107 = .ok (.aload_n 0, 1) := by decide +kernel
theorem dX7_init_108 : decode cX7_init 108 = .ok (.bipush 12, 2) := by decide +kernel
theorem dX7_init_110 : decode cX7_init 110 = .ok (.newarray .int, 2) := by decide +kernel
theorem dX7_init_112 : decode cX7_init 112 = .ok (.putfield 50, 3) := by decide +kernel
theorem dX7_init_115 : decode cX7_init 115 = .ok (.return_, 1) := by decide +kernel
theorem dX7_thrown_0 : decode cX7_thrown 0 = .ok (.aload_n 0, 1) := by decide +kernel
theorem dX7_thrown_1 : decode cX7_thrown 1 = .ok (.getfield 53, 3) := by decide +kernel
theorem dX7_thrown_4 : decode cX7_thrown 4 = .ok (.ireturn, 1) := by decide +kernel
theorem dX7_refused_0 : decode cX7_refused 0 = .ok (.aload_n 0, 1) := by decide +kernel
theorem dX7_refused_1 : decode cX7_refused 1 = .ok (.iload_n 1, 1) := by decide +kernel
theorem dX7_refused_2 : decode cX7_refused 2 = .ok (.putfield 53, 3) := by decide +kernel
theorem dX7_refused_5 : decode cX7_refused 5 = .ok (.iload_n 1, 1) := by decide +kernel
theorem dX7_refused_6 : decode cX7_refused 6 = .ok (.ifCond .eq 7, 3) := by decide +kernel
theorem dX7_refused_9 : decode cX7_refused 9 = .ok (.iconst 1, 1) := by decide +kernel
theorem dX7_refused_10 : decode cX7_refused 10 = .ok (.goto 4, 3) := by decide +kernel
theorem dX7_refused_13 : decode cX7_refused 13 = .ok (.iconst 0, 1) := by decide +kernel
theorem dX7_refused_14 : decode cX7_refused 14 = .ok (.ireturn, 1) := by decide +kernel
theorem dX7_in_0 : decode cX7_in 0 = .ok (.iload_n 0, 1) := by decide +kernel
theorem dX7_in_1 : decode cX7_in 1 = .ok (.iload_n 1, 1) := by decide +kernel
theorem dX7_in_2 : decode cX7_in 2 = .ok (.if_icmp .lt 12, 3) := by decide +kernel
theorem dX7_in_5 : decode cX7_in 5 = .ok (.iload_n 0, 1) := by decide +kernel
theorem dX7_in_6 : decode cX7_in 6 = .ok (.iload_n 2, 1) := by decide +kernel
theorem dX7_in_7 : decode cX7_in 7 = .ok (.if_icmp .gt 7, 3) := by decide +kernel
theorem dX7_in_10 : decode cX7_in 10 = .ok (.iconst 1, 1) := by decide +kernel
theorem dX7_in_11 : decode cX7_in 11 = .ok (.goto 4, 3) := by decide +kernel
theorem dX7_in_14 : decode cX7_in 14 = .ok (.iconst 0, 1) := by decide +kernel
theorem dX7_in_15 : decode cX7_in 15 = .ok (.ireturn, 1) := by decide +kernel
theorem dX7_isTable_0 : decode cX7_isTable 0 = .ok (.iload_n 0, 1) := by decide +kernel
theorem dX7_isTable_1 : decode cX7_isTable 1 = .ok (.iconst 0, 1) := by decide +kernel
theorem dX7_isTable_2 : decode cX7_isTable 2 = .ok (.iconst 2, 1) := by decide +kernel
theorem dX7_isTable_3 : decode cX7_isTable 3 = .ok (.invokestatic 57, 3) := by decide +kernel
theorem dX7_isTable_6 : decode cX7_isTable 6 = .ok (.ireturn, 1) := by decide +kernel
theorem dX7_isLevel_0 : decode cX7_isLevel 0 = .ok (.iload_n 0, 1) := by decide +kernel
theorem dX7_isLevel_1 : decode cX7_isLevel 1 = .ok (.iconst 0, 1) := by decide +kernel
theorem dX7_isLevel_2 : decode cX7_isLevel 2 = .ok (.iconst 3, 1) := by decide +kernel
theorem dX7_isLevel_3 : decode cX7_isLevel 3 = .ok (.invokestatic 57, 3) := by decide +kernel
theorem dX7_isLevel_6 : decode cX7_isLevel 6 = .ok (.ireturn, 1) := by decide +kernel
theorem dX7_isEntry_0 : decode cX7_isEntry 0 = .ok (.iload_n 0, 1) := by decide +kernel
theorem dX7_isEntry_1 : decode cX7_isEntry 1 = .ok (.iconst 0, 1) := by decide +kernel
theorem dX7_isEntry_2 : decode cX7_isEntry 2 = .ok (.iconst 4, 1) := by decide +kernel
theorem dX7_isEntry_3 : decode cX7_isEntry 3 = .ok (.invokestatic 57, 3) := by decide +kernel
theorem dX7_isEntry_6 : decode cX7_isEntry 6 = .ok (.ifCond .eq 16, 3) := by decide +kernel
theorem dX7_isEntry_9 : decode cX7_isEntry 9 = .ok (.iload_n 1, 1) := by decide +kernel
theorem dX7_isEntry_10 : decode cX7_isEntry 10 = .ok (.iconst 0, 1) := by decide +kernel
theorem dX7_isEntry_11 : decode cX7_isEntry 11 = .ok (.iconst 5, 1) := by decide +kernel
theorem dX7_isEntry_12 : decode cX7_isEntry 12 = .ok (.invokestatic 57, 3) := by decide +kernel
theorem dX7_isEntry_15 : decode cX7_isEntry 15 = .ok (.ifCond .eq 7, 3) := by decide +kernel
theorem dX7_isEntry_18 : decode cX7_isEntry 18 = .ok (.iconst 1, 1) := by decide +kernel
theorem dX7_isEntry_19 : decode cX7_isEntry 19 = .ok (.goto 4, 3) := by decide +kernel
theorem dX7_isEntry_22 : decode cX7_isEntry 22 = .ok (.iconst 0, 1) := by decide +kernel
theorem dX7_isEntry_23 : decode cX7_isEntry 23 = .ok (.ireturn, 1) := by decide +kernel
theorem dX7_entryOf_0 : decode cX7_entryOf 0 = .ok (.iload_n 1, 1) := by decide +kernel
theorem dX7_entryOf_1 : decode cX7_entryOf 1 = .ok (.invokestatic 61, 3) := by decide +kernel
theorem dX7_entryOf_4 : decode cX7_entryOf 4 = .ok (.ifCond .ne 5, 3) := by decide +kernel
theorem dX7_entryOf_7 : decode cX7_entryOf 7 = .ok (.iconst (-1), 1) := by decide +kernel
theorem dX7_entryOf_8 : decode cX7_entryOf 8 = .ok (.ireturn, 1) := by decide +kernel
theorem dX7_entryOf_9 : decode cX7_entryOf 9 = .ok (.aload_n 0, 1) := by decide +kernel
theorem dX7_entryOf_10 : decode cX7_entryOf 10 = .ok (.getfield 26, 3) := by decide +kernel
theorem dX7_entryOf_13 : decode cX7_entryOf 13 = .ok (.iload_n 1, 1) := by decide +kernel
theorem dX7_entryOf_14 : decode cX7_entryOf 14 = .ok (.baload, 1) := by decide +kernel
theorem dX7_entryOf_15 : decode cX7_entryOf 15 = .ok (.ifCond .eq 7, 3) := by decide +kernel
theorem dX7_entryOf_18 : decode cX7_entryOf 18 = .ok (.iload_n 3, 1) := by decide +kernel
theorem dX7_entryOf_19 : decode cX7_entryOf 19 = .ok (.goto 4, 3) := by decide +kernel
theorem dX7_entryOf_22 : decode cX7_entryOf 22 = .ok (.iload_n 2, 1) := by decide +kernel
theorem dX7_entryOf_23 : decode cX7_entryOf 23 = .ok (.istore 4, 2) := by decide +kernel
theorem dX7_entryOf_25 : decode cX7_entryOf 25 = .ok (.aload_n 0, 1) := by decide +kernel
theorem dX7_entryOf_26 : decode cX7_entryOf 26 = .ok (.getfield 26, 3) := by decide +kernel
theorem dX7_entryOf_29 : decode cX7_entryOf 29 = .ok (.iload_n 1, 1) := by decide +kernel
theorem dX7_entryOf_30 : decode cX7_entryOf 30 = .ok (.baload, 1) := by decide +kernel
theorem dX7_entryOf_31 : decode cX7_entryOf 31 = .ok (.ifCond .eq 7, 3) := by decide +kernel
theorem dX7_entryOf_34 : decode cX7_entryOf 34 = .ok (.iload_n 2, 1) := by decide +kernel
theorem dX7_entryOf_35 : decode cX7_entryOf 35 = .ok (.goto 4, 3) := by decide +kernel
theorem dX7_entryOf_38 : decode cX7_entryOf 38 = .ok (.iload_n 3, 1) := by decide +kernel
theorem dX7_entryOf_39 : decode cX7_entryOf 39 = .ok (.istore 5, 2) := by decide +kernel
theorem dX7_entryOf_41 : decode cX7_entryOf 41 = .ok (.iload 4, 2) := by decide +kernel
theorem dX7_entryOf_43 : decode cX7_entryOf 43 = .ok (.iload 5, 2) := by decide +kernel
theorem dX7_entryOf_45 : decode cX7_entryOf 45 = .ok (.invokestatic 65, 3) := by decide +kernel
theorem dX7_entryOf_48 : decode cX7_entryOf 48 = .ok (.ifCond .eq 14, 3) := by decide +kernel
theorem dX7_entryOf_51 : decode cX7_entryOf 51 = .ok (.bipush 6, 2) := by decide +kernel
theorem dX7_entryOf_53 : decode cX7_entryOf 53 = .ok (.iload 4, 2) := by decide +kernel
theorem dX7_entryOf_55 : decode cX7_entryOf 55 = .ok (.imul, 1) := by decide +kernel
theorem dX7_entryOf_56 : decode cX7_entryOf 56 = .ok (.iload 5, 2) := by decide +kernel
theorem dX7_entryOf_58 : decode cX7_entryOf 58 = .ok (.iadd, 1) := by decide +kernel
theorem dX7_entryOf_59 : decode cX7_entryOf 59 = .ok (.goto 4, 3) := by decide +kernel
theorem dX7_entryOf_62 : decode cX7_entryOf 62 = .ok (.iconst (-1), 1) := by decide +kernel
theorem dX7_entryOf_63 : decode cX7_entryOf 63 = .ok (.ireturn, 1) := by decide +kernel
theorem dX7_bits_0 : decode cX7_bits 0 = .ok (.iconst 0, 1) := by decide +kernel
theorem dX7_bits_1 : decode cX7_bits 1 = .ok (.istore_n 1, 1) := by decide +kernel
theorem dX7_bits_2 : decode cX7_bits 2 = .ok (.iconst 0, 1) := by decide +kernel
theorem dX7_bits_3 : decode cX7_bits 3 = .ok (.istore_n 2, 1) := by decide +kernel
theorem dX7_bits_4 : decode cX7_bits 4 = .ok (.iload_n 2, 1) := by decide +kernel
theorem dX7_bits_5 : decode cX7_bits 5 = .ok (.bipush 30, 2) := by decide +kernel
theorem dX7_bits_7 : decode cX7_bits 7 = .ok (.if_icmp .ge 17, 3) := by decide +kernel
theorem dX7_bits_10 : decode cX7_bits 10 = .ok (.iload_n 1, 1) := by decide +kernel
theorem dX7_bits_11 : decode cX7_bits 11 = .ok (.iload_n 0, 1) := by decide +kernel
theorem dX7_bits_12 : decode cX7_bits 12 = .ok (.iload_n 2, 1) := by decide +kernel
theorem dX7_bits_13 : decode cX7_bits 13 = .ok (.ishr, 1) := by decide +kernel
theorem dX7_bits_14 : decode cX7_bits 14 = .ok (.iconst 1, 1) := by decide +kernel
theorem dX7_bits_15 : decode cX7_bits 15 = .ok (.iand, 1) := by decide +kernel
theorem dX7_bits_16 : decode cX7_bits 16 = .ok (.iadd, 1) := by decide +kernel
theorem dX7_bits_17 : decode cX7_bits 17 = .ok (.istore_n 1, 1) := by decide +kernel
theorem dX7_bits_18 : decode cX7_bits 18 = .ok (.iinc 2 1, 3) := by decide +kernel
theorem dX7_bits_21 : decode cX7_bits 21 = .ok (.goto (-17), 3) := by decide +kernel
theorem dX7_bits_24 : decode cX7_bits 24 = .ok (.iload_n 1, 1) := by decide +kernel
theorem dX7_bits_25 : decode cX7_bits 25 = .ok (.ireturn, 1) := by decide +kernel
theorem dX7_drop_0 : decode cX7_drop 0 = .ok (.iconst 0, 1) := by decide +kernel
theorem dX7_drop_1 : decode cX7_drop 1 = .ok (.istore_n 3, 1) := by decide +kernel
theorem dX7_drop_2 : decode cX7_drop 2 = .ok (.iconst 0, 1) := by decide +kernel
theorem dX7_drop_3 : decode cX7_drop 3 = .ok (.istore 4, 2) := by decide +kernel
theorem dX7_drop_5 : decode cX7_drop 5 = .ok (.iload 4, 2) := by decide +kernel
theorem dX7_drop_7 : decode cX7_drop 7 = .ok (.iload_n 2, 1) := by decide +kernel
theorem dX7_drop_8 : decode cX7_drop 8 = .ok (.if_icmp .ge 43, 3) := by decide +kernel
theorem dX7_drop_11 : decode cX7_drop 11 = .ok (.iload_n 3, 1) := by decide +kernel
theorem dX7_drop_12 : decode cX7_drop 12 = .ok (.aload_n 0, 1) := by decide +kernel
theorem dX7_drop_13 : decode cX7_drop 13 = .ok (.getfield 44, 3) := by decide +kernel
theorem dX7_drop_16 : decode cX7_drop 16 = .ok (.iconst 4, 1) := by decide +kernel
theorem dX7_drop_17 : decode cX7_drop 17 = .ok (.iload_n 1, 1) := by decide +kernel
theorem dX7_drop_18 : decode cX7_drop 18 = .ok (.imul, 1) := by decide +kernel
theorem dX7_drop_19 : decode cX7_drop 19 = .ok (.iload 4, 2) := by decide +kernel
theorem dX7_drop_21 : decode cX7_drop 21 = .ok (.iadd, 1) := by decide +kernel
theorem dX7_drop_22 : decode cX7_drop 22 = .ok (.baload, 1) := by decide +kernel
theorem dX7_drop_23 : decode cX7_drop 23 = .ok (.ifCond .eq 7, 3) := by decide +kernel
theorem dX7_drop_26 : decode cX7_drop 26 = .ok (.iconst 1, 1) := by decide +kernel
theorem dX7_drop_27 : decode cX7_drop 27 = .ok (.goto 4, 3) := by decide +kernel
theorem dX7_drop_30 : decode cX7_drop 30 = .ok (.iconst 0, 1) := by decide +kernel
theorem dX7_drop_31 : decode cX7_drop 31 = .ok (.iadd, 1) := by decide +kernel
theorem dX7_drop_32 : decode cX7_drop 32 = .ok (.istore_n 3, 1) := by decide +kernel
theorem dX7_drop_33 : decode cX7_drop 33 = .ok (.aload_n 0, 1) := by decide +kernel
theorem dX7_drop_34 : decode cX7_drop 34 = .ok (.getfield 44, 3) := by decide +kernel
theorem dX7_drop_37 : decode cX7_drop 37 = .ok (.iconst 4, 1) := by decide +kernel
theorem dX7_drop_38 : decode cX7_drop 38 = .ok (.iload_n 1, 1) := by decide +kernel
theorem dX7_drop_39 : decode cX7_drop 39 = .ok (.imul, 1) := by decide +kernel
theorem dX7_drop_40 : decode cX7_drop 40 = .ok (.iload 4, 2) := by decide +kernel
theorem dX7_drop_42 : decode cX7_drop 42 = .ok (.iadd, 1) := by decide +kernel
theorem dX7_drop_43 : decode cX7_drop 43 = .ok (.iconst 0, 1) := by decide +kernel
theorem dX7_drop_44 : decode cX7_drop 44 = .ok (.bastore, 1) := by decide +kernel
theorem dX7_drop_45 : decode cX7_drop 45 = .ok (.iinc 4 1, 3) := by decide +kernel
theorem dX7_drop_48 : decode cX7_drop 48 = .ok (.goto (-43), 3) := by decide +kernel
theorem dX7_drop_51 : decode cX7_drop 51 = .ok (.aload_n 0, 1) := by decide +kernel
theorem dX7_drop_52 : decode cX7_drop 52 = .ok (.dup, 1) := by decide +kernel
theorem dX7_drop_53 : decode cX7_drop 53 = .ok (.getfield 69, 3) := by decide +kernel
theorem dX7_drop_56 : decode cX7_drop 56 = .ok (.iload_n 3, 1) := by decide +kernel
theorem dX7_drop_57 : decode cX7_drop 57 = .ok (.iadd, 1) := by decide +kernel
theorem dX7_drop_58 : decode cX7_drop 58 = .ok (.putfield 69, 3) := by decide +kernel
theorem dX7_drop_61 : decode cX7_drop 61 = .ok (.iload_n 3, 1) := by decide +kernel
theorem dX7_drop_62 : decode cX7_drop 62 = .ok (.ireturn, 1) := by decide +kernel
theorem dX7_sale_0 : decode cX7_sale 0 = .ok (.iload_n 1, 1) := by decide +kernel
theorem dX7_sale_1 : decode cX7_sale 1 = .ok (.invokestatic 61, 3) := by decide +kernel
theorem dX7_sale_4 : decode cX7_sale 4 = .ok (.ifCond .eq 25, 3) := by decide +kernel
theorem dX7_sale_7 : decode cX7_sale 7 = .ok (.iload_n 2, 1) := by decide +kernel
theorem dX7_sale_8 : decode cX7_sale 8 = .ok (.iconst 0, 1) := by decide +kernel
theorem dX7_sale_9 : decode cX7_sale 9 = .ok (.iconst 3, 1) := by decide +kernel
theorem dX7_sale_10 : decode cX7_sale 10 = .ok (.invokestatic 57, 3) := by decide +kernel
theorem dX7_sale_13 : decode cX7_sale 13 = .ok (.ifCond .eq 16, 3) := by decide +kernel
theorem dX7_sale_16 : decode cX7_sale 16 = .ok (.iload_n 3, 1) := by decide +kernel
theorem dX7_sale_17 : decode cX7_sale 17 = .ok (.iconst 0, 1) := by decide +kernel
theorem dX7_sale_18 : decode cX7_sale 18 = .ok (.iconst 4, 1) := by decide +kernel
theorem dX7_sale_19 : decode cX7_sale 19 = .ok (.invokestatic 57, 3) := by decide +kernel
theorem dX7_sale_22 : decode cX7_sale 22 = .ok (.ifCond .eq 7, 3) := by decide +kernel
theorem dX7_sale_25 : decode cX7_sale 25 = .ok (.iconst 1, 1) := by decide +kernel
theorem dX7_sale_26 : decode cX7_sale 26 = .ok (.goto 4, 3) := by decide +kernel
theorem dX7_sale_29 : decode cX7_sale 29 = .ok (.iconst 0, 1) := by decide +kernel
theorem dX7_sale_30 : decode cX7_sale 30 = .ok (.istore 5, 2) := by decide +kernel
theorem dX7_sale_32 : decode cX7_sale 32 = .ok (.iload 4, 2) := by decide +kernel
theorem dX7_sale_34 : decode cX7_sale 34 = .ok (.sipush (-1000), 3) := by decide +kernel
theorem dX7_sale_37 : decode cX7_sale 37 = .ok (.sipush 1000, 3) := by decide +kernel
theorem dX7_sale_40 : decode cX7_sale 40 = .ok (.invokestatic 57, 3) := by decide +kernel
theorem dX7_sale_43 : decode cX7_sale 43 = .ok (.istore 6, 2) := by decide +kernel
theorem dX7_sale_45 : decode cX7_sale 45 = .ok (.aload_n 0, 1) := by decide +kernel
theorem dX7_sale_46 : decode cX7_sale 46 = .ok (.iload 5, 2) := by decide +kernel
theorem dX7_sale_48 : decode cX7_sale 48 = .ok (.ifCond .ne 7, 3) := by decide +kernel
theorem dX7_sale_51 : decode cX7_sale 51 = .ok (.iconst 1, 1) := by decide +kernel
theorem dX7_sale_52 : decode cX7_sale 52 = .ok (.goto 26, 3) := by decide +kernel
theorem dX7_sale_55 : decode cX7_sale 55 = .ok (.iload 6, 2) := by decide +kernel
theorem dX7_sale_57 : decode cX7_sale 57 = .ok (.ifCond .ne 7, 3) := by decide +kernel
theorem dX7_sale_60 : decode cX7_sale 60 = .ok (.iconst 2, 1) := by decide +kernel
theorem dX7_sale_61 : decode cX7_sale 61 = .ok (.goto 17, 3) := by decide +kernel
theorem dX7_sale_64 : decode cX7_sale 64 = .ok (.aload_n 0, 1) := by decide +kernel
theorem dX7_sale_65 : decode cX7_sale 65 = .ok (.getfield 72, 3) := by decide +kernel
theorem dX7_sale_68 : decode cX7_sale 68 = .ok (.bipush 120, 2) := by decide +kernel
theorem dX7_sale_70 : decode cX7_sale 70 = .ok (.if_icmp .ne 7, 3) := by decide +kernel
theorem dX7_sale_73 : decode cX7_sale 73 = .ok (.iconst 3, 1) := by decide +kernel
theorem dX7_sale_74 : decode cX7_sale 74 = .ok (.goto 4, 3) := by decide +kernel
theorem dX7_sale_77 : decode cX7_sale 77 = .ok (.iconst 0, 1) := by decide +kernel
theorem dX7_sale_78 : decode cX7_sale 78 = .ok (.invokevirtual 75, 3) := by decide +kernel
theorem dX7_sale_81 : decode cX7_sale 81 = .ok (.ifCond .eq 5, 3) := by decide +kernel
theorem dX7_sale_84 : decode cX7_sale 84 = .ok (.iconst 0, 1) := by decide +kernel
theorem dX7_sale_85 : decode cX7_sale 85 = .ok (.ireturn, 1) := by decide +kernel
theorem dX7_sale_86 : decode cX7_sale 86 = .ok (.aload_n 0, 1) := by decide +kernel
theorem dX7_sale_87 : decode cX7_sale 87 = .ok (.getfield 7, 3) := by decide +kernel
theorem dX7_sale_90 : decode cX7_sale 90 = .ok (.aload_n 0, 1) := by decide +kernel
theorem dX7_sale_91 : decode cX7_sale 91 = .ok (.getfield 72, 3) := by decide +kernel
theorem dX7_sale_94 : decode cX7_sale 94 = .ok (.iload_n 1, 1) := by decide +kernel
theorem dX7_sale_95 : decode cX7_sale 95 = .ok (.iastore, 1) := by decide +kernel
theorem dX7_sale_96 : decode cX7_sale 96 = .ok (.aload_n 0, 1) := by decide +kernel
theorem dX7_sale_97 : decode cX7_sale 97 = .ok (.getfield 13, 3) := by decide +kernel
theorem dX7_sale_100 : decode cX7_sale 100 = .ok (.aload_n 0, 1) := by decide +kernel
theorem dX7_sale_101 : decode cX7_sale 101 = .ok (.getfield 72, 3) := by decide +kernel
theorem dX7_sale_104 : decode cX7_sale 104 = .ok (.iload_n 2, 1) := by decide +kernel
theorem dX7_sale_105 : decode cX7_sale 105 = .ok (.iastore, 1) := by decide +kernel
theorem dX7_sale_106 : decode cX7_sale 106 = .ok (.aload_n 0, 1) := by decide +kernel
theorem dX7_sale_107 : decode cX7_sale 107 = .ok (.getfield 16, 3) := by decide +kernel
theorem dX7_sale_110 : decode cX7_sale 110 = .ok (.aload_n 0, 1) := by decide +kernel
theorem dX7_sale_111 : decode cX7_sale 111 = .ok (.getfield 72, 3) := by decide +kernel
theorem dX7_sale_114 : decode cX7_sale 114 = .ok (.iload_n 3, 1) := by decide +kernel
theorem dX7_sale_115 : decode cX7_sale 115 = .ok (.iastore, 1) := by decide +kernel
theorem dX7_sale_116 : decode cX7_sale 116 = .ok (.aload_n 0, 1) := by decide +kernel
theorem dX7_sale_117 : decode cX7_sale 117 = .ok (.getfield 19, 3) := by decide +kernel
theorem dX7_sale_120 : decode cX7_sale 120 = .ok (.aload_n 0, 1) := by decide +kernel
theorem dX7_sale_121 : decode cX7_sale 121 = .ok (.getfield 72, 3) := by decide +kernel
theorem dX7_sale_124 : decode cX7_sale 124 = .ok (.iload 4, 2) := by decide +kernel
theorem dX7_sale_126 : decode cX7_sale 126 = .ok (.iastore, 1) := by decide +kernel
theorem dX7_sale_127 : decode cX7_sale 127 = .ok (.aload_n 0, 1) := by decide +kernel
theorem dX7_sale_128 : decode cX7_sale 128 = .ok (.dup, 1) := by decide +kernel
theorem dX7_sale_129 : decode cX7_sale 129 = .ok (.getfield 72, 3) := by decide +kernel
theorem dX7_sale_132 : decode cX7_sale 132 = .ok (.iconst 1, 1) := by decide +kernel
theorem dX7_sale_133 : decode cX7_sale 133 = .ok (.iadd, 1) := by decide +kernel
theorem dX7_sale_134 : decode cX7_sale 134 = .ok (.putfield 72, 3) := by decide +kernel
theorem dX7_sale_137 : decode cX7_sale 137 = .ok (.aload_n 0, 1) := by decide +kernel
theorem dX7_sale_138 : decode cX7_sale 138 = .ok (.iload_n 1, 1) := by decide +kernel
theorem dX7_sale_139 : decode cX7_sale 139 = .ok (.iconst 4, 1) := by decide +kernel
theorem dX7_sale_140 : decode cX7_sale 140 = .ok (.invokevirtual 78, 3) := by decide +kernel
theorem dX7_sale_143 : decode cX7_sale 143 = .ok (.pop, 1) := by decide +kernel
theorem dX7_sale_144 : decode cX7_sale 144 = .ok (.aload_n 0, 1) := by decide +kernel
theorem dX7_sale_145 : decode cX7_sale 145 = .ok (.getfield 72, 3) := by decide +kernel
theorem dX7_sale_148 : decode cX7_sale 148 = .ok (.iconst 1, 1) := by decide +kernel
theorem dX7_sale_149 : decode cX7_sale 149 = .ok (.isub, 1) := by decide +kernel
theorem dX7_sale_150 : decode cX7_sale 150 = .ok (.ireturn, 1) := by decide +kernel
theorem dX7_takeBack_0 : decode cX7_takeBack 0 = .ok (.iload_n 1, 1) := by decide +kernel
theorem dX7_takeBack_1 : decode cX7_takeBack 1 = .ok (.iconst 0, 1) := by decide +kernel
theorem dX7_takeBack_2 : decode cX7_takeBack 2 = .ok (.aload_n 0, 1) := by decide +kernel
theorem dX7_takeBack_3 : decode cX7_takeBack 3 = .ok (.getfield 72, 3) := by decide +kernel
theorem dX7_takeBack_6 : decode cX7_takeBack 6 = .ok (.iconst 1, 1) := by decide +kernel
theorem dX7_takeBack_7 : decode cX7_takeBack 7 = .ok (.isub, 1) := by decide +kernel
theorem dX7_takeBack_8 : decode cX7_takeBack 8 = .ok (.invokestatic 57, 3) := by decide +kernel
theorem dX7_takeBack_11 : decode cX7_takeBack 11 = .ok (.istore_n 2, 1) := by decide +kernel
theorem dX7_takeBack_12 : decode cX7_takeBack 12 = .ok (.aload_n 0, 1) := by decide +kernel
theorem dX7_takeBack_13 : decode cX7_takeBack 13 = .ok (.iload_n 2, 1) := by decide +kernel
theorem dX7_takeBack_14 : decode cX7_takeBack 14 = .ok (.ifCond .ne 7, 3) := by decide +kernel
theorem dX7_takeBack_17 : decode cX7_takeBack 17 = .ok (.iconst 1, 1) := by decide +kernel
theorem dX7_takeBack_18 : decode cX7_takeBack 18 = .ok (.goto 17, 3) := by decide +kernel
theorem dX7_takeBack_21 : decode cX7_takeBack 21 = .ok (.aload_n 0, 1) := by decide +kernel
theorem dX7_takeBack_22 : decode cX7_takeBack 22 = .ok (.getfield 22, 3) := by decide +kernel
theorem dX7_takeBack_25 : decode cX7_takeBack 25 = .ok (.iload_n 1, 1) := by decide +kernel
theorem dX7_takeBack_26 : decode cX7_takeBack 26 = .ok (.baload, 1) := by decide +kernel
theorem dX7_takeBack_27 : decode cX7_takeBack 27 = .ok (.ifCond .eq 7, 3) := by decide +kernel
theorem dX7_takeBack_30 : decode cX7_takeBack 30 = .ok (.iconst 2, 1) := by decide +kernel
theorem dX7_takeBack_31 : decode cX7_takeBack 31 = .ok (.goto 4, 3) := by decide +kernel
theorem dX7_takeBack_34 : decode cX7_takeBack 34 = .ok (.iconst 0, 1) := by decide +kernel
theorem dX7_takeBack_35 : decode cX7_takeBack 35 = .ok (.invokevirtual 75, 3) := by decide +kernel
theorem dX7_takeBack_38 : decode cX7_takeBack 38 = .ok (.ifCond .eq 5, 3) := by decide +kernel
theorem dX7_takeBack_41 : decode cX7_takeBack 41 = .ok (.iconst 0, 1) := by decide +kernel
theorem dX7_takeBack_42 : decode cX7_takeBack 42 = .ok (.ireturn, 1) := by decide +kernel
theorem dX7_takeBack_43 : decode cX7_takeBack 43 = .ok (.aload_n 0, 1) := by decide +kernel
theorem dX7_takeBack_44 : decode cX7_takeBack 44 = .ok (.getfield 22, 3) := by decide +kernel
theorem dX7_takeBack_47 : decode cX7_takeBack 47 = .ok (.iload_n 1, 1) := by decide +kernel
theorem dX7_takeBack_48 : decode cX7_takeBack 48 = .ok (.iconst 1, 1) := by decide +kernel
theorem dX7_takeBack_49 : decode cX7_takeBack 49 = .ok (.bastore, 1) := by decide +kernel
theorem dX7_takeBack_50 : decode cX7_takeBack 50 = .ok (.aload_n 0, 1) := by decide +kernel
theorem dX7_takeBack_51 : decode cX7_takeBack 51 = .ok (.aload_n 0, 1) := by decide +kernel
theorem dX7_takeBack_52 : decode cX7_takeBack 52 = .ok (.getfield 7, 3) := by decide +kernel
theorem dX7_takeBack_55 : decode cX7_takeBack 55 = .ok (.iload_n 1, 1) := by decide +kernel
theorem dX7_takeBack_56 : decode cX7_takeBack 56 = .ok (.iaload, 1) := by decide +kernel
theorem dX7_takeBack_57 : decode cX7_takeBack 57 = .ok (.iconst 4, 1) := by decide +kernel
theorem dX7_takeBack_58 : decode cX7_takeBack 58 = .ok (.invokevirtual 78, 3) := by decide +kernel
theorem dX7_takeBack_61 : decode cX7_takeBack 61 = .ok (.pop, 1) := by decide +kernel
theorem dX7_takeBack_62 : decode cX7_takeBack 62 = .ok (.aload_n 0, 1) := by decide +kernel
theorem dX7_takeBack_63 : decode cX7_takeBack 63 = .ok (.getfield 19, 3) := by decide +kernel
theorem dX7_takeBack_66 : decode cX7_takeBack 66 = .ok (.iload_n 1, 1) := by decide +kernel
theorem dX7_takeBack_67 : decode cX7_takeBack 67 = .ok (.iaload, 1) := by decide +kernel
theorem dX7_takeBack_68 : decode cX7_takeBack 68 = .ok (.ireturn, 1) := by decide +kernel
theorem dX7_turn_0 : decode cX7_turn 0 = .ok (.aload_n 0, 1) := by decide +kernel
theorem dX7_turn_1 : decode cX7_turn 1 = .ok (.iload_n 1, 1) := by decide +kernel
theorem dX7_turn_2 : decode cX7_turn 2 = .ok (.invokestatic 61, 3) := by decide +kernel
theorem dX7_turn_5 : decode cX7_turn 5 = .ok (.ifCond .eq 7, 3) := by decide +kernel
theorem dX7_turn_8 : decode cX7_turn 8 = .ok (.iconst 0, 1) := by decide +kernel
theorem dX7_turn_9 : decode cX7_turn 9 = .ok (.goto 4, 3) := by decide +kernel
theorem dX7_turn_12 : decode cX7_turn 12 = .ok (.iconst 1, 1) := by decide +kernel
theorem dX7_turn_13 : decode cX7_turn 13 = .ok (.invokevirtual 75, 3) := by decide +kernel
theorem dX7_turn_16 : decode cX7_turn 16 = .ok (.ifCond .eq 5, 3) := by decide +kernel
theorem dX7_turn_19 : decode cX7_turn 19 = .ok (.iconst 0, 1) := by decide +kernel
theorem dX7_turn_20 : decode cX7_turn 20 = .ok (.ireturn, 1) := by decide +kernel
theorem dX7_turn_21 : decode cX7_turn 21 = .ok (.aload_n 0, 1) := by decide +kernel
theorem dX7_turn_22 : decode cX7_turn 22 = .ok (.getfield 26, 3) := by decide +kernel
theorem dX7_turn_25 : decode cX7_turn 25 = .ok (.iload_n 1, 1) := by decide +kernel
theorem dX7_turn_26 : decode cX7_turn 26 = .ok (.aload_n 0, 1) := by decide +kernel
theorem dX7_turn_27 : decode cX7_turn 27 = .ok (.getfield 26, 3) := by decide +kernel
theorem dX7_turn_30 : decode cX7_turn 30 = .ok (.iload_n 1, 1) := by decide +kernel
theorem dX7_turn_31 : decode cX7_turn 31 = .ok (.baload, 1) := by decide +kernel
theorem dX7_turn_32 : decode cX7_turn 32 = .ok (.ifCond .ne 7, 3) := by decide +kernel
theorem dX7_turn_35 : decode cX7_turn 35 = .ok (.iconst 1, 1) := by decide +kernel
theorem dX7_turn_36 : decode cX7_turn 36 = .ok (.goto 4, 3) := by decide +kernel
theorem dX7_turn_39 : decode cX7_turn 39 = .ok (.iconst 0, 1) := by decide +kernel
theorem dX7_turn_40 : decode cX7_turn 40 = .ok (.bastore, 1) := by decide +kernel
theorem dX7_turn_41 : decode cX7_turn 41 = .ok (.aload_n 0, 1) := by decide +kernel
theorem dX7_turn_42 : decode cX7_turn 42 = .ok (.getfield 26, 3) := by decide +kernel
theorem dX7_turn_45 : decode cX7_turn 45 = .ok (.iload_n 1, 1) := by decide +kernel
theorem dX7_turn_46 : decode cX7_turn 46 = .ok (.baload, 1) := by decide +kernel
theorem dX7_turn_47 : decode cX7_turn 47 = .ok (.ireturn, 1) := by decide +kernel
theorem dX7_sumOf_0 : decode cX7_sumOf 0 = .ok (.iload_n 2, 1) := by decide +kernel
theorem dX7_sumOf_1 : decode cX7_sumOf 1 = .ok (.bipush 6, 2) := by decide +kernel
theorem dX7_sumOf_3 : decode cX7_sumOf 3 = .ok (.idiv, 1) := by decide +kernel
theorem dX7_sumOf_4 : decode cX7_sumOf 4 = .ok (.istore_n 3, 1) := by decide +kernel
theorem dX7_sumOf_5 : decode cX7_sumOf 5 = .ok (.iload_n 2, 1) := by decide +kernel
theorem dX7_sumOf_6 : decode cX7_sumOf 6 = .ok (.bipush 6, 2) := by decide +kernel
theorem dX7_sumOf_8 : decode cX7_sumOf 8 = .ok (.irem, 1) := by decide +kernel
theorem dX7_sumOf_9 : decode cX7_sumOf 9 = .ok (.istore 4, 2) := by decide +kernel
theorem dX7_sumOf_11 : decode cX7_sumOf 11 = .ok (.iconst 0, 1) := by decide +kernel
theorem dX7_sumOf_12 : decode cX7_sumOf 12 = .ok (.istore 5, 2) := by decide +kernel
theorem dX7_sumOf_14 : decode cX7_sumOf 14 = .ok (.iconst 0, 1) := by decide +kernel
theorem dX7_sumOf_15 : decode cX7_sumOf 15 = .ok (.istore 6, 2) := by decide +kernel
theorem dX7_sumOf_17 : decode cX7_sumOf 17 = .ok (.iload 6, 2) := by decide +kernel
theorem dX7_sumOf_19 : decode cX7_sumOf 19 = .ok (.aload_n 0, 1) := by decide +kernel
theorem dX7_sumOf_20 : decode cX7_sumOf 20 = .ok (.getfield 72, 3) := by decide +kernel
theorem dX7_sumOf_23 : decode cX7_sumOf 23 = .ok (.if_icmp .ge 92, 3) := by decide +kernel
theorem dX7_sumOf_26 : decode cX7_sumOf 26 = .ok (.aload_n 0, 1) := by decide +kernel
theorem dX7_sumOf_27 : decode cX7_sumOf 27 = .ok (.getfield 7, 3) := by decide +kernel
theorem dX7_sumOf_30 : decode cX7_sumOf 30 = .ok (.iload 6, 2) := by decide +kernel
theorem dX7_sumOf_32 : decode cX7_sumOf 32 = .ok (.iaload, 1) := by decide +kernel
theorem dX7_sumOf_33 : decode cX7_sumOf 33 = .ok (.iload_n 1, 1) := by decide +kernel
theorem dX7_sumOf_34 : decode cX7_sumOf 34 = .ok (.if_icmp .ne 51, 3) := by decide +kernel
theorem dX7_sumOf_37 : decode cX7_sumOf 37 = .ok (.aload_n 0, 1) := by decide +kernel
theorem dX7_sumOf_38 : decode cX7_sumOf 38 = .ok (.getfield 22, 3) := by decide +kernel
theorem dX7_sumOf_41 : decode cX7_sumOf 41 = .ok (.iload 6, 2) := by decide +kernel
theorem dX7_sumOf_43 : decode cX7_sumOf 43 = .ok (.baload, 1) := by decide +kernel
theorem dX7_sumOf_44 : decode cX7_sumOf 44 = .ok (.ifCond .ne 41, 3) := by decide +kernel
theorem dX7_sumOf_47 : decode cX7_sumOf 47 = .ok (.iload_n 3, 1) := by decide +kernel
theorem dX7_sumOf_48 : decode cX7_sumOf 48 = .ok (.iconst 4, 1) := by decide +kernel
theorem dX7_sumOf_49 : decode cX7_sumOf 49 = .ok (.if_icmp .eq 14, 3) := by decide +kernel
theorem dX7_sumOf_52 : decode cX7_sumOf 52 = .ok (.aload_n 0, 1) := by decide +kernel
theorem dX7_sumOf_53 : decode cX7_sumOf 53 = .ok (.getfield 13, 3) := by decide +kernel
theorem dX7_sumOf_56 : decode cX7_sumOf 56 = .ok (.iload 6, 2) := by decide +kernel
theorem dX7_sumOf_58 : decode cX7_sumOf 58 = .ok (.iaload, 1) := by decide +kernel
theorem dX7_sumOf_59 : decode cX7_sumOf 59 = .ok (.iload_n 3, 1) := by decide +kernel
theorem dX7_sumOf_60 : decode cX7_sumOf 60 = .ok (.if_icmp .ne 25, 3) := by decide +kernel
theorem dX7_sumOf_63 : decode cX7_sumOf 63 = .ok (.iload 4, 2) := by decide +kernel
theorem dX7_sumOf_65 : decode cX7_sumOf 65 = .ok (.iconst 5, 1) := by decide +kernel
theorem dX7_sumOf_66 : decode cX7_sumOf 66 = .ok (.if_icmp .eq 15, 3) := by decide +kernel
theorem dX7_sumOf_69 : decode cX7_sumOf 69 = .ok (.aload_n 0, 1) := by decide +kernel
theorem dX7_sumOf_70 : decode cX7_sumOf 70 = .ok (.getfield 16, 3) := by decide +kernel
theorem dX7_sumOf_73 : decode cX7_sumOf 73 = .ok (.iload 6, 2) := by decide +kernel
theorem dX7_sumOf_75 : decode cX7_sumOf 75 = .ok (.iaload, 1) := by decide +kernel
theorem dX7_sumOf_76 : decode cX7_sumOf 76 = .ok (.iload 4, 2) := by decide +kernel
theorem dX7_sumOf_78 : decode cX7_sumOf 78 = .ok (.if_icmp .ne 7, 3) := by decide +kernel
theorem dX7_sumOf_81 : decode cX7_sumOf 81 = .ok (.iconst 1, 1) := by decide +kernel
theorem dX7_sumOf_82 : decode cX7_sumOf 82 = .ok (.goto 4, 3) := by decide +kernel
theorem dX7_sumOf_85 : decode cX7_sumOf 85 = .ok (.iconst 0, 1) := by decide +kernel
theorem dX7_sumOf_86 : decode cX7_sumOf 86 = .ok (.istore 7, 2) := by decide +kernel
theorem dX7_sumOf_88 : decode cX7_sumOf 88 = .ok (.iload 5, 2) := by decide +kernel
theorem dX7_sumOf_90 : decode cX7_sumOf 90 = .ok (.iload 7, 2) := by decide +kernel
theorem dX7_sumOf_92 : decode cX7_sumOf 92 = .ok (.ifCond .eq 13, 3) := by decide +kernel
theorem dX7_sumOf_95 : decode cX7_sumOf 95 = .ok (.aload_n 0, 1) := by decide +kernel
theorem dX7_sumOf_96 : decode cX7_sumOf 96 = .ok (.getfield 19, 3) := by decide +kernel
theorem dX7_sumOf_99 : decode cX7_sumOf 99 = .ok (.iload 6, 2) := by decide +kernel
theorem dX7_sumOf_101 : decode cX7_sumOf 101 = .ok (.iaload, 1) := by decide +kernel
theorem dX7_sumOf_102 : decode cX7_sumOf 102 = .ok (.goto 4, 3) := by decide +kernel
theorem dX7_sumOf_105 : decode cX7_sumOf 105 = .ok (.iconst 0, 1) := by decide +kernel
theorem dX7_sumOf_106 : decode cX7_sumOf 106 = .ok (.iadd, 1) := by decide +kernel
theorem dX7_sumOf_107 : decode cX7_sumOf 107 = .ok (.istore 5, 2) := by decide +kernel
theorem dX7_sumOf_109 : decode cX7_sumOf 109 = .ok (.iinc 6 1, 3) := by decide +kernel
theorem dX7_sumOf_112 : decode cX7_sumOf 112 = .ok (.goto (-95), 3) := by decide +kernel
theorem dX7_sumOf_115 : decode cX7_sumOf 115 = .ok (.iload 5, 2) := by decide +kernel
theorem dX7_sumOf_117 : decode cX7_sumOf 117 = .ok (.ireturn, 1) := by decide +kernel
theorem dX7_sum_0 : decode cX7_sum 0 = .ok (.aload_n 0, 1) := by decide +kernel
theorem dX7_sum_1 : decode cX7_sum 1 = .ok (.iload_n 1, 1) := by decide +kernel
theorem dX7_sum_2 : decode cX7_sum 2 = .ok (.iload_n 2, 1) := by decide +kernel
theorem dX7_sum_3 : decode cX7_sum 3 = .ok (.iload_n 3, 1) := by decide +kernel
theorem dX7_sum_4 : decode cX7_sum 4 = .ok (.invokevirtual 82, 3) := by decide +kernel
theorem dX7_sum_7 : decode cX7_sum 7 = .ok (.istore 4, 2) := by decide +kernel
theorem dX7_sum_9 : decode cX7_sum 9 = .ok (.aload_n 0, 1) := by decide +kernel
theorem dX7_sum_10 : decode cX7_sum 10 = .ok (.iload 4, 2) := by decide +kernel
theorem dX7_sum_12 : decode cX7_sum 12 = .ok (.iconst (-1), 1) := by decide +kernel
theorem dX7_sum_13 : decode cX7_sum 13 = .ok (.if_icmp .ne 7, 3) := by decide +kernel
theorem dX7_sum_16 : decode cX7_sum 16 = .ok (.iconst 1, 1) := by decide +kernel
theorem dX7_sum_17 : decode cX7_sum 17 = .ok (.goto 4, 3) := by decide +kernel
theorem dX7_sum_20 : decode cX7_sum 20 = .ok (.iconst 0, 1) := by decide +kernel
theorem dX7_sum_21 : decode cX7_sum 21 = .ok (.invokevirtual 75, 3) := by decide +kernel
theorem dX7_sum_24 : decode cX7_sum 24 = .ok (.ifCond .eq 7, 3) := by decide +kernel
theorem dX7_sum_27 : decode cX7_sum 27 = .ok (.iconst 0, 1) := by decide +kernel
theorem dX7_sum_28 : decode cX7_sum 28 = .ok (.goto 10, 3) := by decide +kernel
theorem dX7_sum_31 : decode cX7_sum 31 = .ok (.aload_n 0, 1) := by decide +kernel
theorem dX7_sum_32 : decode cX7_sum 32 = .ok (.iload_n 1, 1) := by decide +kernel
theorem dX7_sum_33 : decode cX7_sum 33 = .ok (.iload 4, 2) := by decide +kernel
theorem dX7_sum_35 : decode cX7_sum 35 = .ok (.invokevirtual 86, 3) := by decide +kernel
theorem dX7_sum_38 : decode cX7_sum 38 = .ok (.ireturn, 1) := by decide +kernel
theorem dX7_sumFromSales_0 : decode cX7_sumFromSales 0 = .ok (.aload_n 0, 1) := by decide +kernel
theorem dX7_sumFromSales_1 : decode cX7_sumFromSales 1 = .ok (.iload_n 1, 1) := by decide +kernel
theorem dX7_sumFromSales_2 : decode cX7_sumFromSales 2 = .ok (.iload_n 2, 1) := by decide +kernel
theorem dX7_sumFromSales_3 : decode cX7_sumFromSales 3 = .ok (.iload_n 3, 1) := by decide +kernel
theorem dX7_sumFromSales_4 : decode cX7_sumFromSales 4 = .ok (.invokevirtual 89, 3) := by decide +kernel
theorem dX7_sumFromSales_7 : decode cX7_sumFromSales 7 = .ok (.ireturn, 1) := by decide +kernel
theorem dX7_lasts_0 : decode cX7_lasts 0 = .ok (.aload_n 0, 1) := by decide +kernel
theorem dX7_lasts_1 : decode cX7_lasts 1 = .ok (.getfield 41, 3) := by decide +kernel
theorem dX7_lasts_4 : decode cX7_lasts 4 = .ok (.iload_n 1, 1) := by decide +kernel
theorem dX7_lasts_5 : decode cX7_lasts 5 = .ok (.baload, 1) := by decide +kernel
theorem dX7_lasts_6 : decode cX7_lasts 6 = .ok (.ifCond .ne 20, 3) := by decide +kernel
theorem dX7_lasts_9 : decode cX7_lasts 9 = .ok (.aload_n 0, 1) := by decide +kernel
theorem dX7_lasts_10 : decode cX7_lasts 10 = .ok (.getfield 92, 3) := by decide +kernel
theorem dX7_lasts_13 : decode cX7_lasts 13 = .ok (.aload_n 0, 1) := by decide +kernel
theorem dX7_lasts_14 : decode cX7_lasts 14 = .ok (.getfield 38, 3) := by decide +kernel
theorem dX7_lasts_17 : decode cX7_lasts 17 = .ok (.iload_n 1, 1) := by decide +kernel
theorem dX7_lasts_18 : decode cX7_lasts 18 = .ok (.iaload, 1) := by decide +kernel
theorem dX7_lasts_19 : decode cX7_lasts 19 = .ok (.if_icmp .ge 7, 3) := by decide +kernel
theorem dX7_lasts_22 : decode cX7_lasts 22 = .ok (.iconst 1, 1) := by decide +kernel
theorem dX7_lasts_23 : decode cX7_lasts 23 = .ok (.goto 4, 3) := by decide +kernel
theorem dX7_lasts_26 : decode cX7_lasts 26 = .ok (.iconst 0, 1) := by decide +kernel
theorem dX7_lasts_27 : decode cX7_lasts 27 = .ok (.ireturn, 1) := by decide +kernel
theorem dX7_embargo_0 : decode cX7_embargo 0 = .ok (.aload_n 0, 1) := by decide +kernel
theorem dX7_embargo_1 : decode cX7_embargo 1 = .ok (.iload_n 1, 1) := by decide +kernel
theorem dX7_embargo_2 : decode cX7_embargo 2 = .ok (.iload_n 2, 1) := by decide +kernel
theorem dX7_embargo_3 : decode cX7_embargo 3 = .ok (.iload_n 3, 1) := by decide +kernel
theorem dX7_embargo_4 : decode cX7_embargo 4 = .ok (.invokevirtual 82, 3) := by decide +kernel
theorem dX7_embargo_7 : decode cX7_embargo 7 = .ok (.istore 6, 2) := by decide +kernel
theorem dX7_embargo_9 : decode cX7_embargo 9 = .ok (.iload 4, 2) := by decide +kernel
theorem dX7_embargo_11 : decode cX7_embargo 11 = .ok (.iconst 1, 1) := by decide +kernel
theorem dX7_embargo_12 : decode cX7_embargo 12 = .ok (.iconst 3, 1) := by decide +kernel
theorem dX7_embargo_13 : decode cX7_embargo 13 = .ok (.invokestatic 57, 3) := by decide +kernel
theorem dX7_embargo_16 : decode cX7_embargo 16 = .ok (.ifCond .eq 18, 3) := by decide +kernel
theorem dX7_embargo_19 : decode cX7_embargo 19 = .ok (.iload 5, 2) := by decide +kernel
theorem dX7_embargo_21 : decode cX7_embargo 21 = .ok (.iconst 1, 1) := by decide +kernel
theorem dX7_embargo_22 : decode cX7_embargo 22 = .ok (.bipush 100, 2) := by decide +kernel
theorem dX7_embargo_24 : decode cX7_embargo 24 = .ok (.invokestatic 57, 3) := by decide +kernel
theorem dX7_embargo_27 : decode cX7_embargo 27 = .ok (.ifCond .eq 7, 3) := by decide +kernel
theorem dX7_embargo_30 : decode cX7_embargo 30 = .ok (.iconst 1, 1) := by decide +kernel
theorem dX7_embargo_31 : decode cX7_embargo 31 = .ok (.goto 4, 3) := by decide +kernel
theorem dX7_embargo_34 : decode cX7_embargo 34 = .ok (.iconst 0, 1) := by decide +kernel
theorem dX7_embargo_35 : decode cX7_embargo 35 = .ok (.istore 7, 2) := by decide +kernel
theorem dX7_embargo_37 : decode cX7_embargo 37 = .ok (.aload_n 0, 1) := by decide +kernel
theorem dX7_embargo_38 : decode cX7_embargo 38 = .ok (.iload 6, 2) := by decide +kernel
theorem dX7_embargo_40 : decode cX7_embargo 40 = .ok (.iconst (-1), 1) := by decide +kernel
theorem dX7_embargo_41 : decode cX7_embargo 41 = .ok (.if_icmp .ne 7, 3) := by decide +kernel
theorem dX7_embargo_44 : decode cX7_embargo 44 = .ok (.iconst 1, 1) := by decide +kernel
theorem dX7_embargo_45 : decode cX7_embargo 45 = .ok (.goto 26, 3) := by decide +kernel
theorem dX7_embargo_48 : decode cX7_embargo 48 = .ok (.iload 7, 2) := by decide +kernel
theorem dX7_embargo_50 : decode cX7_embargo 50 = .ok (.ifCond .ne 7, 3) := by decide +kernel
theorem dX7_embargo_53 : decode cX7_embargo 53 = .ok (.iconst 2, 1) := by decide +kernel
theorem dX7_embargo_54 : decode cX7_embargo 54 = .ok (.goto 17, 3) := by decide +kernel
theorem dX7_embargo_57 : decode cX7_embargo 57 = .ok (.aload_n 0, 1) := by decide +kernel
theorem dX7_embargo_58 : decode cX7_embargo 58 = .ok (.getfield 95, 3) := by decide +kernel
theorem dX7_embargo_61 : decode cX7_embargo 61 = .ok (.bipush 40, 2) := by decide +kernel
theorem dX7_embargo_63 : decode cX7_embargo 63 = .ok (.if_icmp .ne 7, 3) := by decide +kernel
theorem dX7_embargo_66 : decode cX7_embargo 66 = .ok (.iconst 3, 1) := by decide +kernel
theorem dX7_embargo_67 : decode cX7_embargo 67 = .ok (.goto 4, 3) := by decide +kernel
theorem dX7_embargo_70 : decode cX7_embargo 70 = .ok (.iconst 0, 1) := by decide +kernel
theorem dX7_embargo_71 : decode cX7_embargo 71 = .ok (.invokevirtual 75, 3) := by decide +kernel
theorem dX7_embargo_74 : decode cX7_embargo 74 = .ok (.ifCond .eq 5, 3) := by decide +kernel
theorem dX7_embargo_77 : decode cX7_embargo 77 = .ok (.iconst 0, 1) := by decide +kernel
theorem dX7_embargo_78 : decode cX7_embargo 78 = .ok (.ireturn, 1) := by decide +kernel
theorem dX7_embargo_79 : decode cX7_embargo 79 = .ok (.aload_n 0, 1) := by decide +kernel
theorem dX7_embargo_80 : decode cX7_embargo 80 = .ok (.getfield 29, 3) := by decide +kernel
theorem dX7_embargo_83 : decode cX7_embargo 83 = .ok (.aload_n 0, 1) := by decide +kernel
theorem dX7_embargo_84 : decode cX7_embargo 84 = .ok (.getfield 95, 3) := by decide +kernel
theorem dX7_embargo_87 : decode cX7_embargo 87 = .ok (.iload_n 1, 1) := by decide +kernel
theorem dX7_embargo_88 : decode cX7_embargo 88 = .ok (.iastore, 1) := by decide +kernel
theorem dX7_embargo_89 : decode cX7_embargo 89 = .ok (.aload_n 0, 1) := by decide +kernel
theorem dX7_embargo_90 : decode cX7_embargo 90 = .ok (.getfield 32, 3) := by decide +kernel
theorem dX7_embargo_93 : decode cX7_embargo 93 = .ok (.aload_n 0, 1) := by decide +kernel
theorem dX7_embargo_94 : decode cX7_embargo 94 = .ok (.getfield 95, 3) := by decide +kernel
theorem dX7_embargo_97 : decode cX7_embargo 97 = .ok (.iload 6, 2) := by decide +kernel
theorem dX7_embargo_99 : decode cX7_embargo 99 = .ok (.iastore, 1) := by decide +kernel
theorem dX7_embargo_100 : decode cX7_embargo 100 = .ok (.aload_n 0, 1) := by decide +kernel
theorem dX7_embargo_101 : decode cX7_embargo 101 = .ok (.getfield 35, 3) := by decide +kernel
theorem dX7_embargo_104 : decode cX7_embargo 104 = .ok (.aload_n 0, 1) := by decide +kernel
theorem dX7_embargo_105 : decode cX7_embargo 105 = .ok (.getfield 95, 3) := by decide +kernel
theorem dX7_embargo_108 : decode cX7_embargo 108 = .ok (.iload 4, 2) := by decide +kernel
theorem dX7_embargo_110 : decode cX7_embargo 110 = .ok (.iastore, 1) := by decide +kernel
theorem dX7_embargo_111 : decode cX7_embargo 111 = .ok (.aload_n 0, 1) := by decide +kernel
theorem dX7_embargo_112 : decode cX7_embargo 112 = .ok (.getfield 38, 3) := by decide +kernel
theorem dX7_embargo_115 : decode cX7_embargo 115 = .ok (.aload_n 0, 1) := by decide +kernel
theorem dX7_embargo_116 : decode cX7_embargo 116 = .ok (.getfield 95, 3) := by decide +kernel
theorem dX7_embargo_119 : decode cX7_embargo 119 = .ok (.aload_n 0, 1) := by decide +kernel
theorem dX7_embargo_120 : decode cX7_embargo 120 = .ok (.getfield 92, 3) := by decide +kernel
theorem dX7_embargo_123 : decode cX7_embargo 123 = .ok (.iload 5, 2) := by decide +kernel
theorem dX7_embargo_125 : decode cX7_embargo 125 = .ok (.iadd, 1) := by decide +kernel
theorem dX7_embargo_126 : decode cX7_embargo 126 = .ok (.iastore, 1) := by decide +kernel
theorem dX7_embargo_127 : decode cX7_embargo 127 = .ok (.aload_n 0, 1) := by decide +kernel
theorem dX7_embargo_128 : decode cX7_embargo 128 = .ok (.dup, 1) := by decide +kernel
theorem dX7_embargo_129 : decode cX7_embargo 129 = .ok (.getfield 95, 3) := by decide +kernel
theorem dX7_embargo_132 : decode cX7_embargo 132 = .ok (.iconst 1, 1) := by decide +kernel
theorem dX7_embargo_133 : decode cX7_embargo 133 = .ok (.iadd, 1) := by decide +kernel
theorem dX7_embargo_134 : decode cX7_embargo 134 = .ok (.putfield 95, 3) := by decide +kernel
theorem dX7_embargo_137 : decode cX7_embargo 137 = .ok (.aload_n 0, 1) := by decide +kernel
theorem dX7_embargo_138 : decode cX7_embargo 138 = .ok (.iload_n 1, 1) := by decide +kernel
theorem dX7_embargo_139 : decode cX7_embargo 139 = .ok (.iload 4, 2) := by decide +kernel
theorem dX7_embargo_141 : decode cX7_embargo 141 = .ok (.invokevirtual 78, 3) := by decide +kernel
theorem dX7_embargo_144 : decode cX7_embargo 144 = .ok (.pop, 1) := by decide +kernel
theorem dX7_embargo_145 : decode cX7_embargo 145 = .ok (.aload_n 0, 1) := by decide +kernel
theorem dX7_embargo_146 : decode cX7_embargo 146 = .ok (.getfield 95, 3) := by decide +kernel
theorem dX7_embargo_149 : decode cX7_embargo 149 = .ok (.iconst 1, 1) := by decide +kernel
theorem dX7_embargo_150 : decode cX7_embargo 150 = .ok (.isub, 1) := by decide +kernel
theorem dX7_embargo_151 : decode cX7_embargo 151 = .ok (.ireturn, 1) := by decide +kernel
theorem dX7_lift_0 : decode cX7_lift 0 = .ok (.iload_n 1, 1) := by decide +kernel
theorem dX7_lift_1 : decode cX7_lift 1 = .ok (.iconst 0, 1) := by decide +kernel
theorem dX7_lift_2 : decode cX7_lift 2 = .ok (.aload_n 0, 1) := by decide +kernel
theorem dX7_lift_3 : decode cX7_lift 3 = .ok (.getfield 95, 3) := by decide +kernel
theorem dX7_lift_6 : decode cX7_lift 6 = .ok (.iconst 1, 1) := by decide +kernel
theorem dX7_lift_7 : decode cX7_lift 7 = .ok (.isub, 1) := by decide +kernel
theorem dX7_lift_8 : decode cX7_lift 8 = .ok (.invokestatic 57, 3) := by decide +kernel
theorem dX7_lift_11 : decode cX7_lift 11 = .ok (.istore_n 2, 1) := by decide +kernel
theorem dX7_lift_12 : decode cX7_lift 12 = .ok (.aload_n 0, 1) := by decide +kernel
theorem dX7_lift_13 : decode cX7_lift 13 = .ok (.iload_n 2, 1) := by decide +kernel
theorem dX7_lift_14 : decode cX7_lift 14 = .ok (.ifCond .ne 7, 3) := by decide +kernel
theorem dX7_lift_17 : decode cX7_lift 17 = .ok (.iconst 1, 1) := by decide +kernel
theorem dX7_lift_18 : decode cX7_lift 18 = .ok (.goto 16, 3) := by decide +kernel
theorem dX7_lift_21 : decode cX7_lift 21 = .ok (.aload_n 0, 1) := by decide +kernel
theorem dX7_lift_22 : decode cX7_lift 22 = .ok (.iload_n 1, 1) := by decide +kernel
theorem dX7_lift_23 : decode cX7_lift 23 = .ok (.invokevirtual 98, 3) := by decide +kernel
theorem dX7_lift_26 : decode cX7_lift 26 = .ok (.ifCond .eq 7, 3) := by decide +kernel
theorem dX7_lift_29 : decode cX7_lift 29 = .ok (.iconst 0, 1) := by decide +kernel
theorem dX7_lift_30 : decode cX7_lift 30 = .ok (.goto 4, 3) := by decide +kernel
theorem dX7_lift_33 : decode cX7_lift 33 = .ok (.iconst 2, 1) := by decide +kernel
theorem dX7_lift_34 : decode cX7_lift 34 = .ok (.invokevirtual 75, 3) := by decide +kernel
theorem dX7_lift_37 : decode cX7_lift 37 = .ok (.ifCond .eq 5, 3) := by decide +kernel
theorem dX7_lift_40 : decode cX7_lift 40 = .ok (.iconst 0, 1) := by decide +kernel
theorem dX7_lift_41 : decode cX7_lift 41 = .ok (.ireturn, 1) := by decide +kernel
theorem dX7_lift_42 : decode cX7_lift 42 = .ok (.aload_n 0, 1) := by decide +kernel
theorem dX7_lift_43 : decode cX7_lift 43 = .ok (.getfield 41, 3) := by decide +kernel
theorem dX7_lift_46 : decode cX7_lift 46 = .ok (.iload_n 1, 1) := by decide +kernel
theorem dX7_lift_47 : decode cX7_lift 47 = .ok (.iconst 1, 1) := by decide +kernel
theorem dX7_lift_48 : decode cX7_lift 48 = .ok (.bastore, 1) := by decide +kernel
theorem dX7_lift_49 : decode cX7_lift 49 = .ok (.aload_n 0, 1) := by decide +kernel
theorem dX7_lift_50 : decode cX7_lift 50 = .ok (.aload_n 0, 1) := by decide +kernel
theorem dX7_lift_51 : decode cX7_lift 51 = .ok (.getfield 29, 3) := by decide +kernel
theorem dX7_lift_54 : decode cX7_lift 54 = .ok (.iload_n 1, 1) := by decide +kernel
theorem dX7_lift_55 : decode cX7_lift 55 = .ok (.iaload, 1) := by decide +kernel
theorem dX7_lift_56 : decode cX7_lift 56 = .ok (.aload_n 0, 1) := by decide +kernel
theorem dX7_lift_57 : decode cX7_lift 57 = .ok (.getfield 35, 3) := by decide +kernel
theorem dX7_lift_60 : decode cX7_lift 60 = .ok (.iload_n 1, 1) := by decide +kernel
theorem dX7_lift_61 : decode cX7_lift 61 = .ok (.iaload, 1) := by decide +kernel
theorem dX7_lift_62 : decode cX7_lift 62 = .ok (.invokevirtual 78, 3) := by decide +kernel
theorem dX7_lift_65 : decode cX7_lift 65 = .ok (.pop, 1) := by decide +kernel
theorem dX7_lift_66 : decode cX7_lift 66 = .ok (.aload_n 0, 1) := by decide +kernel
theorem dX7_lift_67 : decode cX7_lift 67 = .ok (.getfield 38, 3) := by decide +kernel
theorem dX7_lift_70 : decode cX7_lift 70 = .ok (.iload_n 1, 1) := by decide +kernel
theorem dX7_lift_71 : decode cX7_lift 71 = .ok (.iaload, 1) := by decide +kernel
theorem dX7_lift_72 : decode cX7_lift 72 = .ok (.aload_n 0, 1) := by decide +kernel
theorem dX7_lift_73 : decode cX7_lift 73 = .ok (.getfield 92, 3) := by decide +kernel
theorem dX7_lift_76 : decode cX7_lift 76 = .ok (.isub, 1) := by decide +kernel
theorem dX7_lift_77 : decode cX7_lift 77 = .ok (.ireturn, 1) := by decide +kernel
theorem dX7_barred_0 : decode cX7_barred 0 = .ok (.iconst 0, 1) := by decide +kernel
theorem dX7_barred_1 : decode cX7_barred 1 = .ok (.istore_n 3, 1) := by decide +kernel
theorem dX7_barred_2 : decode cX7_barred 2 = .ok (.iconst 0, 1) := by decide +kernel
theorem dX7_barred_3 : decode cX7_barred 3 = .ok (.istore 4, 2) := by decide +kernel
theorem dX7_barred_5 : decode cX7_barred 5 = .ok (.iload 4, 2) := by decide +kernel
theorem dX7_barred_7 : decode cX7_barred 7 = .ok (.aload_n 0, 1) := by decide +kernel
theorem dX7_barred_8 : decode cX7_barred 8 = .ok (.getfield 95, 3) := by decide +kernel
theorem dX7_barred_11 : decode cX7_barred 11 = .ok (.if_icmp .ge 56, 3) := by decide +kernel
theorem dX7_barred_14 : decode cX7_barred 14 = .ok (.iload_n 3, 1) := by decide +kernel
theorem dX7_barred_15 : decode cX7_barred 15 = .ok (.aload_n 0, 1) := by decide +kernel
theorem dX7_barred_16 : decode cX7_barred 16 = .ok (.iload 4, 2) := by decide +kernel
theorem dX7_barred_18 : decode cX7_barred 18 = .ok (.invokevirtual 98, 3) := by decide +kernel
theorem dX7_barred_21 : decode cX7_barred 21 = .ok (.ifCond .eq 37, 3) := by decide +kernel
theorem dX7_barred_24 : decode cX7_barred 24 = .ok (.aload_n 0, 1) := by decide +kernel
theorem dX7_barred_25 : decode cX7_barred 25 = .ok (.getfield 29, 3) := by decide +kernel
theorem dX7_barred_28 : decode cX7_barred 28 = .ok (.iload 4, 2) := by decide +kernel
theorem dX7_barred_30 : decode cX7_barred 30 = .ok (.iaload, 1) := by decide +kernel
theorem dX7_barred_31 : decode cX7_barred 31 = .ok (.iload_n 1, 1) := by decide +kernel
theorem dX7_barred_32 : decode cX7_barred 32 = .ok (.if_icmp .ne 26, 3) := by decide +kernel
theorem dX7_barred_35 : decode cX7_barred 35 = .ok (.aload_n 0, 1) := by decide +kernel
theorem dX7_barred_36 : decode cX7_barred 36 = .ok (.getfield 35, 3) := by decide +kernel
theorem dX7_barred_39 : decode cX7_barred 39 = .ok (.iload 4, 2) := by decide +kernel
theorem dX7_barred_41 : decode cX7_barred 41 = .ok (.iaload, 1) := by decide +kernel
theorem dX7_barred_42 : decode cX7_barred 42 = .ok (.iload_n 2, 1) := by decide +kernel
theorem dX7_barred_43 : decode cX7_barred 43 = .ok (.if_icmp .le 15, 3) := by decide +kernel
theorem dX7_barred_46 : decode cX7_barred 46 = .ok (.iconst 1, 1) := by decide +kernel
theorem dX7_barred_47 : decode cX7_barred 47 = .ok (.aload_n 0, 1) := by decide +kernel
theorem dX7_barred_48 : decode cX7_barred 48 = .ok (.getfield 32, 3) := by decide +kernel
theorem dX7_barred_51 : decode cX7_barred 51 = .ok (.iload 4, 2) := by decide +kernel
theorem dX7_barred_53 : decode cX7_barred 53 = .ok (.iaload, 1) := by decide +kernel
theorem dX7_barred_54 : decode cX7_barred 54 = .ok (.ishl, 1) := by decide +kernel
theorem dX7_barred_55 : decode cX7_barred 55 = .ok (.goto 4, 3) := by decide +kernel
theorem dX7_barred_58 : decode cX7_barred 58 = .ok (.iconst 0, 1) := by decide +kernel
theorem dX7_barred_59 : decode cX7_barred 59 = .ok (.ior, 1) := by decide +kernel
theorem dX7_barred_60 : decode cX7_barred 60 = .ok (.istore_n 3, 1) := by decide +kernel
theorem dX7_barred_61 : decode cX7_barred 61 = .ok (.iinc 4 1, 3) := by decide +kernel
theorem dX7_barred_64 : decode cX7_barred 64 = .ok (.goto (-59), 3) := by decide +kernel
theorem dX7_barred_67 : decode cX7_barred 67 = .ok (.iload_n 3, 1) := by decide +kernel
theorem dX7_barred_68 : decode cX7_barred 68 = .ok (.ireturn, 1) := by decide +kernel
theorem dX7_isEmbargoed_0 : decode cX7_isEmbargoed 0 = .ok (.aload_n 0, 1) := by decide +kernel
theorem dX7_isEmbargoed_1 : decode cX7_isEmbargoed 1 = .ok (.iload_n 1, 1) := by decide +kernel
theorem dX7_isEmbargoed_2 : decode cX7_isEmbargoed 2 = .ok (.iload_n 2, 1) := by decide +kernel
theorem dX7_isEmbargoed_3 : decode cX7_isEmbargoed 3 = .ok (.iload_n 3, 1) := by decide +kernel
theorem dX7_isEmbargoed_4 : decode cX7_isEmbargoed 4 = .ok (.invokevirtual 82, 3) := by decide +kernel
theorem dX7_isEmbargoed_7 : decode cX7_isEmbargoed 7 = .ok (.istore 5, 2) := by decide +kernel
theorem dX7_isEmbargoed_9 : decode cX7_isEmbargoed 9 = .ok (.aload_n 0, 1) := by decide +kernel
theorem dX7_isEmbargoed_10 : decode cX7_isEmbargoed 10 = .ok (.iload 5, 2) := by decide +kernel
theorem dX7_isEmbargoed_12 : decode cX7_isEmbargoed 12 = .ok (.iconst (-1), 1) := by decide +kernel
theorem dX7_isEmbargoed_13 : decode cX7_isEmbargoed 13 = .ok (.if_icmp .eq 11, 3) := by decide +kernel
theorem dX7_isEmbargoed_16 : decode cX7_isEmbargoed 16 = .ok (.iload 4, 2) := by decide +kernel
theorem dX7_isEmbargoed_18 : decode cX7_isEmbargoed 18 = .ok (.invokestatic 101, 3) := by decide +kernel
theorem dX7_isEmbargoed_21 : decode cX7_isEmbargoed 21 = .ok (.ifCond .ne 7, 3) := by decide +kernel
theorem dX7_isEmbargoed_24 : decode cX7_isEmbargoed 24 = .ok (.iconst 1, 1) := by decide +kernel
theorem dX7_isEmbargoed_25 : decode cX7_isEmbargoed 25 = .ok (.goto 4, 3) := by decide +kernel
theorem dX7_isEmbargoed_28 : decode cX7_isEmbargoed 28 = .ok (.iconst 0, 1) := by decide +kernel
theorem dX7_isEmbargoed_29 : decode cX7_isEmbargoed 29 = .ok (.invokevirtual 75, 3) := by decide +kernel
theorem dX7_isEmbargoed_32 : decode cX7_isEmbargoed 32 = .ok (.ifCond .eq 5, 3) := by decide +kernel
theorem dX7_isEmbargoed_35 : decode cX7_isEmbargoed 35 = .ok (.iconst 0, 1) := by decide +kernel
theorem dX7_isEmbargoed_36 : decode cX7_isEmbargoed 36 = .ok (.ireturn, 1) := by decide +kernel
theorem dX7_isEmbargoed_37 : decode cX7_isEmbargoed 37 = .ok (.aload_n 0, 1) := by decide +kernel
theorem dX7_isEmbargoed_38 : decode cX7_isEmbargoed 38 = .ok (.iload_n 1, 1) := by decide +kernel
theorem dX7_isEmbargoed_39 : decode cX7_isEmbargoed 39 = .ok (.iload 4, 2) := by decide +kernel
theorem dX7_isEmbargoed_41 : decode cX7_isEmbargoed 41 = .ok (.invokevirtual 104, 3) := by decide +kernel
theorem dX7_isEmbargoed_44 : decode cX7_isEmbargoed 44 = .ok (.iload 5, 2) := by decide +kernel
theorem dX7_isEmbargoed_46 : decode cX7_isEmbargoed 46 = .ok (.ishr, 1) := by decide +kernel
theorem dX7_isEmbargoed_47 : decode cX7_isEmbargoed 47 = .ok (.iconst 1, 1) := by decide +kernel
theorem dX7_isEmbargoed_48 : decode cX7_isEmbargoed 48 = .ok (.iand, 1) := by decide +kernel
