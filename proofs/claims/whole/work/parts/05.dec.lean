theorem dX7_isEmbargoed_49 : decode cX7_isEmbargoed 49 = .ok (.iconst 1, 1) := by decide +kernel
theorem dX7_isEmbargoed_50 : decode cX7_isEmbargoed 50 = .ok (.if_icmp .ne 7, 3) := by decide +kernel
theorem dX7_isEmbargoed_53 : decode cX7_isEmbargoed 53 = .ok (.iconst 1, 1) := by decide +kernel
theorem dX7_isEmbargoed_54 : decode cX7_isEmbargoed 54 = .ok (.goto 4, 3) := by decide +kernel
theorem dX7_isEmbargoed_57 : decode cX7_isEmbargoed 57 = .ok (.iconst 0, 1) := by decide +kernel
theorem dX7_isEmbargoed_58 : decode cX7_isEmbargoed 58 = .ok (.ireturn, 1) := by decide +kernel
theorem dX7_pass_0 : decode cX7_pass 0 = .ok (.aload_n 0, 1) := by decide +kernel
theorem dX7_pass_1 : decode cX7_pass 1 = .ok (.iload_n 1, 1) := by decide +kernel
theorem dX7_pass_2 : decode cX7_pass 2 = .ok (.iconst 1, 1) := by decide +kernel
theorem dX7_pass_3 : decode cX7_pass 3 = .ok (.bipush 100, 2) := by decide +kernel
theorem dX7_pass_5 : decode cX7_pass 5 = .ok (.invokestatic 57, 3) := by decide +kernel
theorem dX7_pass_8 : decode cX7_pass 8 = .ok (.ifCond .ne 7, 3) := by decide +kernel
theorem dX7_pass_11 : decode cX7_pass 11 = .ok (.iconst 1, 1) := by decide +kernel
theorem dX7_pass_12 : decode cX7_pass 12 = .ok (.goto 20, 3) := by decide +kernel
theorem dX7_pass_15 : decode cX7_pass 15 = .ok (.aload_n 0, 1) := by decide +kernel
theorem dX7_pass_16 : decode cX7_pass 16 = .ok (.getfield 92, 3) := by decide +kernel
theorem dX7_pass_19 : decode cX7_pass 19 = .ok (.iload_n 1, 1) := by decide +kernel
theorem dX7_pass_20 : decode cX7_pass 20 = .ok (.iadd, 1) := by decide +kernel
theorem dX7_pass_21 : decode cX7_pass 21 = .ok (.sipush 10000, 3) := by decide +kernel
theorem dX7_pass_24 : decode cX7_pass 24 = .ok (.if_icmp .le 7, 3) := by decide +kernel
theorem dX7_pass_27 : decode cX7_pass 27 = .ok (.iconst 2, 1) := by decide +kernel
theorem dX7_pass_28 : decode cX7_pass 28 = .ok (.goto 4, 3) := by decide +kernel
theorem dX7_pass_31 : decode cX7_pass 31 = .ok (.iconst 0, 1) := by decide +kernel
theorem dX7_pass_32 : decode cX7_pass 32 = .ok (.invokevirtual 75, 3) := by decide +kernel
theorem dX7_pass_35 : decode cX7_pass 35 = .ok (.ifCond .eq 5, 3) := by decide +kernel
theorem dX7_pass_38 : decode cX7_pass 38 = .ok (.iconst 0, 1) := by decide +kernel
theorem dX7_pass_39 : decode cX7_pass 39 = .ok (.ireturn, 1) := by decide +kernel
theorem dX7_pass_40 : decode cX7_pass 40 = .ok (.iconst 0, 1) := by decide +kernel
theorem dX7_pass_41 : decode cX7_pass 41 = .ok (.istore_n 2, 1) := by decide +kernel
theorem dX7_pass_42 : decode cX7_pass 42 = .ok (.iconst 0, 1) := by decide +kernel
theorem dX7_pass_43 : decode cX7_pass 43 = .ok (.istore_n 3, 1) := by decide +kernel
theorem dX7_pass_44 : decode cX7_pass 44 = .ok (.iload_n 3, 1) := by decide +kernel
theorem dX7_pass_45 : decode cX7_pass 45 = .ok (.iload_n 1, 1) := by decide +kernel
theorem dX7_pass_46 : decode cX7_pass 46 = .ok (.if_icmp .ge 86, 3) := by decide +kernel
theorem dX7_pass_49 : decode cX7_pass 49 = .ok (.aload_n 0, 1) := by decide +kernel
theorem dX7_pass_50 : decode cX7_pass 50 = .ok (.dup, 1) := by decide +kernel
theorem dX7_pass_51 : decode cX7_pass 51 = .ok (.getfield 92, 3) := by decide +kernel
theorem dX7_pass_54 : decode cX7_pass 54 = .ok (.iconst 1, 1) := by decide +kernel
theorem dX7_pass_55 : decode cX7_pass 55 = .ok (.iadd, 1) := by decide +kernel
theorem dX7_pass_56 : decode cX7_pass 56 = .ok (.putfield 92, 3) := by decide +kernel
theorem dX7_pass_59 : decode cX7_pass 59 = .ok (.iconst 0, 1) := by decide +kernel
theorem dX7_pass_60 : decode cX7_pass 60 = .ok (.istore 4, 2) := by decide +kernel
theorem dX7_pass_62 : decode cX7_pass 62 = .ok (.iload 4, 2) := by decide +kernel
theorem dX7_pass_64 : decode cX7_pass 64 = .ok (.aload_n 0, 1) := by decide +kernel
theorem dX7_pass_65 : decode cX7_pass 65 = .ok (.getfield 95, 3) := by decide +kernel
theorem dX7_pass_68 : decode cX7_pass 68 = .ok (.if_icmp .ge 58, 3) := by decide +kernel
theorem dX7_pass_71 : decode cX7_pass 71 = .ok (.iload_n 2, 1) := by decide +kernel
theorem dX7_pass_72 : decode cX7_pass 72 = .ok (.aload_n 0, 1) := by decide +kernel
theorem dX7_pass_73 : decode cX7_pass 73 = .ok (.getfield 41, 3) := by decide +kernel
theorem dX7_pass_76 : decode cX7_pass 76 = .ok (.iload 4, 2) := by decide +kernel
theorem dX7_pass_78 : decode cX7_pass 78 = .ok (.baload, 1) := by decide +kernel
theorem dX7_pass_79 : decode cX7_pass 79 = .ok (.ifCond .ne 38, 3) := by decide +kernel
theorem dX7_pass_82 : decode cX7_pass 82 = .ok (.aload_n 0, 1) := by decide +kernel
theorem dX7_pass_83 : decode cX7_pass 83 = .ok (.getfield 38, 3) := by decide +kernel
theorem dX7_pass_86 : decode cX7_pass 86 = .ok (.iload 4, 2) := by decide +kernel
theorem dX7_pass_88 : decode cX7_pass 88 = .ok (.iaload, 1) := by decide +kernel
theorem dX7_pass_89 : decode cX7_pass 89 = .ok (.aload_n 0, 1) := by decide +kernel
theorem dX7_pass_90 : decode cX7_pass 90 = .ok (.getfield 92, 3) := by decide +kernel
theorem dX7_pass_93 : decode cX7_pass 93 = .ok (.if_icmp .ne 24, 3) := by decide +kernel
theorem dX7_pass_96 : decode cX7_pass 96 = .ok (.aload_n 0, 1) := by decide +kernel
theorem dX7_pass_97 : decode cX7_pass 97 = .ok (.aload_n 0, 1) := by decide +kernel
theorem dX7_pass_98 : decode cX7_pass 98 = .ok (.getfield 29, 3) := by decide +kernel
theorem dX7_pass_101 : decode cX7_pass 101 = .ok (.iload 4, 2) := by decide +kernel
theorem dX7_pass_103 : decode cX7_pass 103 = .ok (.iaload, 1) := by decide +kernel
theorem dX7_pass_104 : decode cX7_pass 104 = .ok (.aload_n 0, 1) := by decide +kernel
theorem dX7_pass_105 : decode cX7_pass 105 = .ok (.getfield 35, 3) := by decide +kernel
theorem dX7_pass_108 : decode cX7_pass 108 = .ok (.iload 4, 2) := by decide +kernel
theorem dX7_pass_110 : decode cX7_pass 110 = .ok (.iaload, 1) := by decide +kernel
theorem dX7_pass_111 : decode cX7_pass 111 = .ok (.invokevirtual 78, 3) := by decide +kernel
theorem dX7_pass_114 : decode cX7_pass 114 = .ok (.goto 4, 3) := by decide +kernel
theorem dX7_pass_117 : decode cX7_pass 117 = .ok (.iconst 0, 1) := by decide +kernel
theorem dX7_pass_118 : decode cX7_pass 118 = .ok (.iadd, 1) := by decide +kernel
theorem dX7_pass_119 : decode cX7_pass 119 = .ok (.istore_n 2, 1) := by decide +kernel
theorem dX7_pass_120 : decode cX7_pass 120 = .ok (.iinc 4 1, 3) := by decide +kernel
theorem dX7_pass_123 : decode cX7_pass 123 = .ok (.goto (-61), 3) := by decide +kernel
theorem dX7_pass_126 : decode cX7_pass 126 = .ok (.iinc 3 1, 3) := by decide +kernel
theorem dX7_pass_129 : decode cX7_pass 129 = .ok (.goto (-85), 3) := by decide +kernel
theorem dX7_pass_132 : decode cX7_pass 132 = .ok (.iload_n 2, 1) := by decide +kernel
theorem dX7_pass_133 : decode cX7_pass 133 = .ok (.ireturn, 1) := by decide +kernel
theorem dX7_isFound_0 : decode cX7_isFound 0 = .ok (.iload_n 0, 1) := by decide +kernel
theorem dX7_isFound_1 : decode cX7_isFound 1 = .ok (.iconst 1, 1) := by decide +kernel
theorem dX7_isFound_2 : decode cX7_isFound 2 = .ok (.iload_n 1, 1) := by decide +kernel
theorem dX7_isFound_3 : decode cX7_isFound 3 = .ok (.ishl, 1) := by decide +kernel
theorem dX7_isFound_4 : decode cX7_isFound 4 = .ok (.iconst (-1), 1) := by decide +kernel
theorem dX7_isFound_5 : decode cX7_isFound 5 = .ok (.ixor, 1) := by decide +kernel
theorem dX7_isFound_6 : decode cX7_isFound 6 = .ok (.iand, 1) := by decide +kernel
theorem dX7_isFound_7 : decode cX7_isFound 7 = .ok (.istore_n 2, 1) := by decide +kernel
theorem dX7_isFound_8 : decode cX7_isFound 8 = .ok (.iconst 1, 1) := by decide +kernel
theorem dX7_isFound_9 : decode cX7_isFound 9 = .ok (.iload_n 1, 1) := by decide +kernel
theorem dX7_isFound_10 : decode cX7_isFound 10 = .ok (.bipush 6, 2) := by decide +kernel
theorem dX7_isFound_12 : decode cX7_isFound 12 = .ok (.idiv, 1) := by decide +kernel
theorem dX7_isFound_13 : decode cX7_isFound 13 = .ok (.ishl, 1) := by decide +kernel
theorem dX7_isFound_14 : decode cX7_isFound 14 = .ok (.istore_n 3, 1) := by decide +kernel
theorem dX7_isFound_15 : decode cX7_isFound 15 = .ok (.iconst 0, 1) := by decide +kernel
theorem dX7_isFound_16 : decode cX7_isFound 16 = .ok (.istore 4, 2) := by decide +kernel
theorem dX7_isFound_18 : decode cX7_isFound 18 = .ok (.iconst 0, 1) := by decide +kernel
theorem dX7_isFound_19 : decode cX7_isFound 19 = .ok (.istore 5, 2) := by decide +kernel
theorem dX7_isFound_21 : decode cX7_isFound 21 = .ok (.iload 5, 2) := by decide +kernel
theorem dX7_isFound_23 : decode cX7_isFound 23 = .ok (.bipush 11, 2) := by decide +kernel
theorem dX7_isFound_25 : decode cX7_isFound 25 = .ok (.if_icmp .ge 126, 3) := by decide +kernel
theorem dX7_isFound_28 : decode cX7_isFound 28 = .ok (.iconst 0, 1) := by decide +kernel
theorem dX7_isFound_29 : decode cX7_isFound 29 = .ok (.istore 6, 2) := by decide +kernel
theorem dX7_isFound_31 : decode cX7_isFound 31 = .ok (.iload 6, 2) := by decide +kernel
theorem dX7_isFound_33 : decode cX7_isFound 33 = .ok (.bipush 30, 2) := by decide +kernel
theorem dX7_isFound_35 : decode cX7_isFound 35 = .ok (.if_icmp .ge 110, 3) := by decide +kernel
theorem dX7_isFound_38 : decode cX7_isFound 38 = .ok (.iload_n 2, 1) := by decide +kernel
theorem dX7_isFound_39 : decode cX7_isFound 39 = .ok (.iload 6, 2) := by decide +kernel
theorem dX7_isFound_41 : decode cX7_isFound 41 = .ok (.ishr, 1) := by decide +kernel
theorem dX7_isFound_42 : decode cX7_isFound 42 = .ok (.iconst 1, 1) := by decide +kernel
theorem dX7_isFound_43 : decode cX7_isFound 43 = .ok (.iand, 1) := by decide +kernel
theorem dX7_isFound_44 : decode cX7_isFound 44 = .ok (.iconst 1, 1) := by decide +kernel
theorem dX7_isFound_45 : decode cX7_isFound 45 = .ok (.if_icmp .ne 7, 3) := by decide +kernel
theorem dX7_isFound_48 : decode cX7_isFound 48 = .ok (.iconst 1, 1) := by decide +kernel
theorem dX7_isFound_49 : decode cX7_isFound 49 = .ok (.goto 4, 3) := by decide +kernel
theorem dX7_isFound_52 : decode cX7_isFound 52 = .ok (.iconst 0, 1) := by decide +kernel
theorem dX7_isFound_53 : decode cX7_isFound 53 = .ok (.istore 7, 2) := by decide +kernel
theorem dX7_isFound_55 : decode cX7_isFound 55 = .ok (.iload_n 3, 1) := by decide +kernel
theorem dX7_isFound_56 : decode cX7_isFound 56 = .ok (.iload 6, 2) := by decide +kernel
theorem dX7_isFound_58 : decode cX7_isFound 58 = .ok (.bipush 6, 2) := by decide +kernel
theorem dX7_isFound_60 : decode cX7_isFound 60 = .ok (.idiv, 1) := by decide +kernel
theorem dX7_isFound_61 : decode cX7_isFound 61 = .ok (.ishr, 1) := by decide +kernel
theorem dX7_isFound_62 : decode cX7_isFound 62 = .ok (.iconst 1, 1) := by decide +kernel
theorem dX7_isFound_63 : decode cX7_isFound 63 = .ok (.iand, 1) := by decide +kernel
theorem dX7_isFound_64 : decode cX7_isFound 64 = .ok (.iconst 1, 1) := by decide +kernel
theorem dX7_isFound_65 : decode cX7_isFound 65 = .ok (.if_icmp .eq 17, 3) := by decide +kernel
theorem dX7_isFound_68 : decode cX7_isFound 68 = .ok (.iload 4, 2) := by decide +kernel
theorem dX7_isFound_70 : decode cX7_isFound 70 = .ok (.iload 6, 2) := by decide +kernel
theorem dX7_isFound_72 : decode cX7_isFound 72 = .ok (.bipush 6, 2) := by decide +kernel
theorem dX7_isFound_74 : decode cX7_isFound 74 = .ok (.irem, 1) := by decide +kernel
theorem dX7_isFound_75 : decode cX7_isFound 75 = .ok (.ishr, 1) := by decide +kernel
theorem dX7_isFound_76 : decode cX7_isFound 76 = .ok (.iconst 1, 1) := by decide +kernel
theorem dX7_isFound_77 : decode cX7_isFound 77 = .ok (.iand, 1) := by decide +kernel
theorem dX7_isFound_78 : decode cX7_isFound 78 = .ok (.iconst 1, 1) := by decide +kernel
theorem dX7_isFound_79 : decode cX7_isFound 79 = .ok (.if_icmp .ne 7, 3) := by decide +kernel
theorem dX7_isFound_82 : decode cX7_isFound 82 = .ok (.iconst 1, 1) := by decide +kernel
theorem dX7_isFound_83 : decode cX7_isFound 83 = .ok (.goto 4, 3) := by decide +kernel
theorem dX7_isFound_86 : decode cX7_isFound 86 = .ok (.iconst 0, 1) := by decide +kernel
theorem dX7_isFound_87 : decode cX7_isFound 87 = .ok (.istore 8, 2) := by decide +kernel
theorem dX7_isFound_89 : decode cX7_isFound 89 = .ok (.iload_n 3, 1) := by decide +kernel
theorem dX7_isFound_90 : decode cX7_isFound 90 = .ok (.iload 7, 2) := by decide +kernel
theorem dX7_isFound_92 : decode cX7_isFound 92 = .ok (.ifCond .eq 18, 3) := by decide +kernel
theorem dX7_isFound_95 : decode cX7_isFound 95 = .ok (.iload 8, 2) := by decide +kernel
theorem dX7_isFound_97 : decode cX7_isFound 97 = .ok (.ifCond .eq 13, 3) := by decide +kernel
theorem dX7_isFound_100 : decode cX7_isFound 100 = .ok (.iconst 1, 1) := by decide +kernel
theorem dX7_isFound_101 : decode cX7_isFound 101 = .ok (.iload 6, 2) := by decide +kernel
theorem dX7_isFound_103 : decode cX7_isFound 103 = .ok (.bipush 6, 2) := by decide +kernel
theorem dX7_isFound_105 : decode cX7_isFound 105 = .ok (.idiv, 1) := by decide +kernel
theorem dX7_isFound_106 : decode cX7_isFound 106 = .ok (.ishl, 1) := by decide +kernel
theorem dX7_isFound_107 : decode cX7_isFound 107 = .ok (.goto 4, 3) := by decide +kernel
theorem dX7_isFound_110 : decode cX7_isFound 110 = .ok (.iconst 0, 1) := by decide +kernel
theorem dX7_isFound_111 : decode cX7_isFound 111 = .ok (.ior, 1) := by decide +kernel
theorem dX7_isFound_112 : decode cX7_isFound 112 = .ok (.istore_n 3, 1) := by decide +kernel
theorem dX7_isFound_113 : decode cX7_isFound 113 = .ok (.iload 4, 2) := by decide +kernel
theorem dX7_isFound_115 : decode cX7_isFound 115 = .ok (.iload 7, 2) := by decide +kernel
theorem dX7_isFound_117 : decode cX7_isFound 117 = .ok (.ifCond .eq 18, 3) := by decide +kernel
theorem dX7_isFound_120 : decode cX7_isFound 120 = .ok (.iload 8, 2) := by decide +kernel
theorem dX7_isFound_122 : decode cX7_isFound 122 = .ok (.ifCond .eq 13, 3) := by decide +kernel
theorem dX7_isFound_125 : decode cX7_isFound 125 = .ok (.iconst 1, 1) := by decide +kernel
theorem dX7_isFound_126 : decode cX7_isFound 126 = .ok (.iload 6, 2) := by decide +kernel
theorem dX7_isFound_128 : decode cX7_isFound 128 = .ok (.bipush 6, 2) := by decide +kernel
theorem dX7_isFound_130 : decode cX7_isFound 130 = .ok (.irem, 1) := by decide +kernel
theorem dX7_isFound_131 : decode cX7_isFound 131 = .ok (.ishl, 1) := by decide +kernel
theorem dX7_isFound_132 : decode cX7_isFound 132 = .ok (.goto 4, 3) := by decide +kernel
theorem dX7_isFound_135 : decode cX7_isFound 135 = .ok (.iconst 0, 1) := by decide +kernel
theorem dX7_isFound_136 : decode cX7_isFound 136 = .ok (.ior, 1) := by decide +kernel
theorem dX7_isFound_137 : decode cX7_isFound 137 = .ok (.istore 4, 2) := by decide +kernel
theorem dX7_isFound_139 : decode cX7_isFound 139 = .ok (.iinc 6 1, 3) := by decide +kernel
theorem dX7_isFound_142 : decode cX7_isFound 142 = .ok (.goto (-111), 3) := by decide +kernel
theorem dX7_isFound_145 : decode cX7_isFound 145 = .ok (.iinc 5 1, 3) := by decide +kernel
theorem dX7_isFound_148 : decode cX7_isFound 148 = .ok (.goto (-127), 3) := by decide +kernel
theorem dX7_isFound_151 : decode cX7_isFound 151 = .ok (.iload 4, 2) := by decide +kernel
theorem dX7_isFound_153 : decode cX7_isFound 153 = .ok (.iload_n 1, 1) := by decide +kernel
theorem dX7_isFound_154 : decode cX7_isFound 154 = .ok (.bipush 6, 2) := by decide +kernel
theorem dX7_isFound_156 : decode cX7_isFound 156 = .ok (.irem, 1) := by decide +kernel
theorem dX7_isFound_157 : decode cX7_isFound 157 = .ok (.ishr, 1) := by decide +kernel
theorem dX7_isFound_158 : decode cX7_isFound 158 = .ok (.iconst 1, 1) := by decide +kernel
theorem dX7_isFound_159 : decode cX7_isFound 159 = .ok (.iand, 1) := by decide +kernel
theorem dX7_isFound_160 : decode cX7_isFound 160 = .ok (.ifCond .ne 7, 3) := by decide +kernel
theorem dX7_isFound_163 : decode cX7_isFound 163 = .ok (.iconst 1, 1) := by decide +kernel
theorem dX7_isFound_164 : decode cX7_isFound 164 = .ok (.goto 4, 3) := by decide +kernel
theorem dX7_isFound_167 : decode cX7_isFound 167 = .ok (.iconst 0, 1) := by decide +kernel
theorem dX7_isFound_168 : decode cX7_isFound 168 = .ok (.ireturn, 1) := by decide +kernel
theorem dX7_covers_0 : decode cX7_covers 0 = .ok (.iconst 1, 1) := by decide +kernel
theorem dX7_covers_1 : decode cX7_covers 1 = .ok (.bipush 6, 2) := by decide +kernel
theorem dX7_covers_3 : decode cX7_covers 3 = .ok (.iload_n 0, 1) := by decide +kernel
theorem dX7_covers_4 : decode cX7_covers 4 = .ok (.bipush 6, 2) := by decide +kernel
theorem dX7_covers_6 : decode cX7_covers 6 = .ok (.idiv, 1) := by decide +kernel
theorem dX7_covers_7 : decode cX7_covers 7 = .ok (.imul, 1) := by decide +kernel
theorem dX7_covers_8 : decode cX7_covers 8 = .ok (.iload_n 2, 1) := by decide +kernel
theorem dX7_covers_9 : decode cX7_covers 9 = .ok (.iadd, 1) := by decide +kernel
theorem dX7_covers_10 : decode cX7_covers 10 = .ok (.ishl, 1) := by decide +kernel
theorem dX7_covers_11 : decode cX7_covers 11 = .ok (.iconst 1, 1) := by decide +kernel
theorem dX7_covers_12 : decode cX7_covers 12 = .ok (.bipush 6, 2) := by decide +kernel
theorem dX7_covers_14 : decode cX7_covers 14 = .ok (.iload_n 1, 1) := by decide +kernel
theorem dX7_covers_15 : decode cX7_covers 15 = .ok (.imul, 1) := by decide +kernel
theorem dX7_covers_16 : decode cX7_covers 16 = .ok (.iload_n 0, 1) := by decide +kernel
theorem dX7_covers_17 : decode cX7_covers 17 = .ok (.bipush 6, 2) := by decide +kernel
theorem dX7_covers_19 : decode cX7_covers 19 = .ok (.irem, 1) := by decide +kernel
theorem dX7_covers_20 : decode cX7_covers 20 = .ok (.iadd, 1) := by decide +kernel
theorem dX7_covers_21 : decode cX7_covers 21 = .ok (.ishl, 1) := by decide +kernel
theorem dX7_covers_22 : decode cX7_covers 22 = .ok (.ior, 1) := by decide +kernel
theorem dX7_covers_23 : decode cX7_covers 23 = .ok (.iconst 1, 1) := by decide +kernel
theorem dX7_covers_24 : decode cX7_covers 24 = .ok (.bipush 6, 2) := by decide +kernel
theorem dX7_covers_26 : decode cX7_covers 26 = .ok (.iload_n 1, 1) := by decide +kernel
theorem dX7_covers_27 : decode cX7_covers 27 = .ok (.imul, 1) := by decide +kernel
theorem dX7_covers_28 : decode cX7_covers 28 = .ok (.iload_n 2, 1) := by decide +kernel
theorem dX7_covers_29 : decode cX7_covers 29 = .ok (.iadd, 1) := by decide +kernel
theorem dX7_covers_30 : decode cX7_covers 30 = .ok (.ishl, 1) := by decide +kernel
theorem dX7_covers_31 : decode cX7_covers 31 = .ok (.ior, 1) := by decide +kernel
theorem dX7_covers_32 : decode cX7_covers 32 = .ok (.ireturn, 1) := by decide +kernel
theorem dX7_hidden_0 : decode cX7_hidden 0 = .ok (.iload_n 0, 1) := by decide +kernel
theorem dX7_hidden_1 : decode cX7_hidden 1 = .ok (.istore_n 1, 1) := by decide +kernel
theorem dX7_hidden_2 : decode cX7_hidden 2 = .ok (.iconst 0, 1) := by decide +kernel
theorem dX7_hidden_3 : decode cX7_hidden 3 = .ok (.istore_n 2, 1) := by decide +kernel
theorem dX7_hidden_4 : decode cX7_hidden 4 = .ok (.iload_n 2, 1) := by decide +kernel
theorem dX7_hidden_5 : decode cX7_hidden 5 = .ok (.bipush 30, 2) := by decide +kernel
theorem dX7_hidden_7 : decode cX7_hidden 7 = .ok (.if_icmp .ge 129, 3) := by decide +kernel
theorem dX7_hidden_10 : decode cX7_hidden 10 = .ok (.iload_n 0, 1) := by decide +kernel
theorem dX7_hidden_11 : decode cX7_hidden 11 = .ok (.iload_n 2, 1) := by decide +kernel
theorem dX7_hidden_12 : decode cX7_hidden 12 = .ok (.ishr, 1) := by decide +kernel
theorem dX7_hidden_13 : decode cX7_hidden 13 = .ok (.iconst 1, 1) := by decide +kernel
theorem dX7_hidden_14 : decode cX7_hidden 14 = .ok (.iand, 1) := by decide +kernel
theorem dX7_hidden_15 : decode cX7_hidden 15 = .ok (.iconst 1, 1) := by decide +kernel
theorem dX7_hidden_16 : decode cX7_hidden 16 = .ok (.if_icmp .ne 114, 3) := by decide +kernel
theorem dX7_hidden_19 : decode cX7_hidden 19 = .ok (.iload_n 1, 1) := by decide +kernel
theorem dX7_hidden_20 : decode cX7_hidden 20 = .ok (.iload_n 2, 1) := by decide +kernel
theorem dX7_hidden_21 : decode cX7_hidden 21 = .ok (.invokestatic 107, 3) := by decide +kernel
theorem dX7_hidden_24 : decode cX7_hidden 24 = .ok (.ifCond .eq 106, 3) := by decide +kernel
theorem dX7_hidden_27 : decode cX7_hidden 27 = .ok (.iconst 0, 1) := by decide +kernel
theorem dX7_hidden_28 : decode cX7_hidden 28 = .ok (.istore_n 3, 1) := by decide +kernel
theorem dX7_hidden_29 : decode cX7_hidden 29 = .ok (.bipush 30, 2) := by decide +kernel
theorem dX7_hidden_31 : decode cX7_hidden 31 = .ok (.istore 4, 2) := by decide +kernel
theorem dX7_hidden_33 : decode cX7_hidden 33 = .ok (.iconst 0, 1) := by decide +kernel
theorem dX7_hidden_34 : decode cX7_hidden 34 = .ok (.istore 5, 2) := by decide +kernel
theorem dX7_hidden_36 : decode cX7_hidden 36 = .ok (.iload 5, 2) := by decide +kernel
theorem dX7_hidden_38 : decode cX7_hidden 38 = .ok (.bipush 30, 2) := by decide +kernel
theorem dX7_hidden_40 : decode cX7_hidden 40 = .ok (.if_icmp .ge 86, 3) := by decide +kernel
theorem dX7_hidden_43 : decode cX7_hidden 43 = .ok (.iload 5, 2) := by decide +kernel
theorem dX7_hidden_45 : decode cX7_hidden 45 = .ok (.bipush 6, 2) := by decide +kernel
theorem dX7_hidden_47 : decode cX7_hidden 47 = .ok (.idiv, 1) := by decide +kernel
theorem dX7_hidden_48 : decode cX7_hidden 48 = .ok (.iload_n 2, 1) := by decide +kernel
theorem dX7_hidden_49 : decode cX7_hidden 49 = .ok (.bipush 6, 2) := by decide +kernel
theorem dX7_hidden_51 : decode cX7_hidden 51 = .ok (.idiv, 1) := by decide +kernel
theorem dX7_hidden_52 : decode cX7_hidden 52 = .ok (.if_icmp .eq 19, 3) := by decide +kernel
theorem dX7_hidden_55 : decode cX7_hidden 55 = .ok (.iload 5, 2) := by decide +kernel
theorem dX7_hidden_57 : decode cX7_hidden 57 = .ok (.bipush 6, 2) := by decide +kernel
theorem dX7_hidden_59 : decode cX7_hidden 59 = .ok (.irem, 1) := by decide +kernel
theorem dX7_hidden_60 : decode cX7_hidden 60 = .ok (.iload_n 2, 1) := by decide +kernel
theorem dX7_hidden_61 : decode cX7_hidden 61 = .ok (.bipush 6, 2) := by decide +kernel
theorem dX7_hidden_63 : decode cX7_hidden 63 = .ok (.irem, 1) := by decide +kernel
theorem dX7_hidden_64 : decode cX7_hidden 64 = .ok (.if_icmp .eq 7, 3) := by decide +kernel
theorem dX7_hidden_67 : decode cX7_hidden 67 = .ok (.iconst 1, 1) := by decide +kernel
theorem dX7_hidden_68 : decode cX7_hidden 68 = .ok (.goto 4, 3) := by decide +kernel
theorem dX7_hidden_71 : decode cX7_hidden 71 = .ok (.iconst 0, 1) := by decide +kernel
theorem dX7_hidden_72 : decode cX7_hidden 72 = .ok (.istore 6, 2) := by decide +kernel
theorem dX7_hidden_74 : decode cX7_hidden 74 = .ok (.iload_n 2, 1) := by decide +kernel
theorem dX7_hidden_75 : decode cX7_hidden 75 = .ok (.iload 5, 2) := by decide +kernel
theorem dX7_hidden_77 : decode cX7_hidden 77 = .ok (.bipush 6, 2) := by decide +kernel
theorem dX7_hidden_79 : decode cX7_hidden 79 = .ok (.idiv, 1) := by decide +kernel
theorem dX7_hidden_80 : decode cX7_hidden 80 = .ok (.iload 5, 2) := by decide +kernel
theorem dX7_hidden_82 : decode cX7_hidden 82 = .ok (.bipush 6, 2) := by decide +kernel
theorem dX7_hidden_84 : decode cX7_hidden 84 = .ok (.irem, 1) := by decide +kernel
theorem dX7_hidden_85 : decode cX7_hidden 85 = .ok (.invokestatic 110, 3) := by decide +kernel
theorem dX7_hidden_88 : decode cX7_hidden 88 = .ok (.istore 7, 2) := by decide +kernel
theorem dX7_hidden_90 : decode cX7_hidden 90 = .ok (.iload 7, 2) := by decide +kernel
theorem dX7_hidden_92 : decode cX7_hidden 92 = .ok (.iload_n 1, 1) := by decide +kernel
theorem dX7_hidden_93 : decode cX7_hidden 93 = .ok (.iconst (-1), 1) := by decide +kernel
theorem dX7_hidden_94 : decode cX7_hidden 94 = .ok (.ixor, 1) := by decide +kernel
theorem dX7_hidden_95 : decode cX7_hidden 95 = .ok (.iand, 1) := by decide +kernel
theorem dX7_hidden_96 : decode cX7_hidden 96 = .ok (.invokestatic 113, 3) := by decide +kernel
theorem dX7_hidden_99 : decode cX7_hidden 99 = .ok (.istore 8, 2) := by decide +kernel
theorem dX7_hidden_101 : decode cX7_hidden 101 = .ok (.iload 6, 2) := by decide +kernel
theorem dX7_hidden_103 : decode cX7_hidden 103 = .ok (.ifCond .eq 17, 3) := by decide +kernel
theorem dX7_hidden_106 : decode cX7_hidden 106 = .ok (.iload 8, 2) := by decide +kernel
theorem dX7_hidden_108 : decode cX7_hidden 108 = .ok (.iload 4, 2) := by decide +kernel
theorem dX7_hidden_110 : decode cX7_hidden 110 = .ok (.if_icmp .ge 10, 3) := by decide +kernel
theorem dX7_hidden_113 : decode cX7_hidden 113 = .ok (.iload 8, 2) := by decide +kernel
theorem dX7_hidden_115 : decode cX7_hidden 115 = .ok (.istore 4, 2) := by decide +kernel
theorem dX7_hidden_117 : decode cX7_hidden 117 = .ok (.iload 7, 2) := by decide +kernel
theorem dX7_hidden_119 : decode cX7_hidden 119 = .ok (.istore_n 3, 1) := by decide +kernel
theorem dX7_hidden_120 : decode cX7_hidden 120 = .ok (.iinc 5 1, 3) := by decide +kernel
theorem dX7_hidden_123 : decode cX7_hidden 123 = .ok (.goto (-87), 3) := by decide +kernel
theorem dX7_hidden_126 : decode cX7_hidden 126 = .ok (.iload_n 1, 1) := by decide +kernel
theorem dX7_hidden_127 : decode cX7_hidden 127 = .ok (.iload_n 3, 1) := by decide +kernel
theorem dX7_hidden_128 : decode cX7_hidden 128 = .ok (.ior, 1) := by decide +kernel
theorem dX7_hidden_129 : decode cX7_hidden 129 = .ok (.istore_n 1, 1) := by decide +kernel
theorem dX7_hidden_130 : decode cX7_hidden 130 = .ok (.iinc 2 1, 3) := by decide +kernel
theorem dX7_hidden_133 : decode cX7_hidden 133 = .ok (.goto (-129), 3) := by decide +kernel
theorem dX7_hidden_136 : decode cX7_hidden 136 = .ok (.iload_n 1, 1) := by decide +kernel
theorem dX7_hidden_137 : decode cX7_hidden 137 = .ok (.ireturn, 1) := by decide +kernel
theorem dX7_areBoth_0 : decode cX7_areBoth 0 = .ok (.iload_n 0, 1) := by decide +kernel
theorem dX7_areBoth_1 : decode cX7_areBoth 1 = .ok (.invokestatic 61, 3) := by decide +kernel
theorem dX7_areBoth_4 : decode cX7_areBoth 4 = .ok (.ifCond .eq 14, 3) := by decide +kernel
theorem dX7_areBoth_7 : decode cX7_areBoth 7 = .ok (.iload_n 1, 1) := by decide +kernel
theorem dX7_areBoth_8 : decode cX7_areBoth 8 = .ok (.invokestatic 101, 3) := by decide +kernel
theorem dX7_areBoth_11 : decode cX7_areBoth 11 = .ok (.ifCond .eq 7, 3) := by decide +kernel
theorem dX7_areBoth_14 : decode cX7_areBoth 14 = .ok (.iconst 1, 1) := by decide +kernel
theorem dX7_areBoth_15 : decode cX7_areBoth 15 = .ok (.goto 4, 3) := by decide +kernel
theorem dX7_areBoth_18 : decode cX7_areBoth 18 = .ok (.iconst 0, 1) := by decide +kernel
theorem dX7_areBoth_19 : decode cX7_areBoth 19 = .ok (.ireturn, 1) := by decide +kernel
theorem dX7_build_0 : decode cX7_build 0 = .ok (.aload_n 0, 1) := by decide +kernel
theorem dX7_build_1 : decode cX7_build 1 = .ok (.iload_n 1, 1) := by decide +kernel
theorem dX7_build_2 : decode cX7_build 2 = .ok (.iload_n 2, 1) := by decide +kernel
theorem dX7_build_3 : decode cX7_build 3 = .ok (.invokestatic 117, 3) := by decide +kernel
theorem dX7_build_6 : decode cX7_build 6 = .ok (.ifCond .eq 7, 3) := by decide +kernel
theorem dX7_build_9 : decode cX7_build 9 = .ok (.iconst 0, 1) := by decide +kernel
theorem dX7_build_10 : decode cX7_build 10 = .ok (.goto 4, 3) := by decide +kernel
theorem dX7_build_13 : decode cX7_build 13 = .ok (.iconst 1, 1) := by decide +kernel
theorem dX7_build_14 : decode cX7_build 14 = .ok (.invokevirtual 75, 3) := by decide +kernel
theorem dX7_build_17 : decode cX7_build 17 = .ok (.ifCond .eq 5, 3) := by decide +kernel
theorem dX7_build_20 : decode cX7_build 20 = .ok (.iconst 0, 1) := by decide +kernel
theorem dX7_build_21 : decode cX7_build 21 = .ok (.ireturn, 1) := by decide +kernel
theorem dX7_build_22 : decode cX7_build 22 = .ok (.iconst 4, 1) := by decide +kernel
theorem dX7_build_23 : decode cX7_build 23 = .ok (.iload_n 1, 1) := by decide +kernel
theorem dX7_build_24 : decode cX7_build 24 = .ok (.imul, 1) := by decide +kernel
theorem dX7_build_25 : decode cX7_build 25 = .ok (.iload_n 2, 1) := by decide +kernel
theorem dX7_build_26 : decode cX7_build 26 = .ok (.iadd, 1) := by decide +kernel
theorem dX7_build_27 : decode cX7_build 27 = .ok (.istore_n 3, 1) := by decide +kernel
theorem dX7_build_28 : decode cX7_build 28 = .ok (.aload_n 0, 1) := by decide +kernel
theorem dX7_build_29 : decode cX7_build 29 = .ok (.getfield 44, 3) := by decide +kernel
theorem dX7_build_32 : decode cX7_build 32 = .ok (.iload_n 3, 1) := by decide +kernel
theorem dX7_build_33 : decode cX7_build 33 = .ok (.iconst 1, 1) := by decide +kernel
theorem dX7_build_34 : decode cX7_build 34 = .ok (.bastore, 1) := by decide +kernel
theorem dX7_build_35 : decode cX7_build 35 = .ok (.aload_n 0, 1) := by decide +kernel
theorem dX7_build_36 : decode cX7_build 36 = .ok (.getfield 50, 3) := by decide +kernel
theorem dX7_build_39 : decode cX7_build 39 = .ok (.iload_n 3, 1) := by decide +kernel
theorem dX7_build_40 : decode cX7_build 40 = .ok (.aload_n 0, 1) := by decide +kernel
theorem dX7_build_41 : decode cX7_build 41 = .ok (.iload_n 1, 1) := by decide +kernel
theorem dX7_build_42 : decode cX7_build 42 = .ok (.iload_n 2, 1) := by decide +kernel
theorem dX7_build_43 : decode cX7_build 43 = .ok (.invokevirtual 104, 3) := by decide +kernel
theorem dX7_build_46 : decode cX7_build 46 = .ok (.iastore, 1) := by decide +kernel
theorem dX7_build_47 : decode cX7_build 47 = .ok (.aload_n 0, 1) := by decide +kernel
theorem dX7_build_48 : decode cX7_build 48 = .ok (.getfield 47, 3) := by decide +kernel
theorem dX7_build_51 : decode cX7_build 51 = .ok (.iload_n 3, 1) := by decide +kernel
theorem dX7_build_52 : decode cX7_build 52 = .ok (.aload_n 0, 1) := by decide +kernel
theorem dX7_build_53 : decode cX7_build 53 = .ok (.getfield 50, 3) := by decide +kernel
theorem dX7_build_56 : decode cX7_build 56 = .ok (.iload_n 3, 1) := by decide +kernel
theorem dX7_build_57 : decode cX7_build 57 = .ok (.iaload, 1) := by decide +kernel
theorem dX7_build_58 : decode cX7_build 58 = .ok (.invokestatic 120, 3) := by decide +kernel
theorem dX7_build_61 : decode cX7_build 61 = .ok (.iastore, 1) := by decide +kernel
theorem dX7_build_62 : decode cX7_build 62 = .ok (.aload_n 0, 1) := by decide +kernel
theorem dX7_build_63 : decode cX7_build 63 = .ok (.getfield 47, 3) := by decide +kernel
theorem dX7_build_66 : decode cX7_build 66 = .ok (.iload_n 3, 1) := by decide +kernel
theorem dX7_build_67 : decode cX7_build 67 = .ok (.iaload, 1) := by decide +kernel
theorem dX7_build_68 : decode cX7_build 68 = .ok (.invokestatic 113, 3) := by decide +kernel
theorem dX7_build_71 : decode cX7_build 71 = .ok (.ireturn, 1) := by decide +kernel
theorem dX7_isBuilt_0 : decode cX7_isBuilt 0 = .ok (.aload_n 0, 1) := by decide +kernel
theorem dX7_isBuilt_1 : decode cX7_isBuilt 1 = .ok (.iload_n 1, 1) := by decide +kernel
theorem dX7_isBuilt_2 : decode cX7_isBuilt 2 = .ok (.iload_n 2, 1) := by decide +kernel
theorem dX7_isBuilt_3 : decode cX7_isBuilt 3 = .ok (.invokestatic 117, 3) := by decide +kernel
theorem dX7_isBuilt_6 : decode cX7_isBuilt 6 = .ok (.ifCond .eq 7, 3) := by decide +kernel
theorem dX7_isBuilt_9 : decode cX7_isBuilt 9 = .ok (.iconst 0, 1) := by decide +kernel
theorem dX7_isBuilt_10 : decode cX7_isBuilt 10 = .ok (.goto 4, 3) := by decide +kernel
theorem dX7_isBuilt_13 : decode cX7_isBuilt 13 = .ok (.iconst 1, 1) := by decide +kernel
theorem dX7_isBuilt_14 : decode cX7_isBuilt 14 = .ok (.invokevirtual 75, 3) := by decide +kernel
theorem dX7_isBuilt_17 : decode cX7_isBuilt 17 = .ok (.ifCond .ne 20, 3) := by decide +kernel
theorem dX7_isBuilt_20 : decode cX7_isBuilt 20 = .ok (.aload_n 0, 1) := by decide +kernel
theorem dX7_isBuilt_21 : decode cX7_isBuilt 21 = .ok (.getfield 44, 3) := by decide +kernel
theorem dX7_isBuilt_24 : decode cX7_isBuilt 24 = .ok (.iconst 4, 1) := by decide +kernel
theorem dX7_isBuilt_25 : decode cX7_isBuilt 25 = .ok (.iload_n 1, 1) := by decide +kernel
theorem dX7_isBuilt_26 : decode cX7_isBuilt 26 = .ok (.imul, 1) := by decide +kernel
theorem dX7_isBuilt_27 : decode cX7_isBuilt 27 = .ok (.iload_n 2, 1) := by decide +kernel
theorem dX7_isBuilt_28 : decode cX7_isBuilt 28 = .ok (.iadd, 1) := by decide +kernel
theorem dX7_isBuilt_29 : decode cX7_isBuilt 29 = .ok (.baload, 1) := by decide +kernel
theorem dX7_isBuilt_30 : decode cX7_isBuilt 30 = .ok (.ifCond .eq 7, 3) := by decide +kernel
theorem dX7_isBuilt_33 : decode cX7_isBuilt 33 = .ok (.iconst 1, 1) := by decide +kernel
theorem dX7_isBuilt_34 : decode cX7_isBuilt 34 = .ok (.goto 4, 3) := by decide +kernel
theorem dX7_isBuilt_37 : decode cX7_isBuilt 37 = .ok (.iconst 0, 1) := by decide +kernel
theorem dX7_isBuilt_38 : decode cX7_isBuilt 38 = .ok (.ireturn, 1) := by decide +kernel
theorem dX7_shown_0 : decode cX7_shown 0 = .ok (.aload_n 0, 1) := by decide +kernel
theorem dX7_shown_1 : decode cX7_shown 1 = .ok (.iload_n 1, 1) := by decide +kernel
theorem dX7_shown_2 : decode cX7_shown 2 = .ok (.iload_n 3, 1) := by decide +kernel
theorem dX7_shown_3 : decode cX7_shown 3 = .ok (.iload 4, 2) := by decide +kernel
theorem dX7_shown_5 : decode cX7_shown 5 = .ok (.invokevirtual 82, 3) := by decide +kernel
theorem dX7_shown_8 : decode cX7_shown 8 = .ok (.istore 5, 2) := by decide +kernel
theorem dX7_shown_10 : decode cX7_shown 10 = .ok (.iload_n 2, 1) := by decide +kernel
theorem dX7_shown_11 : decode cX7_shown 11 = .ok (.invokestatic 101, 3) := by decide +kernel
theorem dX7_shown_14 : decode cX7_shown 14 = .ok (.ifCond .eq 13, 3) := by decide +kernel
theorem dX7_shown_17 : decode cX7_shown 17 = .ok (.iload 5, 2) := by decide +kernel
theorem dX7_shown_19 : decode cX7_shown 19 = .ok (.iconst (-1), 1) := by decide +kernel
theorem dX7_shown_20 : decode cX7_shown 20 = .ok (.if_icmp .eq 7, 3) := by decide +kernel
theorem dX7_shown_23 : decode cX7_shown 23 = .ok (.iconst 1, 1) := by decide +kernel
theorem dX7_shown_24 : decode cX7_shown 24 = .ok (.goto 4, 3) := by decide +kernel
theorem dX7_shown_27 : decode cX7_shown 27 = .ok (.iconst 0, 1) := by decide +kernel
theorem dX7_shown_28 : decode cX7_shown 28 = .ok (.istore 6, 2) := by decide +kernel
theorem dX7_shown_30 : decode cX7_shown 30 = .ok (.aload_n 0, 1) := by decide +kernel
theorem dX7_shown_31 : decode cX7_shown 31 = .ok (.iload 6, 2) := by decide +kernel
theorem dX7_shown_33 : decode cX7_shown 33 = .ok (.ifCond .ne 7, 3) := by decide +kernel
theorem dX7_shown_36 : decode cX7_shown 36 = .ok (.iconst 1, 1) := by decide +kernel
theorem dX7_shown_37 : decode cX7_shown 37 = .ok (.goto 21, 3) := by decide +kernel
theorem dX7_shown_40 : decode cX7_shown 40 = .ok (.aload_n 0, 1) := by decide +kernel
theorem dX7_shown_41 : decode cX7_shown 41 = .ok (.getfield 44, 3) := by decide +kernel
theorem dX7_shown_44 : decode cX7_shown 44 = .ok (.iconst 4, 1) := by decide +kernel
theorem dX7_shown_45 : decode cX7_shown 45 = .ok (.iload_n 1, 1) := by decide +kernel
theorem dX7_shown_46 : decode cX7_shown 46 = .ok (.imul, 1) := by decide +kernel
theorem dX7_shown_47 : decode cX7_shown 47 = .ok (.iload_n 2, 1) := by decide +kernel
theorem dX7_shown_48 : decode cX7_shown 48 = .ok (.iadd, 1) := by decide +kernel
theorem dX7_shown_49 : decode cX7_shown 49 = .ok (.baload, 1) := by decide +kernel
theorem dX7_shown_50 : decode cX7_shown 50 = .ok (.ifCond .eq 7, 3) := by decide +kernel
theorem dX7_shown_53 : decode cX7_shown 53 = .ok (.iconst 0, 1) := by decide +kernel
theorem dX7_shown_54 : decode cX7_shown 54 = .ok (.goto 4, 3) := by decide +kernel
theorem dX7_shown_57 : decode cX7_shown 57 = .ok (.iconst 2, 1) := by decide +kernel
theorem dX7_shown_58 : decode cX7_shown 58 = .ok (.invokevirtual 75, 3) := by decide +kernel
theorem dX7_shown_61 : decode cX7_shown 61 = .ok (.ifCond .eq 5, 3) := by decide +kernel
theorem dX7_shown_64 : decode cX7_shown 64 = .ok (.iconst 0, 1) := by decide +kernel
theorem dX7_shown_65 : decode cX7_shown 65 = .ok (.ireturn, 1) := by decide +kernel
theorem dX7_shown_66 : decode cX7_shown 66 = .ok (.aload_n 0, 1) := by decide +kernel
theorem dX7_shown_67 : decode cX7_shown 67 = .ok (.getfield 47, 3) := by decide +kernel
theorem dX7_shown_70 : decode cX7_shown 70 = .ok (.iconst 4, 1) := by decide +kernel
theorem dX7_shown_71 : decode cX7_shown 71 = .ok (.iload_n 1, 1) := by decide +kernel
theorem dX7_shown_72 : decode cX7_shown 72 = .ok (.imul, 1) := by decide +kernel
theorem dX7_shown_73 : decode cX7_shown 73 = .ok (.iload_n 2, 1) := by decide +kernel
theorem dX7_shown_74 : decode cX7_shown 74 = .ok (.iadd, 1) := by decide +kernel
theorem dX7_shown_75 : decode cX7_shown 75 = .ok (.iaload, 1) := by decide +kernel
theorem dX7_shown_76 : decode cX7_shown 76 = .ok (.iload 5, 2) := by decide +kernel
theorem dX7_shown_78 : decode cX7_shown 78 = .ok (.ishr, 1) := by decide +kernel
theorem dX7_shown_79 : decode cX7_shown 79 = .ok (.iconst 1, 1) := by decide +kernel
theorem dX7_shown_80 : decode cX7_shown 80 = .ok (.iand, 1) := by decide +kernel
theorem dX7_shown_81 : decode cX7_shown 81 = .ok (.iconst 1, 1) := by decide +kernel
theorem dX7_shown_82 : decode cX7_shown 82 = .ok (.if_icmp .ne 8, 3) := by decide +kernel
theorem dX7_shown_85 : decode cX7_shown 85 = .ok (.ldc 123, 2) := by decide +kernel
theorem dX7_shown_87 : decode cX7_shown 87 = .ok (.goto 10, 3) := by decide +kernel
theorem dX7_shown_90 : decode cX7_shown 90 = .ok (.aload_n 0, 1) := by decide +kernel
theorem dX7_shown_91 : decode cX7_shown 91 = .ok (.iload_n 1, 1) := by decide +kernel
theorem dX7_shown_92 : decode cX7_shown 92 = .ok (.iload 5, 2) := by decide +kernel
theorem dX7_shown_94 : decode cX7_shown 94 = .ok (.invokevirtual 86, 3) := by decide +kernel
theorem dX7_shown_97 : decode cX7_shown 97 = .ok (.ireturn, 1) := by decide +kernel
theorem dX7_why_0 : decode cX7_why 0 = .ok (.aload_n 0, 1) := by decide +kernel
theorem dX7_why_1 : decode cX7_why 1 = .ok (.iload_n 1, 1) := by decide +kernel
theorem dX7_why_2 : decode cX7_why 2 = .ok (.iload_n 3, 1) := by decide +kernel
theorem dX7_why_3 : decode cX7_why 3 = .ok (.iload 4, 2) := by decide +kernel
theorem dX7_why_5 : decode cX7_why 5 = .ok (.invokevirtual 82, 3) := by decide +kernel
theorem dX7_why_8 : decode cX7_why 8 = .ok (.istore 5, 2) := by decide +kernel
theorem dX7_why_10 : decode cX7_why 10 = .ok (.aload_n 0, 1) := by decide +kernel
theorem dX7_why_11 : decode cX7_why 11 = .ok (.iload_n 2, 1) := by decide +kernel
theorem dX7_why_12 : decode cX7_why 12 = .ok (.invokestatic 101, 3) := by decide +kernel
theorem dX7_why_15 : decode cX7_why 15 = .ok (.ifCond .eq 13, 3) := by decide +kernel
theorem dX7_why_18 : decode cX7_why 18 = .ok (.iload 5, 2) := by decide +kernel
theorem dX7_why_20 : decode cX7_why 20 = .ok (.iconst (-1), 1) := by decide +kernel
theorem dX7_why_21 : decode cX7_why 21 = .ok (.if_icmp .eq 7, 3) := by decide +kernel
theorem dX7_why_24 : decode cX7_why 24 = .ok (.iconst 0, 1) := by decide +kernel
theorem dX7_why_25 : decode cX7_why 25 = .ok (.goto 4, 3) := by decide +kernel
theorem dX7_why_28 : decode cX7_why 28 = .ok (.iconst 1, 1) := by decide +kernel
theorem dX7_why_29 : decode cX7_why 29 = .ok (.invokevirtual 75, 3) := by decide +kernel
theorem dX7_why_32 : decode cX7_why 32 = .ok (.ifCond .eq 5, 3) := by decide +kernel
theorem dX7_why_35 : decode cX7_why 35 = .ok (.iconst 0, 1) := by decide +kernel
theorem dX7_why_36 : decode cX7_why 36 = .ok (.ireturn, 1) := by decide +kernel
theorem dX7_why_37 : decode cX7_why 37 = .ok (.iconst 4, 1) := by decide +kernel
theorem dX7_why_38 : decode cX7_why 38 = .ok (.iload_n 1, 1) := by decide +kernel
theorem dX7_why_39 : decode cX7_why 39 = .ok (.imul, 1) := by decide +kernel
theorem dX7_why_40 : decode cX7_why 40 = .ok (.iload_n 2, 1) := by decide +kernel
theorem dX7_why_41 : decode cX7_why 41 = .ok (.iadd, 1) := by decide +kernel
theorem dX7_why_42 : decode cX7_why 42 = .ok (.istore 6, 2) := by decide +kernel
theorem dX7_why_44 : decode cX7_why 44 = .ok (.aload_n 0, 1) := by decide +kernel
theorem dX7_why_45 : decode cX7_why 45 = .ok (.getfield 44, 3) := by decide +kernel
theorem dX7_why_48 : decode cX7_why 48 = .ok (.iload 6, 2) := by decide +kernel
theorem dX7_why_50 : decode cX7_why 50 = .ok (.baload, 1) := by decide +kernel
theorem dX7_why_51 : decode cX7_why 51 = .ok (.ifCond .ne 5, 3) := by decide +kernel
theorem dX7_why_54 : decode cX7_why 54 = .ok (.iconst 3, 1) := by decide +kernel
theorem dX7_why_55 : decode cX7_why 55 = .ok (.ireturn, 1) := by decide +kernel
theorem dX7_why_56 : decode cX7_why 56 = .ok (.aload_n 0, 1) := by decide +kernel
theorem dX7_why_57 : decode cX7_why 57 = .ok (.getfield 50, 3) := by decide +kernel
theorem dX7_why_60 : decode cX7_why 60 = .ok (.iload 6, 2) := by decide +kernel
theorem dX7_why_62 : decode cX7_why 62 = .ok (.iaload, 1) := by decide +kernel
theorem dX7_why_63 : decode cX7_why 63 = .ok (.iload 5, 2) := by decide +kernel
theorem dX7_why_65 : decode cX7_why 65 = .ok (.ishr, 1) := by decide +kernel
theorem dX7_why_66 : decode cX7_why 66 = .ok (.iconst 1, 1) := by decide +kernel
theorem dX7_why_67 : decode cX7_why 67 = .ok (.iand, 1) := by decide +kernel
theorem dX7_why_68 : decode cX7_why 68 = .ok (.iconst 1, 1) := by decide +kernel
theorem dX7_why_69 : decode cX7_why 69 = .ok (.if_icmp .ne 7, 3) := by decide +kernel
theorem dX7_why_72 : decode cX7_why 72 = .ok (.iconst 1, 1) := by decide +kernel
theorem dX7_why_73 : decode cX7_why 73 = .ok (.goto 24, 3) := by decide +kernel
theorem dX7_why_76 : decode cX7_why 76 = .ok (.aload_n 0, 1) := by decide +kernel
theorem dX7_why_77 : decode cX7_why 77 = .ok (.getfield 47, 3) := by decide +kernel
theorem dX7_why_80 : decode cX7_why 80 = .ok (.iload 6, 2) := by decide +kernel
theorem dX7_why_82 : decode cX7_why 82 = .ok (.iaload, 1) := by decide +kernel
theorem dX7_why_83 : decode cX7_why 83 = .ok (.iload 5, 2) := by decide +kernel
theorem dX7_why_85 : decode cX7_why 85 = .ok (.ishr, 1) := by decide +kernel
theorem dX7_why_86 : decode cX7_why 86 = .ok (.iconst 1, 1) := by decide +kernel
theorem dX7_why_87 : decode cX7_why 87 = .ok (.iand, 1) := by decide +kernel
theorem dX7_why_88 : decode cX7_why 88 = .ok (.iconst 1, 1) := by decide +kernel
theorem dX7_why_89 : decode cX7_why 89 = .ok (.if_icmp .ne 7, 3) := by decide +kernel
theorem dX7_why_92 : decode cX7_why 92 = .ok (.iconst 2, 1) := by decide +kernel
theorem dX7_why_93 : decode cX7_why 93 = .ok (.goto 4, 3) := by decide +kernel
theorem dX7_why_96 : decode cX7_why 96 = .ok (.iconst 0, 1) := by decide +kernel
theorem dX7_why_97 : decode cX7_why 97 = .ok (.ireturn, 1) := by decide +kernel
theorem dX7_read_0 : decode cX7_read 0 = .ok (.iload_n 1, 1) := by decide +kernel
theorem dX7_read_1 : decode cX7_read 1 = .ok (.iload_n 2, 1) := by decide +kernel
theorem dX7_read_2 : decode cX7_read 2 = .ok (.invokestatic 117, 3) := by decide +kernel
theorem dX7_read_5 : decode cX7_read 5 = .ok (.istore_n 3, 1) := by decide +kernel
theorem dX7_read_6 : decode cX7_read 6 = .ok (.aload_n 0, 1) := by decide +kernel
theorem dX7_read_7 : decode cX7_read 7 = .ok (.iload_n 3, 1) := by decide +kernel
theorem dX7_read_8 : decode cX7_read 8 = .ok (.ifCond .ne 7, 3) := by decide +kernel
theorem dX7_read_11 : decode cX7_read 11 = .ok (.iconst 1, 1) := by decide +kernel
theorem dX7_read_12 : decode cX7_read 12 = .ok (.goto 21, 3) := by decide +kernel
theorem dX7_read_15 : decode cX7_read 15 = .ok (.aload_n 0, 1) := by decide +kernel
theorem dX7_read_16 : decode cX7_read 16 = .ok (.getfield 44, 3) := by decide +kernel
theorem dX7_read_19 : decode cX7_read 19 = .ok (.iconst 4, 1) := by decide +kernel
theorem dX7_read_20 : decode cX7_read 20 = .ok (.iload_n 1, 1) := by decide +kernel
theorem dX7_read_21 : decode cX7_read 21 = .ok (.imul, 1) := by decide +kernel
theorem dX7_read_22 : decode cX7_read 22 = .ok (.iload_n 2, 1) := by decide +kernel
theorem dX7_read_23 : decode cX7_read 23 = .ok (.iadd, 1) := by decide +kernel
theorem dX7_read_24 : decode cX7_read 24 = .ok (.baload, 1) := by decide +kernel
theorem dX7_read_25 : decode cX7_read 25 = .ok (.ifCond .eq 7, 3) := by decide +kernel
theorem dX7_read_28 : decode cX7_read 28 = .ok (.iconst 0, 1) := by decide +kernel
theorem dX7_read_29 : decode cX7_read 29 = .ok (.goto 4, 3) := by decide +kernel
theorem dX7_read_32 : decode cX7_read 32 = .ok (.iconst 2, 1) := by decide +kernel
theorem dX7_read_33 : decode cX7_read 33 = .ok (.invokevirtual 75, 3) := by decide +kernel
theorem dX7_read_36 : decode cX7_read 36 = .ok (.ifCond .eq 5, 3) := by decide +kernel
theorem dX7_read_39 : decode cX7_read 39 = .ok (.iconst 0, 1) := by decide +kernel
theorem dX7_read_40 : decode cX7_read 40 = .ok (.ireturn, 1) := by decide +kernel
theorem dX7_read_41 : decode cX7_read 41 = .ok (.iconst 0, 1) := by decide +kernel
theorem dX7_read_42 : decode cX7_read 42 = .ok (.istore 4, 2) := by decide +kernel
theorem dX7_read_44 : decode cX7_read 44 = .ok (.iconst 0, 1) := by decide +kernel
theorem dX7_read_45 : decode cX7_read 45 = .ok (.istore 5, 2) := by decide +kernel
theorem dX7_read_47 : decode cX7_read 47 = .ok (.iload 5, 2) := by decide +kernel
theorem dX7_read_49 : decode cX7_read 49 = .ok (.aload_n 0, 1) := by decide +kernel
theorem dX7_read_50 : decode cX7_read 50 = .ok (.getfield 72, 3) := by decide +kernel
theorem dX7_read_53 : decode cX7_read 53 = .ok (.if_icmp .ge 40, 3) := by decide +kernel
theorem dX7_read_56 : decode cX7_read 56 = .ok (.iload 4, 2) := by decide +kernel
theorem dX7_read_58 : decode cX7_read 58 = .ok (.aload_n 0, 1) := by decide +kernel
theorem dX7_read_59 : decode cX7_read 59 = .ok (.getfield 7, 3) := by decide +kernel
theorem dX7_read_62 : decode cX7_read 62 = .ok (.iload 5, 2) := by decide +kernel
theorem dX7_read_64 : decode cX7_read 64 = .ok (.iaload, 1) := by decide +kernel
theorem dX7_read_65 : decode cX7_read 65 = .ok (.iload_n 1, 1) := by decide +kernel
theorem dX7_read_66 : decode cX7_read 66 = .ok (.if_icmp .ne 17, 3) := by decide +kernel
theorem dX7_read_69 : decode cX7_read 69 = .ok (.aload_n 0, 1) := by decide +kernel
theorem dX7_read_70 : decode cX7_read 70 = .ok (.getfield 22, 3) := by decide +kernel
theorem dX7_read_73 : decode cX7_read 73 = .ok (.iload 5, 2) := by decide +kernel
theorem dX7_read_75 : decode cX7_read 75 = .ok (.baload, 1) := by decide +kernel
theorem dX7_read_76 : decode cX7_read 76 = .ok (.ifCond .ne 7, 3) := by decide +kernel
theorem dX7_read_79 : decode cX7_read 79 = .ok (.iconst 1, 1) := by decide +kernel
theorem dX7_read_80 : decode cX7_read 80 = .ok (.goto 4, 3) := by decide +kernel
theorem dX7_read_83 : decode cX7_read 83 = .ok (.iconst 0, 1) := by decide +kernel
theorem dX7_read_84 : decode cX7_read 84 = .ok (.iadd, 1) := by decide +kernel
theorem dX7_read_85 : decode cX7_read 85 = .ok (.istore 4, 2) := by decide +kernel
theorem dX7_read_87 : decode cX7_read 87 = .ok (.iinc 5 1, 3) := by decide +kernel
theorem dX7_read_90 : decode cX7_read 90 = .ok (.goto (-43), 3) := by decide +kernel
theorem dX7_read_93 : decode cX7_read 93 = .ok (.iload 4, 2) := by decide +kernel
theorem dX7_read_95 : decode cX7_read 95 = .ok (.ireturn, 1) := by decide +kernel
theorem dX7_dropped_0 : decode cX7_dropped 0 = .ok (.aload_n 0, 1) := by decide +kernel
theorem dX7_dropped_1 : decode cX7_dropped 1 = .ok (.iconst 0, 1) := by decide +kernel
theorem dX7_dropped_2 : decode cX7_dropped 2 = .ok (.putfield 53, 3) := by decide +kernel
theorem dX7_dropped_5 : decode cX7_dropped 5 = .ok (.aload_n 0, 1) := by decide +kernel
theorem dX7_dropped_6 : decode cX7_dropped 6 = .ok (.getfield 69, 3) := by decide +kernel
theorem dX7_dropped_9 : decode cX7_dropped 9 = .ok (.ireturn, 1) := by decide +kernel
theorem dX7_noEntry_0 : decode cX7_noEntry 0 = .ok (.aload_n 0, 1) := by decide +kernel
theorem dX7_noEntry_1 : decode cX7_noEntry 1 = .ok (.iload_n 1, 1) := by decide +kernel
theorem dX7_noEntry_2 : decode cX7_noEntry 2 = .ok (.iload_n 2, 1) := by decide +kernel
theorem dX7_noEntry_3 : decode cX7_noEntry 3 = .ok (.invokestatic 65, 3) := by decide +kernel
theorem dX7_noEntry_6 : decode cX7_noEntry 6 = .ok (.ifCond .eq 7, 3) := by decide +kernel
theorem dX7_noEntry_9 : decode cX7_noEntry 9 = .ok (.iconst 0, 1) := by decide +kernel
theorem dX7_noEntry_10 : decode cX7_noEntry 10 = .ok (.goto 4, 3) := by decide +kernel
theorem dX7_noEntry_13 : decode cX7_noEntry 13 = .ok (.iconst 1, 1) := by decide +kernel
theorem dX7_noEntry_14 : decode cX7_noEntry 14 = .ok (.invokevirtual 75, 3) := by decide +kernel
theorem dX7_noEntry_17 : decode cX7_noEntry 17 = .ok (.ireturn, 1) := by decide +kernel
theorem dX7_mark_0 : decode cX7_mark 0 = .ok (.aload_n 0, 1) := by decide +kernel
theorem dX7_mark_1 : decode cX7_mark 1 = .ok (.iload_n 1, 1) := by decide +kernel
theorem dX7_mark_2 : decode cX7_mark 2 = .ok (.iload_n 2, 1) := by decide +kernel
theorem dX7_mark_3 : decode cX7_mark 3 = .ok (.invokevirtual 124, 3) := by decide +kernel
theorem dX7_mark_6 : decode cX7_mark 6 = .ok (.ifCond .eq 5, 3) := by decide +kernel
theorem dX7_mark_9 : decode cX7_mark 9 = .ok (.iconst 0, 1) := by decide +kernel
theorem dX7_mark_10 : decode cX7_mark 10 = .ok (.ireturn, 1) := by decide +kernel
theorem dX7_mark_11 : decode cX7_mark 11 = .ok (.aload_n 0, 1) := by decide +kernel
theorem dX7_mark_12 : decode cX7_mark 12 = .ok (.dup, 1) := by decide +kernel
theorem dX7_mark_13 : decode cX7_mark 13 = .ok (.getfield 127, 3) := by decide +kernel
theorem dX7_mark_16 : decode cX7_mark 16 = .ok (.iconst 1, 1) := by decide +kernel
theorem dX7_mark_17 : decode cX7_mark 17 = .ok (.bipush 6, 2) := by decide +kernel
theorem dX7_mark_19 : decode cX7_mark 19 = .ok (.iload_n 1, 1) := by decide +kernel
theorem dX7_mark_20 : decode cX7_mark 20 = .ok (.imul, 1) := by decide +kernel
theorem dX7_mark_21 : decode cX7_mark 21 = .ok (.iload_n 2, 1) := by decide +kernel
theorem dX7_mark_22 : decode cX7_mark 22 = .ok (.iadd, 1) := by decide +kernel
theorem dX7_mark_23 : decode cX7_mark 23 = .ok (.ishl, 1) := by decide +kernel
theorem dX7_mark_24 : decode cX7_mark 24 = .ok (.ixor, 1) := by decide +kernel
theorem dX7_mark_25 : decode cX7_mark 25 = .ok (.putfield 127, 3) := by decide +kernel
theorem dX7_mark_28 : decode cX7_mark 28 = .ok (.aload_n 0, 1) := by decide +kernel
theorem dX7_mark_29 : decode cX7_mark 29 = .ok (.getfield 127, 3) := by decide +kernel
theorem dX7_mark_32 : decode cX7_mark 32 = .ok (.bipush 6, 2) := by decide +kernel
theorem dX7_mark_34 : decode cX7_mark 34 = .ok (.iload_n 1, 1) := by decide +kernel
theorem dX7_mark_35 : decode cX7_mark 35 = .ok (.imul, 1) := by decide +kernel
theorem dX7_mark_36 : decode cX7_mark 36 = .ok (.iload_n 2, 1) := by decide +kernel
theorem dX7_mark_37 : decode cX7_mark 37 = .ok (.iadd, 1) := by decide +kernel
theorem dX7_mark_38 : decode cX7_mark 38 = .ok (.ishr, 1) := by decide +kernel
theorem dX7_mark_39 : decode cX7_mark 39 = .ok (.iconst 1, 1) := by decide +kernel
theorem dX7_mark_40 : decode cX7_mark 40 = .ok (.iand, 1) := by decide +kernel
theorem dX7_mark_41 : decode cX7_mark 41 = .ok (.iconst 1, 1) := by decide +kernel
theorem dX7_mark_42 : decode cX7_mark 42 = .ok (.if_icmp .ne 7, 3) := by decide +kernel
theorem dX7_mark_45 : decode cX7_mark 45 = .ok (.iconst 1, 1) := by decide +kernel
theorem dX7_mark_46 : decode cX7_mark 46 = .ok (.goto 4, 3) := by decide +kernel
theorem dX7_mark_49 : decode cX7_mark 49 = .ok (.iconst 0, 1) := by decide +kernel
theorem dX7_mark_50 : decode cX7_mark 50 = .ok (.ireturn, 1) := by decide +kernel
theorem dX7_clear_0 : decode cX7_clear 0 = .ok (.aload_n 0, 1) := by decide +kernel
theorem dX7_clear_1 : decode cX7_clear 1 = .ok (.iconst 0, 1) := by decide +kernel
theorem dX7_clear_2 : decode cX7_clear 2 = .ok (.putfield 53, 3) := by decide +kernel
theorem dX7_clear_5 : decode cX7_clear 5 = .ok (.aload_n 0, 1) := by decide +kernel
theorem dX7_clear_6 : decode cX7_clear 6 = .ok (.getfield 127, 3) := by decide +kernel
theorem dX7_clear_9 : decode cX7_clear 9 = .ok (.invokestatic 113, 3) := by decide +kernel
theorem dX7_clear_12 : decode cX7_clear 12 = .ok (.istore_n 1, 1) := by decide +kernel
theorem dX7_clear_13 : decode cX7_clear 13 = .ok (.aload_n 0, 1) := by decide +kernel
theorem dX7_clear_14 : decode cX7_clear 14 = .ok (.iconst 0, 1) := by decide +kernel
theorem dX7_clear_15 : decode cX7_clear 15 = .ok (.putfield 127, 3) := by decide +kernel
theorem dX7_clear_18 : decode cX7_clear 18 = .ok (.iload_n 1, 1) := by decide +kernel
theorem dX7_clear_19 : decode cX7_clear 19 = .ok (.ireturn, 1) := by decide +kernel
theorem dX7_isKnown_0 : decode cX7_isKnown 0 = .ok (.aload_n 0, 1) := by decide +kernel
theorem dX7_isKnown_1 : decode cX7_isKnown 1 = .ok (.iload_n 1, 1) := by decide +kernel
theorem dX7_isKnown_2 : decode cX7_isKnown 2 = .ok (.iload_n 2, 1) := by decide +kernel
theorem dX7_isKnown_3 : decode cX7_isKnown 3 = .ok (.invokevirtual 124, 3) := by decide +kernel
theorem dX7_isKnown_6 : decode cX7_isKnown 6 = .ok (.ifCond .eq 5, 3) := by decide +kernel
theorem dX7_isKnown_9 : decode cX7_isKnown 9 = .ok (.iconst 0, 1) := by decide +kernel
theorem dX7_isKnown_10 : decode cX7_isKnown 10 = .ok (.ireturn, 1) := by decide +kernel
theorem dX7_isKnown_11 : decode cX7_isKnown 11 = .ok (.bipush 6, 2) := by decide +kernel
theorem dX7_isKnown_13 : decode cX7_isKnown 13 = .ok (.iload_n 1, 1) := by decide +kernel
theorem dX7_isKnown_14 : decode cX7_isKnown 14 = .ok (.imul, 1) := by decide +kernel
theorem dX7_isKnown_15 : decode cX7_isKnown 15 = .ok (.iload_n 2, 1) := by decide +kernel
theorem dX7_isKnown_16 : decode cX7_isKnown 16 = .ok (.iadd, 1) := by decide +kernel
theorem dX7_isKnown_17 : decode cX7_isKnown 17 = .ok (.istore_n 3, 1) := by decide +kernel
theorem dX7_isKnown_18 : decode cX7_isKnown 18 = .ok (.aload_n 0, 1) := by decide +kernel
theorem dX7_isKnown_19 : decode cX7_isKnown 19 = .ok (.getfield 127, 3) := by decide +kernel
theorem dX7_isKnown_22 : decode cX7_isKnown 22 = .ok (.iload_n 3, 1) := by decide +kernel
theorem dX7_isKnown_23 : decode cX7_isKnown 23 = .ok (.ishr, 1) := by decide +kernel
theorem dX7_isKnown_24 : decode cX7_isKnown 24 = .ok (.iconst 1, 1) := by decide +kernel
theorem dX7_isKnown_25 : decode cX7_isKnown 25 = .ok (.iand, 1) := by decide +kernel
theorem dX7_isKnown_26 : decode cX7_isKnown 26 = .ok (.ifCond .eq 14, 3) := by decide +kernel
theorem dX7_isKnown_29 : decode cX7_isKnown 29 = .ok (.aload_n 0, 1) := by decide +kernel
theorem dX7_isKnown_30 : decode cX7_isKnown 30 = .ok (.getfield 127, 3) := by decide +kernel
theorem dX7_isKnown_33 : decode cX7_isKnown 33 = .ok (.iload_n 3, 1) := by decide +kernel
theorem dX7_isKnown_34 : decode cX7_isKnown 34 = .ok (.invokestatic 107, 3) := by decide +kernel
theorem dX7_isKnown_37 : decode cX7_isKnown 37 = .ok (.ifCond .eq 7, 3) := by decide +kernel
theorem dX7_isKnown_40 : decode cX7_isKnown 40 = .ok (.iconst 1, 1) := by decide +kernel
theorem dX7_isKnown_41 : decode cX7_isKnown 41 = .ok (.goto 4, 3) := by decide +kernel
theorem dX7_isKnown_44 : decode cX7_isKnown 44 = .ok (.iconst 0, 1) := by decide +kernel
theorem dX7_isKnown_45 : decode cX7_isKnown 45 = .ok (.ireturn, 1) := by decide +kernel
theorem dX7_isKnownBySolving_0 : decode cX7_isKnownBySolving 0 = .ok (.aload_n 0, 1) := by decide +kernel
theorem dX7_isKnownBySolving_1 : decode cX7_isKnownBySolving 1 = .ok (.iload_n 1, 1) := by decide +kernel
theorem dX7_isKnownBySolving_2 : decode cX7_isKnownBySolving 2 = .ok (.iload_n 2, 1) := by decide +kernel
theorem dX7_isKnownBySolving_3 : decode cX7_isKnownBySolving 3 = .ok (.invokevirtual 130, 3) := by decide +kernel
theorem dX7_isKnownBySolving_6 : decode cX7_isKnownBySolving 6 = .ok (.ireturn, 1) := by decide +kernel
theorem dX7_cover_0 : decode cX7_cover 0 = .ok (.aload_n 0, 1) := by decide +kernel
theorem dX7_cover_1 : decode cX7_cover 1 = .ok (.iconst 0, 1) := by decide +kernel
theorem dX7_cover_2 : decode cX7_cover 2 = .ok (.putfield 53, 3) := by decide +kernel
theorem dX7_cover_5 : decode cX7_cover 5 = .ok (.aload_n 0, 1) := by decide +kernel
theorem dX7_cover_6 : decode cX7_cover 6 = .ok (.getfield 127, 3) := by decide +kernel
theorem dX7_cover_9 : decode cX7_cover 9 = .ok (.invokestatic 113, 3) := by decide +kernel
theorem dX7_cover_12 : decode cX7_cover 12 = .ok (.istore_n 1, 1) := by decide +kernel
theorem dX7_cover_13 : decode cX7_cover 13 = .ok (.aload_n 0, 1) := by decide +kernel
theorem dX7_cover_14 : decode cX7_cover 14 = .ok (.aload_n 0, 1) := by decide +kernel
theorem dX7_cover_15 : decode cX7_cover 15 = .ok (.getfield 127, 3) := by decide +kernel
theorem dX7_cover_18 : decode cX7_cover 18 = .ok (.invokestatic 120, 3) := by decide +kernel
theorem dX7_cover_21 : decode cX7_cover 21 = .ok (.putfield 127, 3) := by decide +kernel
theorem dX7_cover_24 : decode cX7_cover 24 = .ok (.aload_n 0, 1) := by decide +kernel
theorem dX7_cover_25 : decode cX7_cover 25 = .ok (.getfield 127, 3) := by decide +kernel
theorem dX7_cover_28 : decode cX7_cover 28 = .ok (.invokestatic 113, 3) := by decide +kernel
theorem dX7_cover_31 : decode cX7_cover 31 = .ok (.iload_n 1, 1) := by decide +kernel
theorem dX7_cover_32 : decode cX7_cover 32 = .ok (.isub, 1) := by decide +kernel
theorem dX7_cover_33 : decode cX7_cover 33 = .ok (.ireturn, 1) := by decide +kernel
theorem dJ6_bitCount_0f7a4_0 : decode cJ6_bitCount_0f7a4 0 = .ok (.iload_n 0, 1) := by decide +kernel
theorem dJ6_bitCount_0f7a4_1 : decode cJ6_bitCount_0f7a4 1 = .ok (.iload_n 0, 1) := by decide +kernel
theorem dJ6_bitCount_0f7a4_2 : decode cJ6_bitCount_0f7a4 2 = .ok (.iconst 1, 1) := by decide +kernel
theorem dJ6_bitCount_0f7a4_3 : decode cJ6_bitCount_0f7a4 3 = .ok (.iushr, 1) := by decide +kernel
theorem dJ6_bitCount_0f7a4_4 : decode cJ6_bitCount_0f7a4 4 = .ok (.ldc_w 265, 3) := by decide +kernel
theorem dJ6_bitCount_0f7a4_7 : decode cJ6_bitCount_0f7a4 7 = .ok (.iand, 1) := by decide +kernel
theorem dJ6_bitCount_0f7a4_8 : decode cJ6_bitCount_0f7a4 8 = .ok (.isub, 1) := by decide +kernel
theorem dJ6_bitCount_0f7a4_9 : decode cJ6_bitCount_0f7a4 9 = .ok (.istore_n 0, 1) := by decide +kernel
theorem dJ6_bitCount_0f7a4_10 : decode cJ6_bitCount_0f7a4 10 = .ok (.iload_n 0, 1) := by decide +kernel
theorem dJ6_bitCount_0f7a4_11 : decode cJ6_bitCount_0f7a4 11 = .ok (.ldc_w 266, 3) := by decide +kernel
theorem dJ6_bitCount_0f7a4_14 : decode cJ6_bitCount_0f7a4 14 = .ok (.iand, 1) := by decide +kernel
theorem dJ6_bitCount_0f7a4_15 : decode cJ6_bitCount_0f7a4 15 = .ok (.iload_n 0, 1) := by decide +kernel
theorem dJ6_bitCount_0f7a4_16 : decode cJ6_bitCount_0f7a4 16 = .ok (.iconst 2, 1) := by decide +kernel
theorem dJ6_bitCount_0f7a4_17 : decode cJ6_bitCount_0f7a4 17 = .ok (.iushr, 1) := by decide +kernel
theorem dJ6_bitCount_0f7a4_18 : decode cJ6_bitCount_0f7a4 18 = .ok (.ldc_w 266, 3) := by decide +kernel
theorem dJ6_bitCount_0f7a4_21 : decode cJ6_bitCount_0f7a4 21 = .ok (.iand, 1) := by decide +kernel
theorem dJ6_bitCount_0f7a4_22 : decode cJ6_bitCount_0f7a4 22 = .ok (.iadd, 1) := by decide +kernel
theorem dJ6_bitCount_0f7a4_23 : decode cJ6_bitCount_0f7a4 23 = .ok (.istore_n 0, 1) := by decide +kernel
theorem dJ6_bitCount_0f7a4_24 : decode cJ6_bitCount_0f7a4 24 = .ok (.iload_n 0, 1) := by decide +kernel
theorem dJ6_bitCount_0f7a4_25 : decode cJ6_bitCount_0f7a4 25 = .ok (.iload_n 0, 1) := by decide +kernel
theorem dJ6_bitCount_0f7a4_26 : decode cJ6_bitCount_0f7a4 26 = .ok (.iconst 4, 1) := by decide +kernel
theorem dJ6_bitCount_0f7a4_27 : decode cJ6_bitCount_0f7a4 27 = .ok (.iushr, 1) := by decide +kernel
theorem dJ6_bitCount_0f7a4_28 : decode cJ6_bitCount_0f7a4 28 = .ok (.iadd, 1) := by decide +kernel
theorem dJ6_bitCount_0f7a4_29 : decode cJ6_bitCount_0f7a4 29 = .ok (.ldc_w 267, 3) := by decide +kernel
theorem dJ6_bitCount_0f7a4_32 : decode cJ6_bitCount_0f7a4 32 = .ok (.iand, 1) := by decide +kernel
theorem dJ6_bitCount_0f7a4_33 : decode cJ6_bitCount_0f7a4 33 = .ok (.istore_n 0, 1) := by decide +kernel
theorem dJ6_bitCount_0f7a4_34 : decode cJ6_bitCount_0f7a4 34 = .ok (.iload_n 0, 1) := by decide +kernel
theorem dJ6_bitCount_0f7a4_35 : decode cJ6_bitCount_0f7a4 35 = .ok (.iload_n 0, 1) := by decide +kernel
theorem dJ6_bitCount_0f7a4_36 : decode cJ6_bitCount_0f7a4 36 = .ok (.bipush 8, 2) := by decide +kernel
theorem dJ6_bitCount_0f7a4_38 : decode cJ6_bitCount_0f7a4 38 = .ok (.iushr, 1) := by decide +kernel
theorem dJ6_bitCount_0f7a4_39 : decode cJ6_bitCount_0f7a4 39 = .ok (.iadd, 1) := by decide +kernel
theorem dJ6_bitCount_0f7a4_40 : decode cJ6_bitCount_0f7a4 40 = .ok (.istore_n 0, 1) := by decide +kernel
theorem dJ6_bitCount_0f7a4_41 : decode cJ6_bitCount_0f7a4 41 = .ok (.iload_n 0, 1) := by decide +kernel
theorem dJ6_bitCount_0f7a4_42 : decode cJ6_bitCount_0f7a4 42 = .ok (.iload_n 0, 1) := by decide +kernel
theorem dJ6_bitCount_0f7a4_43 : decode cJ6_bitCount_0f7a4 43 = .ok (.bipush 16, 2) := by decide +kernel
theorem dJ6_bitCount_0f7a4_45 : decode cJ6_bitCount_0f7a4 45 = .ok (.iushr, 1) := by decide +kernel
theorem dJ6_bitCount_0f7a4_46 : decode cJ6_bitCount_0f7a4 46 = .ok (.iadd, 1) := by decide +kernel
theorem dJ6_bitCount_0f7a4_47 : decode cJ6_bitCount_0f7a4 47 = .ok (.istore_n 0, 1) := by decide +kernel
theorem dJ6_bitCount_0f7a4_48 : decode cJ6_bitCount_0f7a4 48 = .ok (.iload_n 0, 1) := by decide +kernel
theorem dJ6_bitCount_0f7a4_49 : decode cJ6_bitCount_0f7a4 49 = .ok (.bipush 63, 2) := by decide +kernel
theorem dJ6_bitCount_0f7a4_51 : decode cJ6_bitCount_0f7a4 51 = .ok (.iand, 1) := by decide +kernel
theorem dJ6_bitCount_0f7a4_52 : decode cJ6_bitCount_0f7a4 52 = .ok (.ireturn, 1) := by decide +kernel
theorem dL_sale_0 : decode cL_sale 0 = .ok (.aload 5, 2) := by decide +kernel
theorem dL_sale_2 : decode cL_sale 2 = .ok (.iconst 0, 1) := by decide +kernel
theorem dL_sale_3 : decode cL_sale 3 = .ok (.aload_n 0, 1) := by decide +kernel
theorem dL_sale_4 : decode cL_sale 4 = .ok (.iload_n 1, 1) := by decide +kernel
theorem dL_sale_5 : decode cL_sale 5 = .ok (.iload_n 2, 1) := by decide +kernel
theorem dL_sale_6 : decode cL_sale 6 = .ok (.iload_n 3, 1) := by decide +kernel
theorem dL_sale_7 : decode cL_sale 7 = .ok (.iload 4, 2) := by decide +kernel
theorem dL_sale_9 : decode cL_sale 9 = .ok (.invokevirtual 7, 3) := by decide +kernel
theorem dL_sale_12 : decode cL_sale 12 = .ok (.i2l, 1) := by decide +kernel
theorem dL_sale_13 : decode cL_sale 13 = .ok (.lastore, 1) := by decide +kernel
theorem dL_sale_14 : decode cL_sale 14 = .ok (.goto 15, 3) := by decide +kernel
theorem dL_sale_17 : decode cL_sale 17 = .ok (.astore 6, 2) := by decide +kernel
theorem dL_sale_19 : decode cL_sale 19 = .ok (.iconst 1, 1) := by decide +kernel
theorem dL_sale_20 : decode cL_sale 20 = .ok (.ireturn, 1) := by decide +kernel
theorem dL_sale_21 : decode cL_sale 21 = .ok (.astore 6, 2) := by decide +kernel
theorem dL_sale_23 : decode cL_sale 23 = .ok (.iconst 2, 1) := by decide +kernel
theorem dL_sale_24 : decode cL_sale 24 = .ok (.ireturn, 1) := by decide +kernel
theorem dL_sale_25 : decode cL_sale 25 = .ok (.astore 6, 2) := by decide +kernel
theorem dL_sale_27 : decode cL_sale 27 = .ok (.iconst 3, 1) := by decide +kernel
theorem dL_sale_28 : decode cL_sale 28 = .ok (.ireturn, 1) := by decide +kernel
theorem dL_sale_29 : decode cL_sale 29 = .ok (.iconst 0, 1) := by decide +kernel
theorem dL_sale_30 : decode cL_sale 30 = .ok (.ireturn, 1) := by decide +kernel
theorem dL_takeBack_0 : decode cL_takeBack 0 = .ok (.aload_n 2, 1) := by decide +kernel
theorem dL_takeBack_1 : decode cL_takeBack 1 = .ok (.iconst 0, 1) := by decide +kernel
theorem dL_takeBack_2 : decode cL_takeBack 2 = .ok (.aload_n 0, 1) := by decide +kernel
theorem dL_takeBack_3 : decode cL_takeBack 3 = .ok (.iload_n 1, 1) := by decide +kernel
theorem dL_takeBack_4 : decode cL_takeBack 4 = .ok (.invokevirtual 19, 3) := by decide +kernel
theorem dL_takeBack_7 : decode cL_takeBack 7 = .ok (.i2l, 1) := by decide +kernel
theorem dL_takeBack_8 : decode cL_takeBack 8 = .ok (.lastore, 1) := by decide +kernel
theorem dL_takeBack_9 : decode cL_takeBack 9 = .ok (.goto 9, 3) := by decide +kernel
theorem dL_takeBack_12 : decode cL_takeBack 12 = .ok (.astore_n 3, 1) := by decide +kernel
theorem dL_takeBack_13 : decode cL_takeBack 13 = .ok (.iconst 1, 1) := by decide +kernel
theorem dL_takeBack_14 : decode cL_takeBack 14 = .ok (.ireturn, 1) := by decide +kernel
theorem dL_takeBack_15 : decode cL_takeBack 15 = .ok (.astore_n 3, 1) := by decide +kernel
theorem dL_takeBack_16 : decode cL_takeBack 16 = .ok (.iconst 2, 1) := by decide +kernel
theorem dL_takeBack_17 : decode cL_takeBack 17 = .ok (.ireturn, 1) := by decide +kernel
theorem dL_takeBack_18 : decode cL_takeBack 18 = .ok (.iconst 0, 1) := by decide +kernel
theorem dL_takeBack_19 : decode cL_takeBack 19 = .ok (.ireturn, 1) := by decide +kernel
theorem dL_turn_0 : decode cL_turn 0 = .ok (.aload_n 2, 1) := by decide +kernel
theorem dL_turn_1 : decode cL_turn 1 = .ok (.iconst 0, 1) := by decide +kernel
theorem dL_turn_2 : decode cL_turn 2 = .ok (.aload_n 0, 1) := by decide +kernel
theorem dL_turn_3 : decode cL_turn 3 = .ok (.iload_n 1, 1) := by decide +kernel
theorem dL_turn_4 : decode cL_turn 4 = .ok (.invokevirtual 23, 3) := by decide +kernel
theorem dL_turn_7 : decode cL_turn 7 = .ok (.ifCond .eq 7, 3) := by decide +kernel
theorem dL_turn_10 : decode cL_turn 10 = .ok (.lconst 1, 1) := by decide +kernel
theorem dL_turn_11 : decode cL_turn 11 = .ok (.goto 4, 3) := by decide +kernel
theorem dL_turn_14 : decode cL_turn 14 = .ok (.lconst 0, 1) := by decide +kernel
theorem dL_turn_15 : decode cL_turn 15 = .ok (.lastore, 1) := by decide +kernel
theorem dL_turn_16 : decode cL_turn 16 = .ok (.goto 6, 3) := by decide +kernel
theorem dL_turn_19 : decode cL_turn 19 = .ok (.astore_n 3, 1) := by decide +kernel
theorem dL_turn_20 : decode cL_turn 20 = .ok (.iconst 1, 1) := by decide +kernel
theorem dL_turn_21 : decode cL_turn 21 = .ok (.ireturn, 1) := by decide +kernel
theorem dL_turn_22 : decode cL_turn 22 = .ok (.iconst 0, 1) := by decide +kernel
theorem dL_turn_23 : decode cL_turn 23 = .ok (.ireturn, 1) := by decide +kernel
theorem dL_sum_0 : decode cL_sum 0 = .ok (.aload 4, 2) := by decide +kernel
theorem dL_sum_2 : decode cL_sum 2 = .ok (.iconst 0, 1) := by decide +kernel
theorem dL_sum_3 : decode cL_sum 3 = .ok (.aload_n 0, 1) := by decide +kernel
theorem dL_sum_4 : decode cL_sum 4 = .ok (.iload_n 1, 1) := by decide +kernel
theorem dL_sum_5 : decode cL_sum 5 = .ok (.iload_n 2, 1) := by decide +kernel
theorem dL_sum_6 : decode cL_sum 6 = .ok (.iload_n 3, 1) := by decide +kernel
theorem dL_sum_7 : decode cL_sum 7 = .ok (.invokevirtual 27, 3) := by decide +kernel
theorem dL_sum_10 : decode cL_sum 10 = .ok (.i2l, 1) := by decide +kernel
theorem dL_sum_11 : decode cL_sum 11 = .ok (.lastore, 1) := by decide +kernel
theorem dL_sum_12 : decode cL_sum 12 = .ok (.goto 7, 3) := by decide +kernel
theorem dL_sum_15 : decode cL_sum 15 = .ok (.astore 5, 2) := by decide +kernel
theorem dL_sum_17 : decode cL_sum 17 = .ok (.iconst 1, 1) := by decide +kernel
theorem dL_sum_18 : decode cL_sum 18 = .ok (.ireturn, 1) := by decide +kernel
theorem dL_sum_19 : decode cL_sum 19 = .ok (.iconst 0, 1) := by decide +kernel
theorem dL_sum_20 : decode cL_sum 20 = .ok (.ireturn, 1) := by decide +kernel
theorem dL_sumFromSales_0 : decode cL_sumFromSales 0 = .ok (.aload 4, 2) := by decide +kernel
theorem dL_sumFromSales_2 : decode cL_sumFromSales 2 = .ok (.iconst 0, 1) := by decide +kernel
theorem dL_sumFromSales_3 : decode cL_sumFromSales 3 = .ok (.aload_n 0, 1) := by decide +kernel
theorem dL_sumFromSales_4 : decode cL_sumFromSales 4 = .ok (.iload_n 1, 1) := by decide +kernel
theorem dL_sumFromSales_5 : decode cL_sumFromSales 5 = .ok (.iload_n 2, 1) := by decide +kernel
theorem dL_sumFromSales_6 : decode cL_sumFromSales 6 = .ok (.iload_n 3, 1) := by decide +kernel
theorem dL_sumFromSales_7 : decode cL_sumFromSales 7 = .ok (.invokevirtual 31, 3) := by decide +kernel
theorem dL_sumFromSales_10 : decode cL_sumFromSales 10 = .ok (.i2l, 1) := by decide +kernel
theorem dL_sumFromSales_11 : decode cL_sumFromSales 11 = .ok (.lastore, 1) := by decide +kernel
theorem dL_sumFromSales_12 : decode cL_sumFromSales 12 = .ok (.goto 7, 3) := by decide +kernel
theorem dL_sumFromSales_15 : decode cL_sumFromSales 15 = .ok (.astore 5, 2) := by decide +kernel
theorem dL_sumFromSales_17 : decode cL_sumFromSales 17 = .ok (.iconst 1, 1) := by decide +kernel
theorem dL_sumFromSales_18 : decode cL_sumFromSales 18 = .ok (.ireturn, 1) := by decide +kernel
theorem dL_sumFromSales_19 : decode cL_sumFromSales 19 = .ok (.iconst 0, 1) := by decide +kernel
theorem dL_sumFromSales_20 : decode cL_sumFromSales 20 = .ok (.ireturn, 1) := by decide +kernel
theorem dL_embargo_0 : decode cL_embargo 0 = .ok (.aload 6, 2) := by decide +kernel
theorem dL_embargo_2 : decode cL_embargo 2 = .ok (.iconst 0, 1) := by decide +kernel
theorem dL_embargo_3 : decode cL_embargo 3 = .ok (.aload_n 0, 1) := by decide +kernel
theorem dL_embargo_4 : decode cL_embargo 4 = .ok (.iload_n 1, 1) := by decide +kernel
theorem dL_embargo_5 : decode cL_embargo 5 = .ok (.iload_n 2, 1) := by decide +kernel
theorem dL_embargo_6 : decode cL_embargo 6 = .ok (.iload_n 3, 1) := by decide +kernel
theorem dL_embargo_7 : decode cL_embargo 7 = .ok (.iload 4, 2) := by decide +kernel
theorem dL_embargo_9 : decode cL_embargo 9 = .ok (.iload 5, 2) := by decide +kernel
theorem dL_embargo_11 : decode cL_embargo 11 = .ok (.invokevirtual 34, 3) := by decide +kernel
theorem dL_embargo_14 : decode cL_embargo 14 = .ok (.i2l, 1) := by decide +kernel
theorem dL_embargo_15 : decode cL_embargo 15 = .ok (.lastore, 1) := by decide +kernel
theorem dL_embargo_16 : decode cL_embargo 16 = .ok (.goto 15, 3) := by decide +kernel
theorem dL_embargo_19 : decode cL_embargo 19 = .ok (.astore 7, 2) := by decide +kernel
theorem dL_embargo_21 : decode cL_embargo 21 = .ok (.iconst 1, 1) := by decide +kernel
theorem dL_embargo_22 : decode cL_embargo 22 = .ok (.ireturn, 1) := by decide +kernel
theorem dL_embargo_23 : decode cL_embargo 23 = .ok (.astore 7, 2) := by decide +kernel
theorem dL_embargo_25 : decode cL_embargo 25 = .ok (.iconst 2, 1) := by decide +kernel
theorem dL_embargo_26 : decode cL_embargo 26 = .ok (.ireturn, 1) := by decide +kernel
theorem dL_embargo_27 : decode cL_embargo 27 = .ok (.astore 7, 2) := by decide +kernel
theorem dL_embargo_29 : decode cL_embargo 29 = .ok (.iconst 3, 1) := by decide +kernel
theorem dL_embargo_30 : decode cL_embargo 30 = .ok (.ireturn, 1) := by decide +kernel
theorem dL_embargo_31 : decode cL_embargo 31 = .ok (.iconst 0, 1) := by decide +kernel
theorem dL_embargo_32 : decode cL_embargo 32 = .ok (.ireturn, 1) := by decide +kernel
theorem dL_lift_0 : decode cL_lift 0 = .ok (.aload_n 2, 1) := by decide +kernel
theorem dL_lift_1 : decode cL_lift 1 = .ok (.iconst 0, 1) := by decide +kernel
theorem dL_lift_2 : decode cL_lift 2 = .ok (.aload_n 0, 1) := by decide +kernel
theorem dL_lift_3 : decode cL_lift 3 = .ok (.iload_n 1, 1) := by decide +kernel
theorem dL_lift_4 : decode cL_lift 4 = .ok (.invokevirtual 38, 3) := by decide +kernel
theorem dL_lift_7 : decode cL_lift 7 = .ok (.i2l, 1) := by decide +kernel
theorem dL_lift_8 : decode cL_lift 8 = .ok (.lastore, 1) := by decide +kernel
theorem dL_lift_9 : decode cL_lift 9 = .ok (.goto 9, 3) := by decide +kernel
theorem dL_lift_12 : decode cL_lift 12 = .ok (.astore_n 3, 1) := by decide +kernel
theorem dL_lift_13 : decode cL_lift 13 = .ok (.iconst 1, 1) := by decide +kernel
theorem dL_lift_14 : decode cL_lift 14 = .ok (.ireturn, 1) := by decide +kernel
theorem dL_lift_15 : decode cL_lift 15 = .ok (.astore_n 3, 1) := by decide +kernel
theorem dL_lift_16 : decode cL_lift 16 = .ok (.iconst 2, 1) := by decide +kernel
theorem dL_lift_17 : decode cL_lift 17 = .ok (.ireturn, 1) := by decide +kernel
theorem dL_lift_18 : decode cL_lift 18 = .ok (.iconst 0, 1) := by decide +kernel
theorem dL_lift_19 : decode cL_lift 19 = .ok (.ireturn, 1) := by decide +kernel
theorem dL_isEmbargoed_0 : decode cL_isEmbargoed 0 = .ok (.aload 5, 2) := by decide +kernel
theorem dL_isEmbargoed_2 : decode cL_isEmbargoed 2 = .ok (.iconst 0, 1) := by decide +kernel
theorem dL_isEmbargoed_3 : decode cL_isEmbargoed 3 = .ok (.aload_n 0, 1) := by decide +kernel
theorem dL_isEmbargoed_4 : decode cL_isEmbargoed 4 = .ok (.iload_n 1, 1) := by decide +kernel
theorem dL_isEmbargoed_5 : decode cL_isEmbargoed 5 = .ok (.iload_n 2, 1) := by decide +kernel
theorem dL_isEmbargoed_6 : decode cL_isEmbargoed 6 = .ok (.iload_n 3, 1) := by decide +kernel
theorem dL_isEmbargoed_7 : decode cL_isEmbargoed 7 = .ok (.iload 4, 2) := by decide +kernel
theorem dL_isEmbargoed_9 : decode cL_isEmbargoed 9 = .ok (.invokevirtual 41, 3) := by decide +kernel
theorem dL_isEmbargoed_12 : decode cL_isEmbargoed 12 = .ok (.ifCond .eq 7, 3) := by decide +kernel
theorem dL_isEmbargoed_15 : decode cL_isEmbargoed 15 = .ok (.lconst 1, 1) := by decide +kernel
theorem dL_isEmbargoed_16 : decode cL_isEmbargoed 16 = .ok (.goto 4, 3) := by decide +kernel
theorem dL_isEmbargoed_19 : decode cL_isEmbargoed 19 = .ok (.lconst 0, 1) := by decide +kernel
theorem dL_isEmbargoed_20 : decode cL_isEmbargoed 20 = .ok (.lastore, 1) := by decide +kernel
theorem dL_isEmbargoed_21 : decode cL_isEmbargoed 21 = .ok (.goto 7, 3) := by decide +kernel
theorem dL_isEmbargoed_24 : decode cL_isEmbargoed 24 = .ok (.astore 6, 2) := by decide +kernel
theorem dL_isEmbargoed_26 : decode cL_isEmbargoed 26 = .ok (.iconst 1, 1) := by decide +kernel
theorem dL_isEmbargoed_27 : decode cL_isEmbargoed 27 = .ok (.ireturn, 1) := by decide +kernel
theorem dL_isEmbargoed_28 : decode cL_isEmbargoed 28 = .ok (.iconst 0, 1) := by decide +kernel
theorem dL_isEmbargoed_29 : decode cL_isEmbargoed 29 = .ok (.ireturn, 1) := by decide +kernel
theorem dL_pass_0 : decode cL_pass 0 = .ok (.aload_n 2, 1) := by decide +kernel
theorem dL_pass_1 : decode cL_pass 1 = .ok (.iconst 0, 1) := by decide +kernel
theorem dL_pass_2 : decode cL_pass 2 = .ok (.aload_n 0, 1) := by decide +kernel
theorem dL_pass_3 : decode cL_pass 3 = .ok (.iload_n 1, 1) := by decide +kernel
theorem dL_pass_4 : decode cL_pass 4 = .ok (.invokevirtual 45, 3) := by decide +kernel
theorem dL_pass_7 : decode cL_pass 7 = .ok (.i2l, 1) := by decide +kernel
theorem dL_pass_8 : decode cL_pass 8 = .ok (.lastore, 1) := by decide +kernel
theorem dL_pass_9 : decode cL_pass 9 = .ok (.goto 9, 3) := by decide +kernel
theorem dL_pass_12 : decode cL_pass 12 = .ok (.astore_n 3, 1) := by decide +kernel
theorem dL_pass_13 : decode cL_pass 13 = .ok (.iconst 1, 1) := by decide +kernel
theorem dL_pass_14 : decode cL_pass 14 = .ok (.ireturn, 1) := by decide +kernel
theorem dL_pass_15 : decode cL_pass 15 = .ok (.astore_n 3, 1) := by decide +kernel
theorem dL_pass_16 : decode cL_pass 16 = .ok (.iconst 2, 1) := by decide +kernel
theorem dL_pass_17 : decode cL_pass 17 = .ok (.ireturn, 1) := by decide +kernel
theorem dL_pass_18 : decode cL_pass 18 = .ok (.iconst 0, 1) := by decide +kernel
theorem dL_pass_19 : decode cL_pass 19 = .ok (.ireturn, 1) := by decide +kernel
theorem dL_build_0 : decode cL_build 0 = .ok (.aload_n 3, 1) := by decide +kernel
theorem dL_build_1 : decode cL_build 1 = .ok (.iconst 0, 1) := by decide +kernel
theorem dL_build_2 : decode cL_build 2 = .ok (.aload_n 0, 1) := by decide +kernel
theorem dL_build_3 : decode cL_build 3 = .ok (.iload_n 1, 1) := by decide +kernel
theorem dL_build_4 : decode cL_build 4 = .ok (.iload_n 2, 1) := by decide +kernel
theorem dL_build_5 : decode cL_build 5 = .ok (.invokevirtual 48, 3) := by decide +kernel
theorem dL_build_8 : decode cL_build 8 = .ok (.i2l, 1) := by decide +kernel
theorem dL_build_9 : decode cL_build 9 = .ok (.lastore, 1) := by decide +kernel
theorem dL_build_10 : decode cL_build 10 = .ok (.goto 7, 3) := by decide +kernel
theorem dL_build_13 : decode cL_build 13 = .ok (.astore 4, 2) := by decide +kernel
theorem dL_build_15 : decode cL_build 15 = .ok (.iconst 1, 1) := by decide +kernel
theorem dL_build_16 : decode cL_build 16 = .ok (.ireturn, 1) := by decide +kernel
theorem dL_build_17 : decode cL_build 17 = .ok (.iconst 0, 1) := by decide +kernel
theorem dL_build_18 : decode cL_build 18 = .ok (.ireturn, 1) := by decide +kernel
theorem dL_isBuilt_0 : decode cL_isBuilt 0 = .ok (.aload_n 3, 1) := by decide +kernel
theorem dL_isBuilt_1 : decode cL_isBuilt 1 = .ok (.iconst 0, 1) := by decide +kernel
theorem dL_isBuilt_2 : decode cL_isBuilt 2 = .ok (.aload_n 0, 1) := by decide +kernel
theorem dL_isBuilt_3 : decode cL_isBuilt 3 = .ok (.iload_n 1, 1) := by decide +kernel
theorem dL_isBuilt_4 : decode cL_isBuilt 4 = .ok (.iload_n 2, 1) := by decide +kernel
theorem dL_isBuilt_5 : decode cL_isBuilt 5 = .ok (.invokevirtual 52, 3) := by decide +kernel
theorem dL_isBuilt_8 : decode cL_isBuilt 8 = .ok (.ifCond .eq 7, 3) := by decide +kernel
theorem dL_isBuilt_11 : decode cL_isBuilt 11 = .ok (.lconst 1, 1) := by decide +kernel
theorem dL_isBuilt_12 : decode cL_isBuilt 12 = .ok (.goto 4, 3) := by decide +kernel
theorem dL_isBuilt_15 : decode cL_isBuilt 15 = .ok (.lconst 0, 1) := by decide +kernel
theorem dL_isBuilt_16 : decode cL_isBuilt 16 = .ok (.lastore, 1) := by decide +kernel
theorem dL_isBuilt_17 : decode cL_isBuilt 17 = .ok (.goto 7, 3) := by decide +kernel
theorem dL_isBuilt_20 : decode cL_isBuilt 20 = .ok (.astore 4, 2) := by decide +kernel
theorem dL_isBuilt_22 : decode cL_isBuilt 22 = .ok (.iconst 1, 1) := by decide +kernel
theorem dL_isBuilt_23 : decode cL_isBuilt 23 = .ok (.ireturn, 1) := by decide +kernel
theorem dL_isBuilt_24 : decode cL_isBuilt 24 = .ok (.iconst 0, 1) := by decide +kernel
theorem dL_isBuilt_25 : decode cL_isBuilt 25 = .ok (.ireturn, 1) := by decide +kernel
theorem dL_shown_0 : decode cL_shown 0 = .ok (.aload 5, 2) := by decide +kernel
theorem dL_shown_2 : decode cL_shown 2 = .ok (.iconst 0, 1) := by decide +kernel
theorem dL_shown_3 : decode cL_shown 3 = .ok (.aload_n 0, 1) := by decide +kernel
theorem dL_shown_4 : decode cL_shown 4 = .ok (.iload_n 1, 1) := by decide +kernel
theorem dL_shown_5 : decode cL_shown 5 = .ok (.iload_n 2, 1) := by decide +kernel
theorem dL_shown_6 : decode cL_shown 6 = .ok (.iload_n 3, 1) := by decide +kernel
theorem dL_shown_7 : decode cL_shown 7 = .ok (.iload 4, 2) := by decide +kernel
theorem dL_shown_9 : decode cL_shown 9 = .ok (.invokevirtual 56, 3) := by decide +kernel
theorem dL_shown_12 : decode cL_shown 12 = .ok (.i2l, 1) := by decide +kernel
theorem dL_shown_13 : decode cL_shown 13 = .ok (.lastore, 1) := by decide +kernel
theorem dL_shown_14 : decode cL_shown 14 = .ok (.goto 11, 3) := by decide +kernel
theorem dL_shown_17 : decode cL_shown 17 = .ok (.astore 6, 2) := by decide +kernel
theorem dL_shown_19 : decode cL_shown 19 = .ok (.iconst 1, 1) := by decide +kernel
theorem dL_shown_20 : decode cL_shown 20 = .ok (.ireturn, 1) := by decide +kernel
theorem dL_shown_21 : decode cL_shown 21 = .ok (.astore 6, 2) := by decide +kernel
theorem dL_shown_23 : decode cL_shown 23 = .ok (.iconst 2, 1) := by decide +kernel
theorem dL_shown_24 : decode cL_shown 24 = .ok (.ireturn, 1) := by decide +kernel
theorem dL_shown_25 : decode cL_shown 25 = .ok (.iconst 0, 1) := by decide +kernel
theorem dL_shown_26 : decode cL_shown 26 = .ok (.ireturn, 1) := by decide +kernel
theorem dL_why_0 : decode cL_why 0 = .ok (.aload 5, 2) := by decide +kernel
theorem dL_why_2 : decode cL_why 2 = .ok (.iconst 0, 1) := by decide +kernel
theorem dL_why_3 : decode cL_why 3 = .ok (.aload_n 0, 1) := by decide +kernel
theorem dL_why_4 : decode cL_why 4 = .ok (.iload_n 1, 1) := by decide +kernel
theorem dL_why_5 : decode cL_why 5 = .ok (.iload_n 2, 1) := by decide +kernel
theorem dL_why_6 : decode cL_why 6 = .ok (.iload_n 3, 1) := by decide +kernel
theorem dL_why_7 : decode cL_why 7 = .ok (.iload 4, 2) := by decide +kernel
theorem dL_why_9 : decode cL_why 9 = .ok (.invokevirtual 59, 3) := by decide +kernel
theorem dL_why_12 : decode cL_why 12 = .ok (.i2l, 1) := by decide +kernel
theorem dL_why_13 : decode cL_why 13 = .ok (.lastore, 1) := by decide +kernel
theorem dL_why_14 : decode cL_why 14 = .ok (.goto 7, 3) := by decide +kernel
theorem dL_why_17 : decode cL_why 17 = .ok (.astore 6, 2) := by decide +kernel
theorem dL_why_19 : decode cL_why 19 = .ok (.iconst 1, 1) := by decide +kernel
theorem dL_why_20 : decode cL_why 20 = .ok (.ireturn, 1) := by decide +kernel
theorem dL_why_21 : decode cL_why 21 = .ok (.iconst 0, 1) := by decide +kernel
theorem dL_why_22 : decode cL_why 22 = .ok (.ireturn, 1) := by decide +kernel
theorem dL_read_0 : decode cL_read 0 = .ok (.aload_n 3, 1) := by decide +kernel
theorem dL_read_1 : decode cL_read 1 = .ok (.iconst 0, 1) := by decide +kernel
theorem dL_read_2 : decode cL_read 2 = .ok (.aload_n 0, 1) := by decide +kernel
theorem dL_read_3 : decode cL_read 3 = .ok (.iload_n 1, 1) := by decide +kernel
theorem dL_read_4 : decode cL_read 4 = .ok (.iload_n 2, 1) := by decide +kernel
theorem dL_read_5 : decode cL_read 5 = .ok (.invokevirtual 62, 3) := by decide +kernel
theorem dL_read_8 : decode cL_read 8 = .ok (.i2l, 1) := by decide +kernel
theorem dL_read_9 : decode cL_read 9 = .ok (.lastore, 1) := by decide +kernel
theorem dL_read_10 : decode cL_read 10 = .ok (.goto 11, 3) := by decide +kernel
theorem dL_read_13 : decode cL_read 13 = .ok (.astore 4, 2) := by decide +kernel
theorem dL_read_15 : decode cL_read 15 = .ok (.iconst 1, 1) := by decide +kernel
theorem dL_read_16 : decode cL_read 16 = .ok (.ireturn, 1) := by decide +kernel
theorem dL_read_17 : decode cL_read 17 = .ok (.astore 4, 2) := by decide +kernel
theorem dL_read_19 : decode cL_read 19 = .ok (.iconst 2, 1) := by decide +kernel
theorem dL_read_20 : decode cL_read 20 = .ok (.ireturn, 1) := by decide +kernel
theorem dL_read_21 : decode cL_read 21 = .ok (.iconst 0, 1) := by decide +kernel
theorem dL_read_22 : decode cL_read 22 = .ok (.ireturn, 1) := by decide +kernel
theorem dL_mark_0 : decode cL_mark 0 = .ok (.aload_n 3, 1) := by decide +kernel
theorem dL_mark_1 : decode cL_mark 1 = .ok (.iconst 0, 1) := by decide +kernel
theorem dL_mark_2 : decode cL_mark 2 = .ok (.aload_n 0, 1) := by decide +kernel
theorem dL_mark_3 : decode cL_mark 3 = .ok (.iload_n 1, 1) := by decide +kernel
theorem dL_mark_4 : decode cL_mark 4 = .ok (.iload_n 2, 1) := by decide +kernel
theorem dL_mark_5 : decode cL_mark 5 = .ok (.invokevirtual 65, 3) := by decide +kernel
theorem dL_mark_8 : decode cL_mark 8 = .ok (.ifCond .eq 7, 3) := by decide +kernel
theorem dL_mark_11 : decode cL_mark 11 = .ok (.lconst 1, 1) := by decide +kernel
theorem dL_mark_12 : decode cL_mark 12 = .ok (.goto 4, 3) := by decide +kernel
theorem dL_mark_15 : decode cL_mark 15 = .ok (.lconst 0, 1) := by decide +kernel
theorem dL_mark_16 : decode cL_mark 16 = .ok (.lastore, 1) := by decide +kernel
theorem dL_mark_17 : decode cL_mark 17 = .ok (.goto 7, 3) := by decide +kernel
theorem dL_mark_20 : decode cL_mark 20 = .ok (.astore 4, 2) := by decide +kernel
theorem dL_mark_22 : decode cL_mark 22 = .ok (.iconst 1, 1) := by decide +kernel
theorem dL_mark_23 : decode cL_mark 23 = .ok (.ireturn, 1) := by decide +kernel
theorem dL_mark_24 : decode cL_mark 24 = .ok (.iconst 0, 1) := by decide +kernel
theorem dL_mark_25 : decode cL_mark 25 = .ok (.ireturn, 1) := by decide +kernel
theorem dL_isKnown_0 : decode cL_isKnown 0 = .ok (.aload_n 3, 1) := by decide +kernel
theorem dL_isKnown_1 : decode cL_isKnown 1 = .ok (.iconst 0, 1) := by decide +kernel
theorem dL_isKnown_2 : decode cL_isKnown 2 = .ok (.aload_n 0, 1) := by decide +kernel
theorem dL_isKnown_3 : decode cL_isKnown 3 = .ok (.iload_n 1, 1) := by decide +kernel
theorem dL_isKnown_4 : decode cL_isKnown 4 = .ok (.iload_n 2, 1) := by decide +kernel
theorem dL_isKnown_5 : decode cL_isKnown 5 = .ok (.invokevirtual 68, 3) := by decide +kernel
theorem dL_isKnown_8 : decode cL_isKnown 8 = .ok (.ifCond .eq 7, 3) := by decide +kernel
theorem dL_isKnown_11 : decode cL_isKnown 11 = .ok (.lconst 1, 1) := by decide +kernel
theorem dL_isKnown_12 : decode cL_isKnown 12 = .ok (.goto 4, 3) := by decide +kernel
theorem dL_isKnown_15 : decode cL_isKnown 15 = .ok (.lconst 0, 1) := by decide +kernel
theorem dL_isKnown_16 : decode cL_isKnown 16 = .ok (.lastore, 1) := by decide +kernel
theorem dL_isKnown_17 : decode cL_isKnown 17 = .ok (.goto 7, 3) := by decide +kernel
theorem dL_isKnown_20 : decode cL_isKnown 20 = .ok (.astore 4, 2) := by decide +kernel
theorem dL_isKnown_22 : decode cL_isKnown 22 = .ok (.iconst 1, 1) := by decide +kernel
theorem dL_isKnown_23 : decode cL_isKnown 23 = .ok (.ireturn, 1) := by decide +kernel
theorem dL_isKnown_24 : decode cL_isKnown 24 = .ok (.iconst 0, 1) := by decide +kernel
theorem dL_isKnown_25 : decode cL_isKnown 25 = .ok (.ireturn, 1) := by decide +kernel
theorem dL_isKnownBySolving_0 : decode cL_isKnownBySolving 0 = .ok (.aload_n 3, 1) := by decide +kernel
theorem dL_isKnownBySolving_1 : decode cL_isKnownBySolving 1 = .ok (.iconst 0, 1) := by decide +kernel
theorem dL_isKnownBySolving_2 : decode cL_isKnownBySolving 2 = .ok (.aload_n 0, 1) := by decide +kernel
theorem dL_isKnownBySolving_3 : decode cL_isKnownBySolving 3 = .ok (.iload_n 1, 1) := by decide +kernel
theorem dL_isKnownBySolving_4 : decode cL_isKnownBySolving 4 = .ok (.iload_n 2, 1) := by decide +kernel
theorem dL_isKnownBySolving_5 : decode cL_isKnownBySolving 5 = .ok (.invokevirtual 71, 3) := by decide +kernel
theorem dL_isKnownBySolving_8 : decode cL_isKnownBySolving 8 = .ok (.ifCond .eq 7, 3) := by decide +kernel
theorem dL_isKnownBySolving_11 : decode cL_isKnownBySolving 11 = .ok (.lconst 1, 1) := by decide +kernel
theorem dL_isKnownBySolving_12 : decode cL_isKnownBySolving 12 = .ok (.goto 4, 3) := by decide +kernel
theorem dL_isKnownBySolving_15 : decode cL_isKnownBySolving 15 = .ok (.lconst 0, 1) := by decide +kernel
theorem dL_isKnownBySolving_16 : decode cL_isKnownBySolving 16 = .ok (.lastore, 1) := by decide +kernel
theorem dL_isKnownBySolving_17 : decode cL_isKnownBySolving 17 = .ok (.goto 7, 3) := by decide +kernel
theorem dL_isKnownBySolving_20 : decode cL_isKnownBySolving 20 = .ok (.astore 4, 2) := by decide +kernel
theorem dL_isKnownBySolving_22 : decode cL_isKnownBySolving 22 = .ok (.iconst 1, 1) := by decide +kernel
theorem dL_isKnownBySolving_23 : decode cL_isKnownBySolving 23 = .ok (.ireturn, 1) := by decide +kernel
theorem dL_isKnownBySolving_24 : decode cL_isKnownBySolving 24 = .ok (.iconst 0, 1) := by decide +kernel
theorem dL_isKnownBySolving_25 : decode cL_isKnownBySolving 25 = .ok (.ireturn, 1) := by decide +kernel
