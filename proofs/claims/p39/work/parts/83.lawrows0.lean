theorem dL_part_0 : decode cL_part 0 = .ok (.iload_n 1, 1) := by decide +kernel
theorem dL_part_1 : decode cL_part 1 = .ok (.aload_n 0, 1) := by decide +kernel
theorem dL_part_2 : decode cL_part 2 = .ok (.arraylength, 1) := by decide +kernel
theorem dL_part_3 : decode cL_part 3 = .ok (.if_icmp .ge 9, 3) := by decide +kernel
theorem dL_part_6 : decode cL_part 6 = .ok (.aload_n 0, 1) := by decide +kernel
theorem dL_part_7 : decode cL_part 7 = .ok (.iload_n 1, 1) := by decide +kernel
theorem dL_part_8 : decode cL_part 8 = .ok (.iaload, 1) := by decide +kernel
theorem dL_part_9 : decode cL_part 9 = .ok (.goto 16, 3) := by decide +kernel
theorem dL_part_12 : decode cL_part 12 = .ok (.sipush 251, 3) := by decide +kernel
theorem dL_part_15 : decode cL_part 15 = .ok (.iload_n 1, 1) := by decide +kernel
theorem dL_part_16 : decode cL_part 16 = .ok (.imul, 1) := by decide +kernel
theorem dL_part_17 : decode cL_part 17 = .ok (.sipush 131, 3) := by decide +kernel
theorem dL_part_20 : decode cL_part 20 = .ok (.iload_n 1, 1) := by decide +kernel
theorem dL_part_21 : decode cL_part 21 = .ok (.imul, 1) := by decide +kernel
theorem dL_part_22 : decode cL_part 22 = .ok (.iload_n 1, 1) := by decide +kernel
theorem dL_part_23 : decode cL_part 23 = .ok (.imul, 1) := by decide +kernel
theorem dL_part_24 : decode cL_part 24 = .ok (.iadd, 1) := by decide +kernel
theorem dL_part_25 : decode cL_part 25 = .ok (.istore_n 3, 1) := by decide +kernel
theorem dL_part_26 : decode cL_part 26 = .ok (.iload_n 3, 1) := by decide +kernel
theorem dL_part_27 : decode cL_part 27 = .ok (.ldc 7, 2) := by decide +kernel
theorem dL_part_29 : decode cL_part 29 = .ok (.iand, 1) := by decide +kernel
theorem dL_part_30 : decode cL_part 30 = .ok (.iload_n 2, 1) := by decide +kernel
theorem dL_part_31 : decode cL_part 31 = .ok (.irem, 1) := by decide +kernel
theorem dL_part_32 : decode cL_part 32 = .ok (.ireturn, 1) := by decide +kernel
theorem dL_makes_0 : decode cL_makes 0 = .ok (.iload_n 1, 1) := by decide +kernel
theorem dL_makes_1 : decode cL_makes 1 = .ok (.ifCond .ne 11, 3) := by decide +kernel
theorem dL_makes_4 : decode cL_makes 4 = .ok (.aload_n 0, 1) := by decide +kernel
theorem dL_makes_5 : decode cL_makes 5 = .ok (.iload_n 2, 1) := by decide +kernel
theorem dL_makes_6 : decode cL_makes 6 = .ok (.invokevirtual 8, 3) := by decide +kernel
theorem dL_makes_9 : decode cL_makes 9 = .ok (.goto 89, 3) := by decide +kernel
theorem dL_makes_12 : decode cL_makes 12 = .ok (.iload_n 1, 1) := by decide +kernel
theorem dL_makes_13 : decode cL_makes 13 = .ok (.iconst 1, 1) := by decide +kernel
theorem dL_makes_14 : decode cL_makes 14 = .ok (.if_icmp .ne 14, 3) := by decide +kernel
theorem dL_makes_17 : decode cL_makes 17 = .ok (.aload_n 0, 1) := by decide +kernel
theorem dL_makes_18 : decode cL_makes 18 = .ok (.iload_n 2, 1) := by decide +kernel
theorem dL_makes_19 : decode cL_makes 19 = .ok (.iload_n 3, 1) := by decide +kernel
theorem dL_makes_20 : decode cL_makes 20 = .ok (.iload 4, 2) := by decide +kernel
theorem dL_makes_22 : decode cL_makes 22 = .ok (.invokevirtual 14, 3) := by decide +kernel
theorem dL_makes_25 : decode cL_makes 25 = .ok (.goto 73, 3) := by decide +kernel
theorem dL_makes_28 : decode cL_makes 28 = .ok (.iload_n 1, 1) := by decide +kernel
theorem dL_makes_29 : decode cL_makes 29 = .ok (.iconst 2, 1) := by decide +kernel
theorem dL_makes_30 : decode cL_makes 30 = .ok (.if_icmp .ne 14, 3) := by decide +kernel
theorem dL_makes_33 : decode cL_makes 33 = .ok (.aload_n 0, 1) := by decide +kernel
theorem dL_makes_34 : decode cL_makes 34 = .ok (.iload_n 2, 1) := by decide +kernel
theorem dL_makes_35 : decode cL_makes 35 = .ok (.iload_n 3, 1) := by decide +kernel
theorem dL_makes_36 : decode cL_makes 36 = .ok (.iload 4, 2) := by decide +kernel
theorem dL_makes_38 : decode cL_makes 38 = .ok (.invokevirtual 18, 3) := by decide +kernel
theorem dL_makes_41 : decode cL_makes 41 = .ok (.goto 57, 3) := by decide +kernel
theorem dL_makes_44 : decode cL_makes 44 = .ok (.iload_n 1, 1) := by decide +kernel
theorem dL_makes_45 : decode cL_makes 45 = .ok (.iconst 3, 1) := by decide +kernel
theorem dL_makes_46 : decode cL_makes 46 = .ok (.if_icmp .ne 12, 3) := by decide +kernel
theorem dL_makes_49 : decode cL_makes 49 = .ok (.aload_n 0, 1) := by decide +kernel
theorem dL_makes_50 : decode cL_makes 50 = .ok (.iload_n 2, 1) := by decide +kernel
theorem dL_makes_51 : decode cL_makes 51 = .ok (.iload_n 3, 1) := by decide +kernel
theorem dL_makes_52 : decode cL_makes 52 = .ok (.invokevirtual 21, 3) := by decide +kernel
theorem dL_makes_55 : decode cL_makes 55 = .ok (.goto 43, 3) := by decide +kernel
theorem dL_makes_58 : decode cL_makes 58 = .ok (.iload_n 1, 1) := by decide +kernel
theorem dL_makes_59 : decode cL_makes 59 = .ok (.iconst 4, 1) := by decide +kernel
theorem dL_makes_60 : decode cL_makes 60 = .ok (.if_icmp .ne 14, 3) := by decide +kernel
theorem dL_makes_63 : decode cL_makes 63 = .ok (.aload_n 0, 1) := by decide +kernel
theorem dL_makes_64 : decode cL_makes 64 = .ok (.iload_n 2, 1) := by decide +kernel
theorem dL_makes_65 : decode cL_makes 65 = .ok (.iload_n 3, 1) := by decide +kernel
theorem dL_makes_66 : decode cL_makes 66 = .ok (.iload 4, 2) := by decide +kernel
theorem dL_makes_68 : decode cL_makes 68 = .ok (.invokevirtual 25, 3) := by decide +kernel
theorem dL_makes_71 : decode cL_makes 71 = .ok (.goto 27, 3) := by decide +kernel
theorem dL_makes_74 : decode cL_makes 74 = .ok (.iload_n 1, 1) := by decide +kernel
theorem dL_makes_75 : decode cL_makes 75 = .ok (.iconst 5, 1) := by decide +kernel
theorem dL_makes_76 : decode cL_makes 76 = .ok (.if_icmp .ne 14, 3) := by decide +kernel
theorem dL_makes_79 : decode cL_makes 79 = .ok (.aload_n 0, 1) := by decide +kernel
theorem dL_makes_80 : decode cL_makes 80 = .ok (.iload_n 2, 1) := by decide +kernel
theorem dL_makes_81 : decode cL_makes 81 = .ok (.iload_n 3, 1) := by decide +kernel
theorem dL_makes_82 : decode cL_makes 82 = .ok (.iload 4, 2) := by decide +kernel
theorem dL_makes_84 : decode cL_makes 84 = .ok (.invokevirtual 28, 3) := by decide +kernel
theorem dL_makes_87 : decode cL_makes 87 = .ok (.goto 11, 3) := by decide +kernel
theorem dL_makes_90 : decode cL_makes 90 = .ok (.aload_n 0, 1) := by decide +kernel
theorem dL_makes_91 : decode cL_makes 91 = .ok (.iload_n 2, 1) := by decide +kernel
theorem dL_makes_92 : decode cL_makes 92 = .ok (.iload_n 3, 1) := by decide +kernel
theorem dL_makes_93 : decode cL_makes 93 = .ok (.iload 4, 2) := by decide +kernel
theorem dL_makes_95 : decode cL_makes 95 = .ok (.invokevirtual 31, 3) := by decide +kernel
theorem dL_makes_98 : decode cL_makes 98 = .ok (.ireturn, 1) := by decide +kernel
theorem dL_makes_99 : decode cL_makes 99 = .ok (.astore 5, 2) := by decide +kernel
theorem dL_makes_101 : decode cL_makes 101 = .ok (.bipush (-30), 2) := by decide +kernel
theorem dL_makes_103 : decode cL_makes 103 = .ok (.ireturn, 1) := by decide +kernel
theorem dL_makes_104 : decode cL_makes 104 = .ok (.astore 5, 2) := by decide +kernel
theorem dL_makes_106 : decode cL_makes 106 = .ok (.bipush (-20), 2) := by decide +kernel
theorem dL_makes_108 : decode cL_makes 108 = .ok (.ireturn, 1) := by decide +kernel
theorem dL_makes_109 : decode cL_makes 109 = .ok (.astore 5, 2) := by decide +kernel
theorem dL_makes_111 : decode cL_makes 111 = .ok (.bipush (-10), 2) := by decide +kernel
theorem dL_makes_113 : decode cL_makes 113 = .ok (.ireturn, 1) := by decide +kernel
theorem dL_sets_0 : decode cL_sets 0 = .ok (.iload_n 1, 1) := by decide +kernel
theorem dL_sets_1 : decode cL_sets 1 = .ok (.ifCond .ne 11, 3) := by decide +kernel
theorem dL_sets_4 : decode cL_sets 4 = .ok (.aload_n 0, 1) := by decide +kernel
theorem dL_sets_5 : decode cL_sets 5 = .ok (.iload_n 2, 1) := by decide +kernel
theorem dL_sets_6 : decode cL_sets 6 = .ok (.invokevirtual 40, 3) := by decide +kernel
theorem dL_sets_9 : decode cL_sets 9 = .ok (.goto 61, 3) := by decide +kernel
theorem dL_sets_12 : decode cL_sets 12 = .ok (.iload_n 1, 1) := by decide +kernel
theorem dL_sets_13 : decode cL_sets 13 = .ok (.iconst 1, 1) := by decide +kernel
theorem dL_sets_14 : decode cL_sets 14 = .ok (.if_icmp .ne 12, 3) := by decide +kernel
theorem dL_sets_17 : decode cL_sets 17 = .ok (.aload_n 0, 1) := by decide +kernel
theorem dL_sets_18 : decode cL_sets 18 = .ok (.iload_n 2, 1) := by decide +kernel
theorem dL_sets_19 : decode cL_sets 19 = .ok (.iload_n 3, 1) := by decide +kernel
theorem dL_sets_20 : decode cL_sets 20 = .ok (.invokevirtual 43, 3) := by decide +kernel
theorem dL_sets_23 : decode cL_sets 23 = .ok (.goto 47, 3) := by decide +kernel
theorem dL_sets_26 : decode cL_sets 26 = .ok (.iload_n 1, 1) := by decide +kernel
theorem dL_sets_27 : decode cL_sets 27 = .ok (.iconst 2, 1) := by decide +kernel
theorem dL_sets_28 : decode cL_sets 28 = .ok (.if_icmp .ne 11, 3) := by decide +kernel
theorem dL_sets_31 : decode cL_sets 31 = .ok (.aload_n 0, 1) := by decide +kernel
theorem dL_sets_32 : decode cL_sets 32 = .ok (.iload_n 2, 1) := by decide +kernel
theorem dL_sets_33 : decode cL_sets 33 = .ok (.invokevirtual 46, 3) := by decide +kernel
theorem dL_sets_36 : decode cL_sets 36 = .ok (.goto 34, 3) := by decide +kernel
theorem dL_sets_39 : decode cL_sets 39 = .ok (.iload_n 1, 1) := by decide +kernel
theorem dL_sets_40 : decode cL_sets 40 = .ok (.iconst 3, 1) := by decide +kernel
theorem dL_sets_41 : decode cL_sets 41 = .ok (.if_icmp .ne 11, 3) := by decide +kernel
theorem dL_sets_44 : decode cL_sets 44 = .ok (.aload_n 0, 1) := by decide +kernel
theorem dL_sets_45 : decode cL_sets 45 = .ok (.iload_n 2, 1) := by decide +kernel
theorem dL_sets_46 : decode cL_sets 46 = .ok (.invokevirtual 49, 3) := by decide +kernel
theorem dL_sets_49 : decode cL_sets 49 = .ok (.goto 21, 3) := by decide +kernel
theorem dL_sets_52 : decode cL_sets 52 = .ok (.iload_n 1, 1) := by decide +kernel
theorem dL_sets_53 : decode cL_sets 53 = .ok (.iconst 4, 1) := by decide +kernel
theorem dL_sets_54 : decode cL_sets 54 = .ok (.if_icmp .ne 11, 3) := by decide +kernel
theorem dL_sets_57 : decode cL_sets 57 = .ok (.aload_n 0, 1) := by decide +kernel
theorem dL_sets_58 : decode cL_sets 58 = .ok (.iload_n 2, 1) := by decide +kernel
theorem dL_sets_59 : decode cL_sets 59 = .ok (.invokevirtual 52, 3) := by decide +kernel
theorem dL_sets_62 : decode cL_sets 62 = .ok (.goto 8, 3) := by decide +kernel
theorem dL_sets_65 : decode cL_sets 65 = .ok (.aload_n 0, 1) := by decide +kernel
theorem dL_sets_66 : decode cL_sets 66 = .ok (.iload_n 2, 1) := by decide +kernel
theorem dL_sets_67 : decode cL_sets 67 = .ok (.invokevirtual 55, 3) := by decide +kernel
theorem dL_sets_70 : decode cL_sets 70 = .ok (.ireturn, 1) := by decide +kernel
theorem dL_sets_71 : decode cL_sets 71 = .ok (.astore 4, 2) := by decide +kernel
theorem dL_sets_73 : decode cL_sets 73 = .ok (.bipush (-30), 2) := by decide +kernel
theorem dL_sets_75 : decode cL_sets 75 = .ok (.ireturn, 1) := by decide +kernel
theorem dL_sets_76 : decode cL_sets 76 = .ok (.astore 4, 2) := by decide +kernel
theorem dL_sets_78 : decode cL_sets 78 = .ok (.bipush (-20), 2) := by decide +kernel
theorem dL_sets_80 : decode cL_sets 80 = .ok (.ireturn, 1) := by decide +kernel
theorem dL_asks_0 : decode cL_asks 0 = .ok (.iload_n 1, 1) := by decide +kernel
theorem dL_asks_1 : decode cL_asks 1 = .ok (.ifCond .ne 11, 3) := by decide +kernel
theorem dL_asks_4 : decode cL_asks 4 = .ok (.aload_n 0, 1) := by decide +kernel
theorem dL_asks_5 : decode cL_asks 5 = .ok (.iload_n 2, 1) := by decide +kernel
theorem dL_asks_6 : decode cL_asks 6 = .ok (.invokevirtual 58, 3) := by decide +kernel
theorem dL_asks_9 : decode cL_asks 9 = .ok (.goto 159, 3) := by decide +kernel
theorem dL_asks_12 : decode cL_asks 12 = .ok (.iload_n 1, 1) := by decide +kernel
theorem dL_asks_13 : decode cL_asks 13 = .ok (.iconst 1, 1) := by decide +kernel
theorem dL_asks_14 : decode cL_asks 14 = .ok (.if_icmp .ne 12, 3) := by decide +kernel
theorem dL_asks_17 : decode cL_asks 17 = .ok (.aload_n 0, 1) := by decide +kernel
theorem dL_asks_18 : decode cL_asks 18 = .ok (.iload_n 2, 1) := by decide +kernel
theorem dL_asks_19 : decode cL_asks 19 = .ok (.iload_n 3, 1) := by decide +kernel
theorem dL_asks_20 : decode cL_asks 20 = .ok (.invokevirtual 61, 3) := by decide +kernel
theorem dL_asks_23 : decode cL_asks 23 = .ok (.goto 145, 3) := by decide +kernel
theorem dL_asks_26 : decode cL_asks 26 = .ok (.iload_n 1, 1) := by decide +kernel
theorem dL_asks_27 : decode cL_asks 27 = .ok (.iconst 2, 1) := by decide +kernel
theorem dL_asks_28 : decode cL_asks 28 = .ok (.if_icmp .ne 11, 3) := by decide +kernel
theorem dL_asks_31 : decode cL_asks 31 = .ok (.aload_n 0, 1) := by decide +kernel
theorem dL_asks_32 : decode cL_asks 32 = .ok (.iload_n 2, 1) := by decide +kernel
theorem dL_asks_33 : decode cL_asks 33 = .ok (.invokevirtual 64, 3) := by decide +kernel
theorem dL_asks_36 : decode cL_asks 36 = .ok (.goto 132, 3) := by decide +kernel
theorem dL_asks_39 : decode cL_asks 39 = .ok (.iload_n 1, 1) := by decide +kernel
theorem dL_asks_40 : decode cL_asks 40 = .ok (.iconst 3, 1) := by decide +kernel
theorem dL_asks_41 : decode cL_asks 41 = .ok (.if_icmp .ne 14, 3) := by decide +kernel
theorem dL_asks_44 : decode cL_asks 44 = .ok (.aload_n 0, 1) := by decide +kernel
theorem dL_asks_45 : decode cL_asks 45 = .ok (.iload_n 2, 1) := by decide +kernel
theorem dL_asks_46 : decode cL_asks 46 = .ok (.iload_n 3, 1) := by decide +kernel
theorem dL_asks_47 : decode cL_asks 47 = .ok (.iload 4, 2) := by decide +kernel
theorem dL_asks_49 : decode cL_asks 49 = .ok (.invokevirtual 67, 3) := by decide +kernel
theorem dL_asks_52 : decode cL_asks 52 = .ok (.goto 116, 3) := by decide +kernel
theorem dL_asks_55 : decode cL_asks 55 = .ok (.iload_n 1, 1) := by decide +kernel
theorem dL_asks_56 : decode cL_asks 56 = .ok (.iconst 4, 1) := by decide +kernel
theorem dL_asks_57 : decode cL_asks 57 = .ok (.if_icmp .ne 14, 3) := by decide +kernel
theorem dL_asks_60 : decode cL_asks 60 = .ok (.aload_n 0, 1) := by decide +kernel
theorem dL_asks_61 : decode cL_asks 61 = .ok (.iload_n 2, 1) := by decide +kernel
theorem dL_asks_62 : decode cL_asks 62 = .ok (.iload_n 3, 1) := by decide +kernel
theorem dL_asks_63 : decode cL_asks 63 = .ok (.iload 4, 2) := by decide +kernel
theorem dL_asks_65 : decode cL_asks 65 = .ok (.invokevirtual 70, 3) := by decide +kernel
theorem dL_asks_68 : decode cL_asks 68 = .ok (.goto 100, 3) := by decide +kernel
theorem dL_asks_71 : decode cL_asks 71 = .ok (.iload_n 1, 1) := by decide +kernel
theorem dL_asks_72 : decode cL_asks 72 = .ok (.iconst 5, 1) := by decide +kernel
theorem dL_asks_73 : decode cL_asks 73 = .ok (.if_icmp .ne 11, 3) := by decide +kernel
theorem dL_asks_76 : decode cL_asks 76 = .ok (.aload_n 0, 1) := by decide +kernel
theorem dL_asks_77 : decode cL_asks 77 = .ok (.iload_n 2, 1) := by decide +kernel
theorem dL_asks_78 : decode cL_asks 78 = .ok (.invokevirtual 73, 3) := by decide +kernel
theorem dL_asks_81 : decode cL_asks 81 = .ok (.goto 87, 3) := by decide +kernel
theorem dL_asks_84 : decode cL_asks 84 = .ok (.iload_n 1, 1) := by decide +kernel
theorem dL_asks_85 : decode cL_asks 85 = .ok (.bipush 6, 2) := by decide +kernel
theorem dL_asks_87 : decode cL_asks 87 = .ok (.if_icmp .ne 11, 3) := by decide +kernel
theorem dL_asks_90 : decode cL_asks 90 = .ok (.aload_n 0, 1) := by decide +kernel
theorem dL_asks_91 : decode cL_asks 91 = .ok (.iload_n 2, 1) := by decide +kernel
theorem dL_asks_92 : decode cL_asks 92 = .ok (.invokevirtual 76, 3) := by decide +kernel
theorem dL_asks_95 : decode cL_asks 95 = .ok (.goto 73, 3) := by decide +kernel
theorem dL_asks_98 : decode cL_asks 98 = .ok (.iload_n 1, 1) := by decide +kernel
theorem dL_asks_99 : decode cL_asks 99 = .ok (.bipush 7, 2) := by decide +kernel
theorem dL_asks_101 : decode cL_asks 101 = .ok (.if_icmp .ne 12, 3) := by decide +kernel
theorem dL_asks_104 : decode cL_asks 104 = .ok (.aload_n 0, 1) := by decide +kernel
theorem dL_asks_105 : decode cL_asks 105 = .ok (.iload_n 2, 1) := by decide +kernel
theorem dL_asks_106 : decode cL_asks 106 = .ok (.iload_n 3, 1) := by decide +kernel
theorem dL_asks_107 : decode cL_asks 107 = .ok (.invokevirtual 79, 3) := by decide +kernel
theorem dL_asks_110 : decode cL_asks 110 = .ok (.goto 58, 3) := by decide +kernel
theorem dL_asks_113 : decode cL_asks 113 = .ok (.iload_n 1, 1) := by decide +kernel
theorem dL_asks_114 : decode cL_asks 114 = .ok (.bipush 8, 2) := by decide +kernel
theorem dL_asks_116 : decode cL_asks 116 = .ok (.if_icmp .ne 11, 3) := by decide +kernel
theorem dL_asks_119 : decode cL_asks 119 = .ok (.aload_n 0, 1) := by decide +kernel
theorem dL_asks_120 : decode cL_asks 120 = .ok (.iload_n 2, 1) := by decide +kernel
theorem dL_asks_121 : decode cL_asks 121 = .ok (.invokevirtual 82, 3) := by decide +kernel
theorem dL_asks_124 : decode cL_asks 124 = .ok (.goto 44, 3) := by decide +kernel
theorem dL_asks_127 : decode cL_asks 127 = .ok (.iload_n 1, 1) := by decide +kernel
theorem dL_asks_128 : decode cL_asks 128 = .ok (.bipush 9, 2) := by decide +kernel
theorem dL_asks_130 : decode cL_asks 130 = .ok (.if_icmp .ne 11, 3) := by decide +kernel
theorem dL_asks_133 : decode cL_asks 133 = .ok (.aload_n 0, 1) := by decide +kernel
theorem dL_asks_134 : decode cL_asks 134 = .ok (.iload_n 2, 1) := by decide +kernel
theorem dL_asks_135 : decode cL_asks 135 = .ok (.invokevirtual 85, 3) := by decide +kernel
theorem dL_asks_138 : decode cL_asks 138 = .ok (.goto 30, 3) := by decide +kernel
theorem dL_asks_141 : decode cL_asks 141 = .ok (.iload_n 1, 1) := by decide +kernel
theorem dL_asks_142 : decode cL_asks 142 = .ok (.bipush 10, 2) := by decide +kernel
theorem dL_asks_144 : decode cL_asks 144 = .ok (.if_icmp .ne 19, 3) := by decide +kernel
theorem dL_asks_147 : decode cL_asks 147 = .ok (.aload_n 0, 1) := by decide +kernel
theorem dL_asks_148 : decode cL_asks 148 = .ok (.iload_n 2, 1) := by decide +kernel
theorem dL_asks_149 : decode cL_asks 149 = .ok (.invokevirtual 88, 3) := by decide +kernel
theorem dL_asks_152 : decode cL_asks 152 = .ok (.ifCond .eq 7, 3) := by decide +kernel
theorem dL_asks_155 : decode cL_asks 155 = .ok (.iconst 1, 1) := by decide +kernel
theorem dL_asks_156 : decode cL_asks 156 = .ok (.goto 12, 3) := by decide +kernel
theorem dL_asks_159 : decode cL_asks 159 = .ok (.iconst 0, 1) := by decide +kernel
theorem dL_asks_160 : decode cL_asks 160 = .ok (.goto 8, 3) := by decide +kernel
theorem dL_asks_163 : decode cL_asks 163 = .ok (.aload_n 0, 1) := by decide +kernel
theorem dL_asks_164 : decode cL_asks 164 = .ok (.iload_n 2, 1) := by decide +kernel
theorem dL_asks_165 : decode cL_asks 165 = .ok (.invokevirtual 92, 3) := by decide +kernel
theorem dL_asks_168 : decode cL_asks 168 = .ok (.ireturn, 1) := by decide +kernel
theorem dL_asks_169 : decode cL_asks 169 = .ok (.astore 5, 2) := by decide +kernel
theorem dL_asks_171 : decode cL_asks 171 = .ok (.bipush (-30), 2) := by decide +kernel
theorem dL_asks_173 : decode cL_asks 173 = .ok (.ireturn, 1) := by decide +kernel
theorem dL_broad_0 : decode cL_broad 0 = .ok (.aload_n 0, 1) := by decide +kernel
theorem dL_broad_1 : decode cL_broad 1 = .ok (.iload_n 1, 1) := by decide +kernel
theorem dL_broad_2 : decode cL_broad 2 = .ok (.invokevirtual 95, 3) := by decide +kernel
theorem dL_broad_5 : decode cL_broad 5 = .ok (.ifCond .eq 7, 3) := by decide +kernel
theorem dL_broad_8 : decode cL_broad 8 = .ok (.iconst 1, 1) := by decide +kernel
theorem dL_broad_9 : decode cL_broad 9 = .ok (.goto 4, 3) := by decide +kernel
theorem dL_broad_12 : decode cL_broad 12 = .ok (.iconst 0, 1) := by decide +kernel
theorem dL_broad_13 : decode cL_broad 13 = .ok (.ireturn, 1) := by decide +kernel
theorem dL_broad_14 : decode cL_broad 14 = .ok (.astore_n 2, 1) := by decide +kernel
theorem dL_broad_15 : decode cL_broad 15 = .ok (.bipush (-30), 2) := by decide +kernel
theorem dL_broad_17 : decode cL_broad 17 = .ok (.ireturn, 1) := by decide +kernel
theorem dL_broad_18 : decode cL_broad 18 = .ok (.astore_n 2, 1) := by decide +kernel
theorem dL_broad_19 : decode cL_broad 19 = .ok (.bipush (-10), 2) := by decide +kernel
theorem dL_broad_21 : decode cL_broad 21 = .ok (.ireturn, 1) := by decide +kernel
theorem dL_marked_0 : decode cL_marked 0 = .ok (.aload_n 0, 1) := by decide +kernel
theorem dL_marked_1 : decode cL_marked 1 = .ok (.iload_n 1, 1) := by decide +kernel
theorem dL_marked_2 : decode cL_marked 2 = .ok (.iload_n 2, 1) := by decide +kernel
theorem dL_marked_3 : decode cL_marked 3 = .ok (.invokevirtual 98, 3) := by decide +kernel
theorem dL_marked_6 : decode cL_marked 6 = .ok (.ifCond .eq 7, 3) := by decide +kernel
theorem dL_marked_9 : decode cL_marked 9 = .ok (.iconst 1, 1) := by decide +kernel
theorem dL_marked_10 : decode cL_marked 10 = .ok (.goto 4, 3) := by decide +kernel
theorem dL_marked_13 : decode cL_marked 13 = .ok (.iconst 0, 1) := by decide +kernel
theorem dL_marked_14 : decode cL_marked 14 = .ok (.ireturn, 1) := by decide +kernel
theorem dL_marked_15 : decode cL_marked 15 = .ok (.astore_n 3, 1) := by decide +kernel
theorem dL_marked_16 : decode cL_marked 16 = .ok (.bipush (-30), 2) := by decide +kernel
theorem dL_marked_18 : decode cL_marked 18 = .ok (.ireturn, 1) := by decide +kernel
theorem dL_share_0 : decode cL_share 0 = .ok (.iload_n 0, 1) := by decide +kernel
theorem dL_share_1 : decode cL_share 1 = .ok (.iload_n 1, 1) := by decide +kernel
theorem dL_share_2 : decode cL_share 2 = .ok (.irem, 1) := by decide +kernel
theorem dL_share_3 : decode cL_share 3 = .ok (.iload_n 1, 1) := by decide +kernel
theorem dL_share_4 : decode cL_share 4 = .ok (.iadd, 1) := by decide +kernel
theorem dL_share_5 : decode cL_share 5 = .ok (.iload_n 1, 1) := by decide +kernel
theorem dL_share_6 : decode cL_share 6 = .ok (.irem, 1) := by decide +kernel
theorem dL_share_7 : decode cL_share 7 = .ok (.ireturn, 1) := by decide +kernel
theorem dL_isRow_0 : decode cL_isRow 0 = .ok (.aload_n 0, 1) := by decide +kernel
theorem dL_isRow_1 : decode cL_isRow 1 = .ok (.iconst 3, 1) := by decide +kernel
theorem dL_isRow_2 : decode cL_isRow 2 = .ok (.iload_n 1, 1) := by decide +kernel
theorem dL_isRow_3 : decode cL_isRow 3 = .ok (.iload_n 2, 1) := by decide +kernel
theorem dL_isRow_4 : decode cL_isRow 4 = .ok (.iload_n 3, 1) := by decide +kernel
theorem dL_isRow_5 : decode cL_isRow 5 = .ok (.invokestatic 102, 3) := by decide +kernel
theorem dL_isRow_8 : decode cL_isRow 8 = .ok (.iload 4, 2) := by decide +kernel
theorem dL_isRow_10 : decode cL_isRow 10 = .ok (.if_icmp .ne 20, 3) := by decide +kernel
theorem dL_isRow_13 : decode cL_isRow 13 = .ok (.aload_n 0, 1) := by decide +kernel
theorem dL_isRow_14 : decode cL_isRow 14 = .ok (.iconst 4, 1) := by decide +kernel
theorem dL_isRow_15 : decode cL_isRow 15 = .ok (.iload_n 1, 1) := by decide +kernel
theorem dL_isRow_16 : decode cL_isRow 16 = .ok (.iload_n 2, 1) := by decide +kernel
theorem dL_isRow_17 : decode cL_isRow 17 = .ok (.iload_n 3, 1) := by decide +kernel
theorem dL_isRow_18 : decode cL_isRow 18 = .ok (.invokestatic 102, 3) := by decide +kernel
theorem dL_isRow_21 : decode cL_isRow 21 = .ok (.iload 5, 2) := by decide +kernel
theorem dL_isRow_23 : decode cL_isRow 23 = .ok (.if_icmp .ne 7, 3) := by decide +kernel
theorem dL_isRow_26 : decode cL_isRow 26 = .ok (.iconst 1, 1) := by decide +kernel
theorem dL_isRow_27 : decode cL_isRow 27 = .ok (.goto 4, 3) := by decide +kernel
theorem dL_isRow_30 : decode cL_isRow 30 = .ok (.iconst 0, 1) := by decide +kernel
theorem dL_isRow_31 : decode cL_isRow 31 = .ok (.ireturn, 1) := by decide +kernel
