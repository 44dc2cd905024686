theorem dL_isPut_0 : decode cL_isPut 0 = .ok (.iload_n 3, 1) := by decide +kernel
theorem dL_isPut_1 : decode cL_isPut 1 = .ok (.aload_n 2, 1) := by decide +kernel
theorem dL_isPut_2 : decode cL_isPut 2 = .ok (.iconst 0, 1) := by decide +kernel
theorem dL_isPut_3 : decode cL_isPut 3 = .ok (.iaload, 1) := by decide +kernel
theorem dL_isPut_4 : decode cL_isPut 4 = .ok (.iconst 1, 1) := by decide +kernel
theorem dL_isPut_5 : decode cL_isPut 5 = .ok (.iadd, 1) := by decide +kernel
theorem dL_isPut_6 : decode cL_isPut 6 = .ok (.irem, 1) := by decide +kernel
theorem dL_isPut_7 : decode cL_isPut 7 = .ok (.istore 6, 2) := by decide +kernel
theorem dL_isPut_9 : decode cL_isPut 9 = .ok (.iload 6, 2) := by decide +kernel
theorem dL_isPut_11 : decode cL_isPut 11 = .ok (.aload_n 2, 1) := by decide +kernel
theorem dL_isPut_12 : decode cL_isPut 12 = .ok (.iconst 0, 1) := by decide +kernel
theorem dL_isPut_13 : decode cL_isPut 13 = .ok (.iaload, 1) := by decide +kernel
theorem dL_isPut_14 : decode cL_isPut 14 = .ok (.if_icmp .eq 10, 3) := by decide +kernel
theorem dL_isPut_17 : decode cL_isPut 17 = .ok (.aload_n 1, 1) := by decide +kernel
theorem dL_isPut_18 : decode cL_isPut 18 = .ok (.iload 6, 2) := by decide +kernel
theorem dL_isPut_20 : decode cL_isPut 20 = .ok (.iaload, 1) := by decide +kernel
theorem dL_isPut_21 : decode cL_isPut 21 = .ok (.ifCond .le 39, 3) := by decide +kernel
theorem dL_isPut_24 : decode cL_isPut 24 = .ok (.aload_n 0, 1) := by decide +kernel
theorem dL_isPut_25 : decode cL_isPut 25 = .ok (.bipush 6, 2) := by decide +kernel
theorem dL_isPut_27 : decode cL_isPut 27 = .ok (.iload 6, 2) := by decide +kernel
theorem dL_isPut_29 : decode cL_isPut 29 = .ok (.iload 4, 2) := by decide +kernel
theorem dL_isPut_31 : decode cL_isPut 31 = .ok (.iload 5, 2) := by decide +kernel
theorem dL_isPut_33 : decode cL_isPut 33 = .ok (.invokestatic 171, 3) := by decide +kernel
theorem dL_isPut_36 : decode cL_isPut 36 = .ok (.iload 6, 2) := by decide +kernel
theorem dL_isPut_38 : decode cL_isPut 38 = .ok (.aload_n 2, 1) := by decide +kernel
theorem dL_isPut_39 : decode cL_isPut 39 = .ok (.iconst 0, 1) := by decide +kernel
theorem dL_isPut_40 : decode cL_isPut 40 = .ok (.iaload, 1) := by decide +kernel
theorem dL_isPut_41 : decode cL_isPut 41 = .ok (.if_icmp .ne 8, 3) := by decide +kernel
theorem dL_isPut_44 : decode cL_isPut 44 = .ok (.bipush (-30), 2) := by decide +kernel
theorem dL_isPut_46 : decode cL_isPut 46 = .ok (.goto 5, 3) := by decide +kernel
theorem dL_isPut_49 : decode cL_isPut 49 = .ok (.bipush (-10), 2) := by decide +kernel
theorem dL_isPut_51 : decode cL_isPut 51 = .ok (.if_icmp .ne 7, 3) := by decide +kernel
theorem dL_isPut_54 : decode cL_isPut 54 = .ok (.iconst 1, 1) := by decide +kernel
theorem dL_isPut_55 : decode cL_isPut 55 = .ok (.goto 4, 3) := by decide +kernel
theorem dL_isPut_58 : decode cL_isPut 58 = .ok (.iconst 0, 1) := by decide +kernel
theorem dL_isPut_59 : decode cL_isPut 59 = .ok (.ireturn, 1) := by decide +kernel
theorem dL_isPut_60 : decode cL_isPut 60 = .ok (.aload_n 0, 1) := by decide +kernel
theorem dL_isPut_61 : decode cL_isPut 61 = .ok (.iload 6, 2) := by decide +kernel
theorem dL_isPut_63 : decode cL_isPut 63 = .ok (.invokevirtual 64, 3) := by decide +kernel
theorem dL_isPut_66 : decode cL_isPut 66 = .ok (.istore 7, 2) := by decide +kernel
theorem dL_isPut_68 : decode cL_isPut 68 = .ok (.iload 7, 2) := by decide +kernel
theorem dL_isPut_70 : decode cL_isPut 70 = .ok (.aload_n 0, 1) := by decide +kernel
theorem dL_isPut_71 : decode cL_isPut 71 = .ok (.iload 6, 2) := by decide +kernel
theorem dL_isPut_73 : decode cL_isPut 73 = .ok (.invokevirtual 58, 3) := by decide +kernel
theorem dL_isPut_76 : decode cL_isPut 76 = .ok (.irem, 1) := by decide +kernel
theorem dL_isPut_77 : decode cL_isPut 77 = .ok (.istore 8, 2) := by decide +kernel
theorem dL_isPut_79 : decode cL_isPut 79 = .ok (.aload_n 0, 1) := by decide +kernel
theorem dL_isPut_80 : decode cL_isPut 80 = .ok (.bipush 6, 2) := by decide +kernel
theorem dL_isPut_82 : decode cL_isPut 82 = .ok (.iload 6, 2) := by decide +kernel
theorem dL_isPut_84 : decode cL_isPut 84 = .ok (.iload 4, 2) := by decide +kernel
theorem dL_isPut_86 : decode cL_isPut 86 = .ok (.bipush 9, 2) := by decide +kernel
theorem dL_isPut_88 : decode cL_isPut 88 = .ok (.irem, 1) := by decide +kernel
theorem dL_isPut_89 : decode cL_isPut 89 = .ok (.iconst 3, 1) := by decide +kernel
theorem dL_isPut_90 : decode cL_isPut 90 = .ok (.isub, 1) := by decide +kernel
theorem dL_isPut_91 : decode cL_isPut 91 = .ok (.iload 5, 2) := by decide +kernel
theorem dL_isPut_93 : decode cL_isPut 93 = .ok (.bipush 50, 2) := by decide +kernel
theorem dL_isPut_95 : decode cL_isPut 95 = .ok (.irem, 1) := by decide +kernel
theorem dL_isPut_96 : decode cL_isPut 96 = .ok (.bipush 20, 2) := by decide +kernel
theorem dL_isPut_98 : decode cL_isPut 98 = .ok (.isub, 1) := by decide +kernel
theorem dL_isPut_99 : decode cL_isPut 99 = .ok (.invokestatic 171, 3) := by decide +kernel
theorem dL_isPut_102 : decode cL_isPut 102 = .ok (.istore 9, 2) := by decide +kernel
theorem dL_isPut_104 : decode cL_isPut 104 = .ok (.iload 9, 2) := by decide +kernel
theorem dL_isPut_106 : decode cL_isPut 106 = .ok (.iload 7, 2) := by decide +kernel
theorem dL_isPut_108 : decode cL_isPut 108 = .ok (.bipush 12, 2) := by decide +kernel
theorem dL_isPut_110 : decode cL_isPut 110 = .ok (.if_icmp .ne 8, 3) := by decide +kernel
theorem dL_isPut_113 : decode cL_isPut 113 = .ok (.bipush (-10), 2) := by decide +kernel
theorem dL_isPut_115 : decode cL_isPut 115 = .ok (.goto 7, 3) := by decide +kernel
theorem dL_isPut_118 : decode cL_isPut 118 = .ok (.iload 7, 2) := by decide +kernel
theorem dL_isPut_120 : decode cL_isPut 120 = .ok (.iconst 1, 1) := by decide +kernel
theorem dL_isPut_121 : decode cL_isPut 121 = .ok (.iadd, 1) := by decide +kernel
theorem dL_isPut_122 : decode cL_isPut 122 = .ok (.if_icmp .ne 7, 3) := by decide +kernel
theorem dL_isPut_125 : decode cL_isPut 125 = .ok (.iconst 1, 1) := by decide +kernel
theorem dL_isPut_126 : decode cL_isPut 126 = .ok (.goto 4, 3) := by decide +kernel
theorem dL_isPut_129 : decode cL_isPut 129 = .ok (.iconst 0, 1) := by decide +kernel
theorem dL_isPut_130 : decode cL_isPut 130 = .ok (.istore 10, 2) := by decide +kernel
theorem dL_isPut_132 : decode cL_isPut 132 = .ok (.iconst 0, 1) := by decide +kernel
theorem dL_isPut_133 : decode cL_isPut 133 = .ok (.istore 11, 2) := by decide +kernel
theorem dL_isPut_135 : decode cL_isPut 135 = .ok (.iload 11, 2) := by decide +kernel
theorem dL_isPut_137 : decode cL_isPut 137 = .ok (.aload_n 2, 1) := by decide +kernel
theorem dL_isPut_138 : decode cL_isPut 138 = .ok (.iconst 0, 1) := by decide +kernel
theorem dL_isPut_139 : decode cL_isPut 139 = .ok (.iaload, 1) := by decide +kernel
theorem dL_isPut_140 : decode cL_isPut 140 = .ok (.if_icmp .ge 37, 3) := by decide +kernel
theorem dL_isPut_143 : decode cL_isPut 143 = .ok (.iload 10, 2) := by decide +kernel
theorem dL_isPut_145 : decode cL_isPut 145 = .ok (.ifCond .eq 32, 3) := by decide +kernel
theorem dL_isPut_148 : decode cL_isPut 148 = .ok (.iload 7, 2) := by decide +kernel
theorem dL_isPut_150 : decode cL_isPut 150 = .ok (.bipush 12, 2) := by decide +kernel
theorem dL_isPut_152 : decode cL_isPut 152 = .ok (.if_icmp .ge 25, 3) := by decide +kernel
theorem dL_isPut_155 : decode cL_isPut 155 = .ok (.aload_n 0, 1) := by decide +kernel
theorem dL_isPut_156 : decode cL_isPut 156 = .ok (.iload 11, 2) := by decide +kernel
theorem dL_isPut_158 : decode cL_isPut 158 = .ok (.invokevirtual 88, 3) := by decide +kernel
theorem dL_isPut_161 : decode cL_isPut 161 = .ok (.ifCond .ne 7, 3) := by decide +kernel
theorem dL_isPut_164 : decode cL_isPut 164 = .ok (.iconst 1, 1) := by decide +kernel
theorem dL_isPut_165 : decode cL_isPut 165 = .ok (.goto 4, 3) := by decide +kernel
theorem dL_isPut_168 : decode cL_isPut 168 = .ok (.iconst 0, 1) := by decide +kernel
theorem dL_isPut_169 : decode cL_isPut 169 = .ok (.istore 10, 2) := by decide +kernel
theorem dL_isPut_171 : decode cL_isPut 171 = .ok (.iinc 11 1, 3) := by decide +kernel
theorem dL_isPut_174 : decode cL_isPut 174 = .ok (.goto (-39), 3) := by decide +kernel
theorem dL_isPut_177 : decode cL_isPut 177 = .ok (.iload 10, 2) := by decide +kernel
theorem dL_isPut_179 : decode cL_isPut 179 = .ok (.ifCond .eq 49, 3) := by decide +kernel
theorem dL_isPut_182 : decode cL_isPut 182 = .ok (.iload 7, 2) := by decide +kernel
theorem dL_isPut_184 : decode cL_isPut 184 = .ok (.bipush 12, 2) := by decide +kernel
theorem dL_isPut_186 : decode cL_isPut 186 = .ok (.if_icmp .eq 38, 3) := by decide +kernel
theorem dL_isPut_189 : decode cL_isPut 189 = .ok (.aload_n 0, 1) := by decide +kernel
theorem dL_isPut_190 : decode cL_isPut 190 = .ok (.iload 6, 2) := by decide +kernel
theorem dL_isPut_192 : decode cL_isPut 192 = .ok (.iload 8, 2) := by decide +kernel
theorem dL_isPut_194 : decode cL_isPut 194 = .ok (.iload 7, 2) := by decide +kernel
theorem dL_isPut_196 : decode cL_isPut 196 = .ok (.aload_n 0, 1) := by decide +kernel
theorem dL_isPut_197 : decode cL_isPut 197 = .ok (.iload 6, 2) := by decide +kernel
theorem dL_isPut_199 : decode cL_isPut 199 = .ok (.invokevirtual 58, 3) := by decide +kernel
theorem dL_isPut_202 : decode cL_isPut 202 = .ok (.idiv, 1) := by decide +kernel
theorem dL_isPut_203 : decode cL_isPut 203 = .ok (.iload 4, 2) := by decide +kernel
theorem dL_isPut_205 : decode cL_isPut 205 = .ok (.bipush 9, 2) := by decide +kernel
theorem dL_isPut_207 : decode cL_isPut 207 = .ok (.irem, 1) := by decide +kernel
theorem dL_isPut_208 : decode cL_isPut 208 = .ok (.iconst 3, 1) := by decide +kernel
theorem dL_isPut_209 : decode cL_isPut 209 = .ok (.isub, 1) := by decide +kernel
theorem dL_isPut_210 : decode cL_isPut 210 = .ok (.iload 5, 2) := by decide +kernel
theorem dL_isPut_212 : decode cL_isPut 212 = .ok (.bipush 50, 2) := by decide +kernel
theorem dL_isPut_214 : decode cL_isPut 214 = .ok (.irem, 1) := by decide +kernel
theorem dL_isPut_215 : decode cL_isPut 215 = .ok (.bipush 20, 2) := by decide +kernel
theorem dL_isPut_217 : decode cL_isPut 217 = .ok (.isub, 1) := by decide +kernel
theorem dL_isPut_218 : decode cL_isPut 218 = .ok (.invokestatic 108, 3) := by decide +kernel
theorem dL_isPut_221 : decode cL_isPut 221 = .ok (.ifCond .eq 7, 3) := by decide +kernel
theorem dL_isPut_224 : decode cL_isPut 224 = .ok (.iconst 1, 1) := by decide +kernel
theorem dL_isPut_225 : decode cL_isPut 225 = .ok (.goto 4, 3) := by decide +kernel
theorem dL_isPut_228 : decode cL_isPut 228 = .ok (.iconst 0, 1) := by decide +kernel
theorem dL_isPut_229 : decode cL_isPut 229 = .ok (.ireturn, 1) := by decide +kernel
theorem dL_isRun_0 : decode cL_isRun 0 = .ok (.aload_n 0, 1) := by decide +kernel
theorem dL_isRun_1 : decode cL_isRun 1 = .ok (.iload_n 3, 1) := by decide +kernel
theorem dL_isRun_2 : decode cL_isRun 2 = .ok (.invokevirtual 76, 3) := by decide +kernel
theorem dL_isRun_5 : decode cL_isRun 5 = .ok (.istore 4, 2) := by decide +kernel
theorem dL_isRun_7 : decode cL_isRun 7 = .ok (.aload_n 0, 1) := by decide +kernel
theorem dL_isRun_8 : decode cL_isRun 8 = .ok (.iload_n 3, 1) := by decide +kernel
theorem dL_isRun_9 : decode cL_isRun 9 = .ok (.invokevirtual 88, 3) := by decide +kernel
theorem dL_isRun_12 : decode cL_isRun 12 = .ok (.istore 5, 2) := by decide +kernel
theorem dL_isRun_14 : decode cL_isRun 14 = .ok (.iconst 0, 1) := by decide +kernel
theorem dL_isRun_15 : decode cL_isRun 15 = .ok (.istore 6, 2) := by decide +kernel
theorem dL_isRun_17 : decode cL_isRun 17 = .ok (.iconst 0, 1) := by decide +kernel
theorem dL_isRun_18 : decode cL_isRun 18 = .ok (.istore 7, 2) := by decide +kernel
theorem dL_isRun_20 : decode cL_isRun 20 = .ok (.iload 7, 2) := by decide +kernel
theorem dL_isRun_22 : decode cL_isRun 22 = .ok (.iload 4, 2) := by decide +kernel
theorem dL_isRun_24 : decode cL_isRun 24 = .ok (.if_icmp .ge 25, 3) := by decide +kernel
theorem dL_isRun_27 : decode cL_isRun 27 = .ok (.iload 6, 2) := by decide +kernel
theorem dL_isRun_29 : decode cL_isRun 29 = .ok (.aload_n 0, 1) := by decide +kernel
theorem dL_isRun_30 : decode cL_isRun 30 = .ok (.aload_n 0, 1) := by decide +kernel
theorem dL_isRun_31 : decode cL_isRun 31 = .ok (.iload_n 3, 1) := by decide +kernel
theorem dL_isRun_32 : decode cL_isRun 32 = .ok (.iload 7, 2) := by decide +kernel
theorem dL_isRun_34 : decode cL_isRun 34 = .ok (.invokevirtual 79, 3) := by decide +kernel
theorem dL_isRun_37 : decode cL_isRun 37 = .ok (.invokevirtual 58, 3) := by decide +kernel
theorem dL_isRun_40 : decode cL_isRun 40 = .ok (.iadd, 1) := by decide +kernel
theorem dL_isRun_41 : decode cL_isRun 41 = .ok (.istore 6, 2) := by decide +kernel
theorem dL_isRun_43 : decode cL_isRun 43 = .ok (.iinc 7 1, 3) := by decide +kernel
theorem dL_isRun_46 : decode cL_isRun 46 = .ok (.goto (-26), 3) := by decide +kernel
theorem dL_isRun_49 : decode cL_isRun 49 = .ok (.aload_n 0, 1) := by decide +kernel
theorem dL_isRun_50 : decode cL_isRun 50 = .ok (.iconst 5, 1) := by decide +kernel
theorem dL_isRun_51 : decode cL_isRun 51 = .ok (.iload_n 3, 1) := by decide +kernel
theorem dL_isRun_52 : decode cL_isRun 52 = .ok (.iconst 0, 1) := by decide +kernel
theorem dL_isRun_53 : decode cL_isRun 53 = .ok (.invokestatic 174, 3) := by decide +kernel
theorem dL_isRun_56 : decode cL_isRun 56 = .ok (.istore 7, 2) := by decide +kernel
theorem dL_isRun_58 : decode cL_isRun 58 = .ok (.iload 7, 2) := by decide +kernel
theorem dL_isRun_60 : decode cL_isRun 60 = .ok (.ifCond .lt 52, 3) := by decide +kernel
theorem dL_isRun_63 : decode cL_isRun 63 = .ok (.iload 7, 2) := by decide +kernel
theorem dL_isRun_65 : decode cL_isRun 65 = .ok (.ifCond .ne 7, 3) := by decide +kernel
theorem dL_isRun_68 : decode cL_isRun 68 = .ok (.iconst 1, 1) := by decide +kernel
theorem dL_isRun_69 : decode cL_isRun 69 = .ok (.goto 4, 3) := by decide +kernel
theorem dL_isRun_72 : decode cL_isRun 72 = .ok (.iconst 0, 1) := by decide +kernel
theorem dL_isRun_73 : decode cL_isRun 73 = .ok (.iload 5, 2) := by decide +kernel
theorem dL_isRun_75 : decode cL_isRun 75 = .ok (.if_icmp .ne 37, 3) := by decide +kernel
theorem dL_isRun_78 : decode cL_isRun 78 = .ok (.aload_n 0, 1) := by decide +kernel
theorem dL_isRun_79 : decode cL_isRun 79 = .ok (.aload_n 2, 1) := by decide +kernel
theorem dL_isRun_80 : decode cL_isRun 80 = .ok (.iload 7, 2) := by decide +kernel
theorem dL_isRun_82 : decode cL_isRun 82 = .ok (.invokestatic 177, 3) := by decide +kernel
theorem dL_isRun_85 : decode cL_isRun 85 = .ok (.ifCond .eq 27, 3) := by decide +kernel
theorem dL_isRun_88 : decode cL_isRun 88 = .ok (.aload_n 0, 1) := by decide +kernel
theorem dL_isRun_89 : decode cL_isRun 89 = .ok (.invokevirtual 147, 3) := by decide +kernel
theorem dL_isRun_92 : decode cL_isRun 92 = .ok (.iload 6, 2) := by decide +kernel
theorem dL_isRun_94 : decode cL_isRun 94 = .ok (.if_icmp .lt 18, 3) := by decide +kernel
theorem dL_isRun_97 : decode cL_isRun 97 = .ok (.aload_n 0, 1) := by decide +kernel
theorem dL_isRun_98 : decode cL_isRun 98 = .ok (.invokevirtual 147, 3) := by decide +kernel
theorem dL_isRun_101 : decode cL_isRun 101 = .ok (.iconst 2, 1) := by decide +kernel
theorem dL_isRun_102 : decode cL_isRun 102 = .ok (.iload 6, 2) := by decide +kernel
theorem dL_isRun_104 : decode cL_isRun 104 = .ok (.imul, 1) := by decide +kernel
theorem dL_isRun_105 : decode cL_isRun 105 = .ok (.if_icmp .gt 7, 3) := by decide +kernel
theorem dL_isRun_108 : decode cL_isRun 108 = .ok (.iconst 1, 1) := by decide +kernel
theorem dL_isRun_109 : decode cL_isRun 109 = .ok (.goto 4, 3) := by decide +kernel
theorem dL_isRun_112 : decode cL_isRun 112 = .ok (.iconst 0, 1) := by decide +kernel
theorem dL_isRun_113 : decode cL_isRun 113 = .ok (.istore 8, 2) := by decide +kernel
theorem dL_isRun_115 : decode cL_isRun 115 = .ok (.iload 8, 2) := by decide +kernel
theorem dL_isRun_117 : decode cL_isRun 117 = .ok (.ifCond .eq 32, 3) := by decide +kernel
theorem dL_isRun_120 : decode cL_isRun 120 = .ok (.aload_n 1, 1) := by decide +kernel
theorem dL_isRun_121 : decode cL_isRun 121 = .ok (.iload_n 3, 1) := by decide +kernel
theorem dL_isRun_122 : decode cL_isRun 122 = .ok (.iaload, 1) := by decide +kernel
theorem dL_isRun_123 : decode cL_isRun 123 = .ok (.ifCond .eq 22, 3) := by decide +kernel
theorem dL_isRun_126 : decode cL_isRun 126 = .ok (.aload_n 0, 1) := by decide +kernel
theorem dL_isRun_127 : decode cL_isRun 127 = .ok (.iload_n 3, 1) := by decide +kernel
theorem dL_isRun_128 : decode cL_isRun 128 = .ok (.invokevirtual 64, 3) := by decide +kernel
theorem dL_isRun_131 : decode cL_isRun 131 = .ok (.aload_n 2, 1) := by decide +kernel
theorem dL_isRun_132 : decode cL_isRun 132 = .ok (.iconst 4, 1) := by decide +kernel
theorem dL_isRun_133 : decode cL_isRun 133 = .ok (.iaload, 1) := by decide +kernel
theorem dL_isRun_134 : decode cL_isRun 134 = .ok (.if_icmp .gt 11, 3) := by decide +kernel
theorem dL_isRun_137 : decode cL_isRun 137 = .ok (.aload_n 0, 1) := by decide +kernel
theorem dL_isRun_138 : decode cL_isRun 138 = .ok (.iload_n 3, 1) := by decide +kernel
theorem dL_isRun_139 : decode cL_isRun 139 = .ok (.invokevirtual 88, 3) := by decide +kernel
theorem dL_isRun_142 : decode cL_isRun 142 = .ok (.ifCond .eq 7, 3) := by decide +kernel
theorem dL_isRun_145 : decode cL_isRun 145 = .ok (.iconst 1, 1) := by decide +kernel
theorem dL_isRun_146 : decode cL_isRun 146 = .ok (.goto 4, 3) := by decide +kernel
theorem dL_isRun_149 : decode cL_isRun 149 = .ok (.iconst 0, 1) := by decide +kernel
theorem dL_isRun_150 : decode cL_isRun 150 = .ok (.ireturn, 1) := by decide +kernel
theorem dL_isDone_0 : decode cL_isDone 0 = .ok (.aload_n 1, 1) := by decide +kernel
theorem dL_isDone_1 : decode cL_isDone 1 = .ok (.iload_n 2, 1) := by decide +kernel
theorem dL_isDone_2 : decode cL_isDone 2 = .ok (.bipush 26, 2) := by decide +kernel
theorem dL_isDone_4 : decode cL_isDone 4 = .ok (.invokestatic 181, 3) := by decide +kernel
theorem dL_isDone_7 : decode cL_isDone 7 = .ok (.istore 11, 2) := by decide +kernel
theorem dL_isDone_9 : decode cL_isDone 9 = .ok (.aload_n 1, 1) := by decide +kernel
theorem dL_isDone_10 : decode cL_isDone 10 = .ok (.iload_n 2, 1) := by decide +kernel
theorem dL_isDone_11 : decode cL_isDone 11 = .ok (.iconst 1, 1) := by decide +kernel
theorem dL_isDone_12 : decode cL_isDone 12 = .ok (.iadd, 1) := by decide +kernel
theorem dL_isDone_13 : decode cL_isDone 13 = .ok (.sipush 6000, 3) := by decide +kernel
theorem dL_isDone_16 : decode cL_isDone 16 = .ok (.invokestatic 181, 3) := by decide +kernel
theorem dL_isDone_19 : decode cL_isDone 19 = .ok (.istore 12, 2) := by decide +kernel
theorem dL_isDone_21 : decode cL_isDone 21 = .ok (.aload_n 1, 1) := by decide +kernel
theorem dL_isDone_22 : decode cL_isDone 22 = .ok (.iload_n 2, 1) := by decide +kernel
theorem dL_isDone_23 : decode cL_isDone 23 = .ok (.iconst 2, 1) := by decide +kernel
theorem dL_isDone_24 : decode cL_isDone 24 = .ok (.iadd, 1) := by decide +kernel
theorem dL_isDone_25 : decode cL_isDone 25 = .ok (.sipush 7000, 3) := by decide +kernel
theorem dL_isDone_28 : decode cL_isDone 28 = .ok (.invokestatic 181, 3) := by decide +kernel
theorem dL_isDone_31 : decode cL_isDone 31 = .ok (.istore 13, 2) := by decide +kernel
theorem dL_isDone_33 : decode cL_isDone 33 = .ok (.aload_n 1, 1) := by decide +kernel
theorem dL_isDone_34 : decode cL_isDone 34 = .ok (.iload_n 2, 1) := by decide +kernel
theorem dL_isDone_35 : decode cL_isDone 35 = .ok (.iconst 3, 1) := by decide +kernel
theorem dL_isDone_36 : decode cL_isDone 36 = .ok (.iadd, 1) := by decide +kernel
theorem dL_isDone_37 : decode cL_isDone 37 = .ok (.sipush 8000, 3) := by decide +kernel
theorem dL_isDone_40 : decode cL_isDone 40 = .ok (.invokestatic 181, 3) := by decide +kernel
theorem dL_isDone_43 : decode cL_isDone 43 = .ok (.istore 14, 2) := by decide +kernel
theorem dL_isDone_45 : decode cL_isDone 45 = .ok (.iload 11, 2) := by decide +kernel
theorem dL_isDone_47 : decode cL_isDone 47 = .ok (.bipush 7, 2) := by decide +kernel
theorem dL_isDone_49 : decode cL_isDone 49 = .ok (.if_icmp .lt 10, 3) := by decide +kernel
theorem dL_isDone_52 : decode cL_isDone 52 = .ok (.aload 10, 2) := by decide +kernel
theorem dL_isDone_54 : decode cL_isDone 54 = .ok (.iconst 0, 1) := by decide +kernel
theorem dL_isDone_55 : decode cL_isDone 55 = .ok (.iaload, 1) := by decide +kernel
theorem dL_isDone_56 : decode cL_isDone 56 = .ok (.ifCond .ne 42, 3) := by decide +kernel
theorem dL_isDone_59 : decode cL_isDone 59 = .ok (.aload_n 0, 1) := by decide +kernel
theorem dL_isDone_60 : decode cL_isDone 60 = .ok (.aload_n 3, 1) := by decide +kernel
theorem dL_isDone_61 : decode cL_isDone 61 = .ok (.aload 4, 2) := by decide +kernel
theorem dL_isDone_63 : decode cL_isDone 63 = .ok (.aload 5, 2) := by decide +kernel
theorem dL_isDone_65 : decode cL_isDone 65 = .ok (.aload 6, 2) := by decide +kernel
theorem dL_isDone_67 : decode cL_isDone 67 = .ok (.aload 7, 2) := by decide +kernel
theorem dL_isDone_69 : decode cL_isDone 69 = .ok (.aload 8, 2) := by decide +kernel
theorem dL_isDone_71 : decode cL_isDone 71 = .ok (.aload 10, 2) := by decide +kernel
theorem dL_isDone_73 : decode cL_isDone 73 = .ok (.aload 10, 2) := by decide +kernel
theorem dL_isDone_75 : decode cL_isDone 75 = .ok (.iconst 0, 1) := by decide +kernel
theorem dL_isDone_76 : decode cL_isDone 76 = .ok (.iaload, 1) := by decide +kernel
theorem dL_isDone_77 : decode cL_isDone 77 = .ok (.ifCond .ne 11, 3) := by decide +kernel
theorem dL_isDone_80 : decode cL_isDone 80 = .ok (.iload 12, 2) := by decide +kernel
theorem dL_isDone_82 : decode cL_isDone 82 = .ok (.bipush 6, 2) := by decide +kernel
theorem dL_isDone_84 : decode cL_isDone 84 = .ok (.imul, 1) := by decide +kernel
theorem dL_isDone_85 : decode cL_isDone 85 = .ok (.goto 5, 3) := by decide +kernel
theorem dL_isDone_88 : decode cL_isDone 88 = .ok (.iload 12, 2) := by decide +kernel
theorem dL_isDone_90 : decode cL_isDone 90 = .ok (.iload 13, 2) := by decide +kernel
theorem dL_isDone_92 : decode cL_isDone 92 = .ok (.iload 14, 2) := by decide +kernel
theorem dL_isDone_94 : decode cL_isDone 94 = .ok (.invokestatic 185, 3) := by decide +kernel
theorem dL_isDone_97 : decode cL_isDone 97 = .ok (.ireturn, 1) := by decide +kernel
theorem dL_isDone_98 : decode cL_isDone 98 = .ok (.iload 11, 2) := by decide +kernel
theorem dL_isDone_100 : decode cL_isDone 100 = .ok (.bipush 14, 2) := by decide +kernel
theorem dL_isDone_102 : decode cL_isDone 102 = .ok (.if_icmp .ge 17, 3) := by decide +kernel
theorem dL_isDone_105 : decode cL_isDone 105 = .ok (.aload_n 0, 1) := by decide +kernel
theorem dL_isDone_106 : decode cL_isDone 106 = .ok (.aload_n 3, 1) := by decide +kernel
theorem dL_isDone_107 : decode cL_isDone 107 = .ok (.aload 10, 2) := by decide +kernel
theorem dL_isDone_109 : decode cL_isDone 109 = .ok (.iload 12, 2) := by decide +kernel
theorem dL_isDone_111 : decode cL_isDone 111 = .ok (.iload 13, 2) := by decide +kernel
theorem dL_isDone_113 : decode cL_isDone 113 = .ok (.iload 14, 2) := by decide +kernel
theorem dL_isDone_115 : decode cL_isDone 115 = .ok (.invokestatic 189, 3) := by decide +kernel
theorem dL_isDone_118 : decode cL_isDone 118 = .ok (.ireturn, 1) := by decide +kernel
theorem dL_isDone_119 : decode cL_isDone 119 = .ok (.iload 11, 2) := by decide +kernel
theorem dL_isDone_121 : decode cL_isDone 121 = .ok (.bipush 19, 2) := by decide +kernel
theorem dL_isDone_123 : decode cL_isDone 123 = .ok (.if_icmp .ge 42, 3) := by decide +kernel
theorem dL_isDone_126 : decode cL_isDone 126 = .ok (.aload_n 0, 1) := by decide +kernel
theorem dL_isDone_127 : decode cL_isDone 127 = .ok (.aload 9, 2) := by decide +kernel
theorem dL_isDone_129 : decode cL_isDone 129 = .ok (.aload 10, 2) := by decide +kernel
theorem dL_isDone_131 : decode cL_isDone 131 = .ok (.iload 12, 2) := by decide +kernel
theorem dL_isDone_133 : decode cL_isDone 133 = .ok (.aload 10, 2) := by decide +kernel
theorem dL_isDone_135 : decode cL_isDone 135 = .ok (.iconst 0, 1) := by decide +kernel
theorem dL_isDone_136 : decode cL_isDone 136 = .ok (.iaload, 1) := by decide +kernel
theorem dL_isDone_137 : decode cL_isDone 137 = .ok (.irem, 1) := by decide +kernel
theorem dL_isDone_138 : decode cL_isDone 138 = .ok (.invokestatic 193, 3) := by decide +kernel
theorem dL_isDone_141 : decode cL_isDone 141 = .ok (.ifCond .eq 22, 3) := by decide +kernel
theorem dL_isDone_144 : decode cL_isDone 144 = .ok (.aload_n 0, 1) := by decide +kernel
theorem dL_isDone_145 : decode cL_isDone 145 = .ok (.iconst 5, 1) := by decide +kernel
theorem dL_isDone_146 : decode cL_isDone 146 = .ok (.aload 10, 2) := by decide +kernel
theorem dL_isDone_148 : decode cL_isDone 148 = .ok (.iconst 0, 1) := by decide +kernel
theorem dL_isDone_149 : decode cL_isDone 149 = .ok (.iaload, 1) := by decide +kernel
theorem dL_isDone_150 : decode cL_isDone 150 = .ok (.iconst 0, 1) := by decide +kernel
theorem dL_isDone_151 : decode cL_isDone 151 = .ok (.invokestatic 174, 3) := by decide +kernel
theorem dL_isDone_154 : decode cL_isDone 154 = .ok (.bipush (-30), 2) := by decide +kernel
theorem dL_isDone_156 : decode cL_isDone 156 = .ok (.if_icmp .ne 7, 3) := by decide +kernel
theorem dL_isDone_159 : decode cL_isDone 159 = .ok (.iconst 1, 1) := by decide +kernel
theorem dL_isDone_160 : decode cL_isDone 160 = .ok (.goto 4, 3) := by decide +kernel
theorem dL_isDone_163 : decode cL_isDone 163 = .ok (.iconst 0, 1) := by decide +kernel
theorem dL_isDone_164 : decode cL_isDone 164 = .ok (.ireturn, 1) := by decide +kernel
theorem dL_isDone_165 : decode cL_isDone 165 = .ok (.iload 11, 2) := by decide +kernel
theorem dL_isDone_167 : decode cL_isDone 167 = .ok (.bipush 19, 2) := by decide +kernel
theorem dL_isDone_169 : decode cL_isDone 169 = .ok (.if_icmp .ne 91, 3) := by decide +kernel
theorem dL_isDone_172 : decode cL_isDone 172 = .ok (.aload 10, 2) := by decide +kernel
theorem dL_isDone_174 : decode cL_isDone 174 = .ok (.iconst 2, 1) := by decide +kernel
theorem dL_isDone_175 : decode cL_isDone 175 = .ok (.iaload, 1) := by decide +kernel
theorem dL_isDone_176 : decode cL_isDone 176 = .ok (.istore 15, 2) := by decide +kernel
theorem dL_isDone_178 : decode cL_isDone 178 = .ok (.aload 10, 2) := by decide +kernel
theorem dL_isDone_180 : decode cL_isDone 180 = .ok (.iconst 2, 1) := by decide +kernel
theorem dL_isDone_181 : decode cL_isDone 181 = .ok (.iload 12, 2) := by decide +kernel
theorem dL_isDone_183 : decode cL_isDone 183 = .ok (.bipush 6, 2) := by decide +kernel
theorem dL_isDone_185 : decode cL_isDone 185 = .ok (.irem, 1) := by decide +kernel
theorem dL_isDone_186 : decode cL_isDone 186 = .ok (.ifCond .le 20, 3) := by decide +kernel
theorem dL_isDone_189 : decode cL_isDone 189 = .ok (.iload 12, 2) := by decide +kernel
theorem dL_isDone_191 : decode cL_isDone 191 = .ok (.bipush 6, 2) := by decide +kernel
theorem dL_isDone_193 : decode cL_isDone 193 = .ok (.irem, 1) := by decide +kernel
theorem dL_isDone_194 : decode cL_isDone 194 = .ok (.iconst 5, 1) := by decide +kernel
theorem dL_isDone_195 : decode cL_isDone 195 = .ok (.if_icmp .ge 11, 3) := by decide +kernel
theorem dL_isDone_198 : decode cL_isDone 198 = .ok (.iload 12, 2) := by decide +kernel
theorem dL_isDone_200 : decode cL_isDone 200 = .ok (.bipush 6, 2) := by decide +kernel
theorem dL_isDone_202 : decode cL_isDone 202 = .ok (.irem, 1) := by decide +kernel
theorem dL_isDone_203 : decode cL_isDone 203 = .ok (.goto 5, 3) := by decide +kernel
theorem dL_isDone_206 : decode cL_isDone 206 = .ok (.iload 15, 2) := by decide +kernel
theorem dL_isDone_208 : decode cL_isDone 208 = .ok (.iastore, 1) := by decide +kernel
theorem dL_isDone_209 : decode cL_isDone 209 = .ok (.aload_n 0, 1) := by decide +kernel
theorem dL_isDone_210 : decode cL_isDone 210 = .ok (.iconst 0, 1) := by decide +kernel
theorem dL_isDone_211 : decode cL_isDone 211 = .ok (.iload 12, 2) := by decide +kernel
theorem dL_isDone_213 : decode cL_isDone 213 = .ok (.bipush 6, 2) := by decide +kernel
theorem dL_isDone_215 : decode cL_isDone 215 = .ok (.irem, 1) := by decide +kernel
theorem dL_isDone_216 : decode cL_isDone 216 = .ok (.iconst 0, 1) := by decide +kernel
theorem dL_isDone_217 : decode cL_isDone 217 = .ok (.invokestatic 174, 3) := by decide +kernel
theorem dL_isDone_220 : decode cL_isDone 220 = .ok (.iload 12, 2) := by decide +kernel
theorem dL_isDone_222 : decode cL_isDone 222 = .ok (.bipush 6, 2) := by decide +kernel
theorem dL_isDone_224 : decode cL_isDone 224 = .ok (.irem, 1) := by decide +kernel
theorem dL_isDone_225 : decode cL_isDone 225 = .ok (.ifCond .le 17, 3) := by decide +kernel
theorem dL_isDone_228 : decode cL_isDone 228 = .ok (.iload 12, 2) := by decide +kernel
theorem dL_isDone_230 : decode cL_isDone 230 = .ok (.bipush 6, 2) := by decide +kernel
theorem dL_isDone_232 : decode cL_isDone 232 = .ok (.irem, 1) := by decide +kernel
theorem dL_isDone_233 : decode cL_isDone 233 = .ok (.iconst 5, 1) := by decide +kernel
theorem dL_isDone_234 : decode cL_isDone 234 = .ok (.if_icmp .ge 8, 3) := by decide +kernel
theorem dL_isDone_237 : decode cL_isDone 237 = .ok (.iload 15, 2) := by decide +kernel
theorem dL_isDone_239 : decode cL_isDone 239 = .ok (.goto 5, 3) := by decide +kernel
theorem dL_isDone_242 : decode cL_isDone 242 = .ok (.bipush (-20), 2) := by decide +kernel
theorem dL_isDone_244 : decode cL_isDone 244 = .ok (.if_icmp .ne 14, 3) := by decide +kernel
theorem dL_isDone_247 : decode cL_isDone 247 = .ok (.aload_n 0, 1) := by decide +kernel
theorem dL_isDone_248 : decode cL_isDone 248 = .ok (.invokevirtual 153, 3) := by decide +kernel
theorem dL_isDone_251 : decode cL_isDone 251 = .ok (.ifCond .lt 7, 3) := by decide +kernel
theorem dL_isDone_254 : decode cL_isDone 254 = .ok (.iconst 1, 1) := by decide +kernel
theorem dL_isDone_255 : decode cL_isDone 255 = .ok (.goto 4, 3) := by decide +kernel
theorem dL_isDone_258 : decode cL_isDone 258 = .ok (.iconst 0, 1) := by decide +kernel
theorem dL_isDone_259 : decode cL_isDone 259 = .ok (.ireturn, 1) := by decide +kernel
theorem dL_isDone_260 : decode cL_isDone 260 = .ok (.iload 11, 2) := by decide +kernel
theorem dL_isDone_262 : decode cL_isDone 262 = .ok (.bipush 20, 2) := by decide +kernel
theorem dL_isDone_264 : decode cL_isDone 264 = .ok (.if_icmp .ne 104, 3) := by decide +kernel
theorem dL_isDone_267 : decode cL_isDone 267 = .ok (.aload_n 0, 1) := by decide +kernel
theorem dL_isDone_268 : decode cL_isDone 268 = .ok (.iconst 1, 1) := by decide +kernel
theorem dL_isDone_269 : decode cL_isDone 269 = .ok (.iload 12, 2) := by decide +kernel
theorem dL_isDone_271 : decode cL_isDone 271 = .ok (.iconst 4, 1) := by decide +kernel
theorem dL_isDone_272 : decode cL_isDone 272 = .ok (.irem, 1) := by decide +kernel
theorem dL_isDone_273 : decode cL_isDone 273 = .ok (.iload 13, 2) := by decide +kernel
theorem dL_isDone_275 : decode cL_isDone 275 = .ok (.bipush 11, 2) := by decide +kernel
theorem dL_isDone_277 : decode cL_isDone 277 = .ok (.irem, 1) := by decide +kernel
theorem dL_isDone_278 : decode cL_isDone 278 = .ok (.invokestatic 174, 3) := by decide +kernel
theorem dL_isDone_281 : decode cL_isDone 281 = .ok (.istore 15, 2) := by decide +kernel
theorem dL_isDone_283 : decode cL_isDone 283 = .ok (.iload 13, 2) := by decide +kernel
theorem dL_isDone_285 : decode cL_isDone 285 = .ok (.bipush 11, 2) := by decide +kernel
theorem dL_isDone_287 : decode cL_isDone 287 = .ok (.irem, 1) := by decide +kernel
theorem dL_isDone_288 : decode cL_isDone 288 = .ok (.ifCond .le 17, 3) := by decide +kernel
theorem dL_isDone_291 : decode cL_isDone 291 = .ok (.iload 13, 2) := by decide +kernel
theorem dL_isDone_293 : decode cL_isDone 293 = .ok (.bipush 11, 2) := by decide +kernel
theorem dL_isDone_295 : decode cL_isDone 295 = .ok (.irem, 1) := by decide +kernel
theorem dL_isDone_296 : decode cL_isDone 296 = .ok (.bipush 10, 2) := by decide +kernel
theorem dL_isDone_298 : decode cL_isDone 298 = .ok (.if_icmp .ge 7, 3) := by decide +kernel
theorem dL_isDone_301 : decode cL_isDone 301 = .ok (.iconst 1, 1) := by decide +kernel
theorem dL_isDone_302 : decode cL_isDone 302 = .ok (.goto 4, 3) := by decide +kernel
theorem dL_isDone_305 : decode cL_isDone 305 = .ok (.iconst 0, 1) := by decide +kernel
theorem dL_isDone_306 : decode cL_isDone 306 = .ok (.istore 16, 2) := by decide +kernel
theorem dL_isDone_308 : decode cL_isDone 308 = .ok (.iload 16, 2) := by decide +kernel
theorem dL_isDone_310 : decode cL_isDone 310 = .ok (.ifCond .eq 45, 3) := by decide +kernel
theorem dL_isDone_313 : decode cL_isDone 313 = .ok (.iload 15, 2) := by decide +kernel
theorem dL_isDone_315 : decode cL_isDone 315 = .ok (.ifCond .le 36, 3) := by decide +kernel
theorem dL_isDone_318 : decode cL_isDone 318 = .ok (.iload 15, 2) := by decide +kernel
theorem dL_isDone_320 : decode cL_isDone 320 = .ok (.bipush 10, 2) := by decide +kernel
theorem dL_isDone_322 : decode cL_isDone 322 = .ok (.if_icmp .ge 29, 3) := by decide +kernel
theorem dL_isDone_325 : decode cL_isDone 325 = .ok (.aload_n 0, 1) := by decide +kernel
theorem dL_isDone_326 : decode cL_isDone 326 = .ok (.iconst 1, 1) := by decide +kernel
theorem dL_isDone_327 : decode cL_isDone 327 = .ok (.iload 12, 2) := by decide +kernel
theorem dL_isDone_329 : decode cL_isDone 329 = .ok (.iconst 4, 1) := by decide +kernel
theorem dL_isDone_330 : decode cL_isDone 330 = .ok (.irem, 1) := by decide +kernel
theorem dL_isDone_331 : decode cL_isDone 331 = .ok (.iload 13, 2) := by decide +kernel
theorem dL_isDone_333 : decode cL_isDone 333 = .ok (.bipush 11, 2) := by decide +kernel
theorem dL_isDone_335 : decode cL_isDone 335 = .ok (.irem, 1) := by decide +kernel
theorem dL_isDone_336 : decode cL_isDone 336 = .ok (.invokestatic 174, 3) := by decide +kernel
theorem dL_isDone_339 : decode cL_isDone 339 = .ok (.iload 13, 2) := by decide +kernel
theorem dL_isDone_341 : decode cL_isDone 341 = .ok (.bipush 11, 2) := by decide +kernel
theorem dL_isDone_343 : decode cL_isDone 343 = .ok (.irem, 1) := by decide +kernel
theorem dL_isDone_344 : decode cL_isDone 344 = .ok (.if_icmp .ne 7, 3) := by decide +kernel
theorem dL_isDone_347 : decode cL_isDone 347 = .ok (.iconst 1, 1) := by decide +kernel
theorem dL_isDone_348 : decode cL_isDone 348 = .ok (.goto 19, 3) := by decide +kernel
theorem dL_isDone_351 : decode cL_isDone 351 = .ok (.iconst 0, 1) := by decide +kernel
theorem dL_isDone_352 : decode cL_isDone 352 = .ok (.goto 15, 3) := by decide +kernel
theorem dL_isDone_355 : decode cL_isDone 355 = .ok (.iload 15, 2) := by decide +kernel
theorem dL_isDone_357 : decode cL_isDone 357 = .ok (.bipush (-20), 2) := by decide +kernel
theorem dL_isDone_359 : decode cL_isDone 359 = .ok (.if_icmp .ne 7, 3) := by decide +kernel
theorem dL_isDone_362 : decode cL_isDone 362 = .ok (.iconst 1, 1) := by decide +kernel
theorem dL_isDone_363 : decode cL_isDone 363 = .ok (.goto 4, 3) := by decide +kernel
theorem dL_isDone_366 : decode cL_isDone 366 = .ok (.iconst 0, 1) := by decide +kernel
theorem dL_isDone_367 : decode cL_isDone 367 = .ok (.ireturn, 1) := by decide +kernel
theorem dL_isDone_368 : decode cL_isDone 368 = .ok (.iload 11, 2) := by decide +kernel
theorem dL_isDone_370 : decode cL_isDone 370 = .ok (.bipush 21, 2) := by decide +kernel
theorem dL_isDone_372 : decode cL_isDone 372 = .ok (.if_icmp .ne 54, 3) := by decide +kernel
theorem dL_isDone_375 : decode cL_isDone 375 = .ok (.aload 10, 2) := by decide +kernel
theorem dL_isDone_377 : decode cL_isDone 377 = .ok (.iconst 3, 1) := by decide +kernel
theorem dL_isDone_378 : decode cL_isDone 378 = .ok (.iaload, 1) := by decide +kernel
theorem dL_isDone_379 : decode cL_isDone 379 = .ok (.istore 15, 2) := by decide +kernel
theorem dL_isDone_381 : decode cL_isDone 381 = .ok (.aload 10, 2) := by decide +kernel
theorem dL_isDone_383 : decode cL_isDone 383 = .ok (.iconst 3, 1) := by decide +kernel
theorem dL_isDone_384 : decode cL_isDone 384 = .ok (.iload 13, 2) := by decide +kernel
theorem dL_isDone_386 : decode cL_isDone 386 = .ok (.bipush 40, 2) := by decide +kernel
theorem dL_isDone_388 : decode cL_isDone 388 = .ok (.irem, 1) := by decide +kernel
theorem dL_isDone_389 : decode cL_isDone 389 = .ok (.iastore, 1) := by decide +kernel
theorem dL_isDone_390 : decode cL_isDone 390 = .ok (.aload_n 0, 1) := by decide +kernel
theorem dL_isDone_391 : decode cL_isDone 391 = .ok (.iconst 2, 1) := by decide +kernel
theorem dL_isDone_392 : decode cL_isDone 392 = .ok (.iload 13, 2) := by decide +kernel
theorem dL_isDone_394 : decode cL_isDone 394 = .ok (.bipush 40, 2) := by decide +kernel
theorem dL_isDone_396 : decode cL_isDone 396 = .ok (.irem, 1) := by decide +kernel
theorem dL_isDone_397 : decode cL_isDone 397 = .ok (.iconst 0, 1) := by decide +kernel
theorem dL_isDone_398 : decode cL_isDone 398 = .ok (.invokestatic 174, 3) := by decide +kernel
theorem dL_isDone_401 : decode cL_isDone 401 = .ok (.iload 15, 2) := by decide +kernel
theorem dL_isDone_403 : decode cL_isDone 403 = .ok (.if_icmp .ne 21, 3) := by decide +kernel
theorem dL_isDone_406 : decode cL_isDone 406 = .ok (.aload_n 0, 1) := by decide +kernel
theorem dL_isDone_407 : decode cL_isDone 407 = .ok (.iconst 2, 1) := by decide +kernel
theorem dL_isDone_408 : decode cL_isDone 408 = .ok (.sipush 1001, 3) := by decide +kernel
theorem dL_isDone_411 : decode cL_isDone 411 = .ok (.iconst 0, 1) := by decide +kernel
theorem dL_isDone_412 : decode cL_isDone 412 = .ok (.invokestatic 174, 3) := by decide +kernel
theorem dL_isDone_415 : decode cL_isDone 415 = .ok (.bipush (-20), 2) := by decide +kernel
theorem dL_isDone_417 : decode cL_isDone 417 = .ok (.if_icmp .ne 7, 3) := by decide +kernel
theorem dL_isDone_420 : decode cL_isDone 420 = .ok (.iconst 1, 1) := by decide +kernel
theorem dL_isDone_421 : decode cL_isDone 421 = .ok (.goto 4, 3) := by decide +kernel
theorem dL_isDone_424 : decode cL_isDone 424 = .ok (.iconst 0, 1) := by decide +kernel
theorem dL_isDone_425 : decode cL_isDone 425 = .ok (.ireturn, 1) := by decide +kernel
theorem dL_isDone_426 : decode cL_isDone 426 = .ok (.iload 11, 2) := by decide +kernel
theorem dL_isDone_428 : decode cL_isDone 428 = .ok (.bipush 22, 2) := by decide +kernel
theorem dL_isDone_430 : decode cL_isDone 430 = .ok (.if_icmp .ne 95, 3) := by decide +kernel
theorem dL_isDone_433 : decode cL_isDone 433 = .ok (.aload 10, 2) := by decide +kernel
theorem dL_isDone_435 : decode cL_isDone 435 = .ok (.iconst 1, 1) := by decide +kernel
theorem dL_isDone_436 : decode cL_isDone 436 = .ok (.iaload, 1) := by decide +kernel
theorem dL_isDone_437 : decode cL_isDone 437 = .ok (.istore 15, 2) := by decide +kernel
theorem dL_isDone_439 : decode cL_isDone 439 = .ok (.aload 10, 2) := by decide +kernel
theorem dL_isDone_441 : decode cL_isDone 441 = .ok (.iconst 1, 1) := by decide +kernel
theorem dL_isDone_442 : decode cL_isDone 442 = .ok (.iload 13, 2) := by decide +kernel
theorem dL_isDone_444 : decode cL_isDone 444 = .ok (.bipush 14, 2) := by decide +kernel
theorem dL_isDone_446 : decode cL_isDone 446 = .ok (.irem, 1) := by decide +kernel
theorem dL_isDone_447 : decode cL_isDone 447 = .ok (.iastore, 1) := by decide +kernel
theorem dL_isDone_448 : decode cL_isDone 448 = .ok (.aload_n 0, 1) := by decide +kernel
theorem dL_isDone_449 : decode cL_isDone 449 = .ok (.iconst 3, 1) := by decide +kernel
theorem dL_isDone_450 : decode cL_isDone 450 = .ok (.iload 13, 2) := by decide +kernel
theorem dL_isDone_452 : decode cL_isDone 452 = .ok (.bipush 14, 2) := by decide +kernel
theorem dL_isDone_454 : decode cL_isDone 454 = .ok (.irem, 1) := by decide +kernel
theorem dL_isDone_455 : decode cL_isDone 455 = .ok (.iconst 0, 1) := by decide +kernel
theorem dL_isDone_456 : decode cL_isDone 456 = .ok (.invokestatic 174, 3) := by decide +kernel
theorem dL_isDone_459 : decode cL_isDone 459 = .ok (.iload 15, 2) := by decide +kernel
theorem dL_isDone_461 : decode cL_isDone 461 = .ok (.if_icmp .ne 19, 3) := by decide +kernel
theorem dL_isDone_464 : decode cL_isDone 464 = .ok (.aload_n 0, 1) := by decide +kernel
theorem dL_isDone_465 : decode cL_isDone 465 = .ok (.iconst 3, 1) := by decide +kernel
theorem dL_isDone_466 : decode cL_isDone 466 = .ok (.iconst (-1), 1) := by decide +kernel
theorem dL_isDone_467 : decode cL_isDone 467 = .ok (.iconst 0, 1) := by decide +kernel
theorem dL_isDone_468 : decode cL_isDone 468 = .ok (.invokestatic 174, 3) := by decide +kernel
theorem dL_isDone_471 : decode cL_isDone 471 = .ok (.bipush (-20), 2) := by decide +kernel
theorem dL_isDone_473 : decode cL_isDone 473 = .ok (.if_icmp .ne 7, 3) := by decide +kernel
theorem dL_isDone_476 : decode cL_isDone 476 = .ok (.iconst 1, 1) := by decide +kernel
theorem dL_isDone_477 : decode cL_isDone 477 = .ok (.goto 4, 3) := by decide +kernel
theorem dL_isDone_480 : decode cL_isDone 480 = .ok (.iconst 0, 1) := by decide +kernel
theorem dL_isDone_481 : decode cL_isDone 481 = .ok (.istore 16, 2) := by decide +kernel
theorem dL_isDone_483 : decode cL_isDone 483 = .ok (.iconst 0, 1) := by decide +kernel
theorem dL_isDone_484 : decode cL_isDone 484 = .ok (.istore 17, 2) := by decide +kernel
theorem dL_isDone_486 : decode cL_isDone 486 = .ok (.iload 17, 2) := by decide +kernel
theorem dL_isDone_488 : decode cL_isDone 488 = .ok (.aload 10, 2) := by decide +kernel
theorem dL_isDone_490 : decode cL_isDone 490 = .ok (.iconst 0, 1) := by decide +kernel
theorem dL_isDone_491 : decode cL_isDone 491 = .ok (.iaload, 1) := by decide +kernel
theorem dL_isDone_492 : decode cL_isDone 492 = .ok (.if_icmp .ge 30, 3) := by decide +kernel
theorem dL_isDone_495 : decode cL_isDone 495 = .ok (.iload 16, 2) := by decide +kernel
theorem dL_isDone_497 : decode cL_isDone 497 = .ok (.ifCond .eq 25, 3) := by decide +kernel
theorem dL_isDone_500 : decode cL_isDone 500 = .ok (.aload_n 0, 1) := by decide +kernel
theorem dL_isDone_501 : decode cL_isDone 501 = .ok (.iload 17, 2) := by decide +kernel
theorem dL_isDone_503 : decode cL_isDone 503 = .ok (.invokevirtual 88, 3) := by decide +kernel
theorem dL_isDone_506 : decode cL_isDone 506 = .ok (.ifCond .ne 7, 3) := by decide +kernel
theorem dL_isDone_509 : decode cL_isDone 509 = .ok (.iconst 1, 1) := by decide +kernel
theorem dL_isDone_510 : decode cL_isDone 510 = .ok (.goto 4, 3) := by decide +kernel
theorem dL_isDone_513 : decode cL_isDone 513 = .ok (.iconst 0, 1) := by decide +kernel
theorem dL_isDone_514 : decode cL_isDone 514 = .ok (.istore 16, 2) := by decide +kernel
theorem dL_isDone_516 : decode cL_isDone 516 = .ok (.iinc 17 1, 3) := by decide +kernel
theorem dL_isDone_519 : decode cL_isDone 519 = .ok (.goto (-33), 3) := by decide +kernel
theorem dL_isDone_522 : decode cL_isDone 522 = .ok (.iload 16, 2) := by decide +kernel
theorem dL_isDone_524 : decode cL_isDone 524 = .ok (.ireturn, 1) := by decide +kernel
theorem dL_isDone_525 : decode cL_isDone 525 = .ok (.iload 11, 2) := by decide +kernel
theorem dL_isDone_527 : decode cL_isDone 527 = .ok (.bipush 23, 2) := by decide +kernel
theorem dL_isDone_529 : decode cL_isDone 529 = .ok (.if_icmp .ne 129, 3) := by decide +kernel
theorem dL_isDone_532 : decode cL_isDone 532 = .ok (.iconst 0, 1) := by decide +kernel
theorem dL_isDone_533 : decode cL_isDone 533 = .ok (.istore 15, 2) := by decide +kernel
theorem dL_isDone_535 : decode cL_isDone 535 = .ok (.iconst 0, 1) := by decide +kernel
theorem dL_isDone_536 : decode cL_isDone 536 = .ok (.istore 16, 2) := by decide +kernel
theorem dL_isDone_538 : decode cL_isDone 538 = .ok (.iload 16, 2) := by decide +kernel
theorem dL_isDone_540 : decode cL_isDone 540 = .ok (.aload 10, 2) := by decide +kernel
theorem dL_isDone_542 : decode cL_isDone 542 = .ok (.iconst 0, 1) := by decide +kernel
theorem dL_isDone_543 : decode cL_isDone 543 = .ok (.iaload, 1) := by decide +kernel
theorem dL_isDone_544 : decode cL_isDone 544 = .ok (.if_icmp .ge 28, 3) := by decide +kernel
theorem dL_isDone_547 : decode cL_isDone 547 = .ok (.iload 15, 2) := by decide +kernel
theorem dL_isDone_549 : decode cL_isDone 549 = .ok (.aload_n 0, 1) := by decide +kernel
theorem dL_isDone_550 : decode cL_isDone 550 = .ok (.iload 16, 2) := by decide +kernel
theorem dL_isDone_552 : decode cL_isDone 552 = .ok (.invokevirtual 88, 3) := by decide +kernel
theorem dL_isDone_555 : decode cL_isDone 555 = .ok (.ifCond .eq 7, 3) := by decide +kernel
theorem dL_isDone_558 : decode cL_isDone 558 = .ok (.iconst 1, 1) := by decide +kernel
theorem dL_isDone_559 : decode cL_isDone 559 = .ok (.goto 4, 3) := by decide +kernel
theorem dL_isDone_562 : decode cL_isDone 562 = .ok (.iconst 0, 1) := by decide +kernel
theorem dL_isDone_563 : decode cL_isDone 563 = .ok (.iadd, 1) := by decide +kernel
theorem dL_isDone_564 : decode cL_isDone 564 = .ok (.istore 15, 2) := by decide +kernel
theorem dL_isDone_566 : decode cL_isDone 566 = .ok (.iinc 16 1, 3) := by decide +kernel
theorem dL_isDone_569 : decode cL_isDone 569 = .ok (.goto (-31), 3) := by decide +kernel
theorem dL_isDone_572 : decode cL_isDone 572 = .ok (.aload 10, 2) := by decide +kernel
theorem dL_isDone_574 : decode cL_isDone 574 = .ok (.iconst 4, 1) := by decide +kernel
theorem dL_isDone_575 : decode cL_isDone 575 = .ok (.iload 13, 2) := by decide +kernel
theorem dL_isDone_577 : decode cL_isDone 577 = .ok (.bipush 60, 2) := by decide +kernel
theorem dL_isDone_579 : decode cL_isDone 579 = .ok (.irem, 1) := by decide +kernel
theorem dL_isDone_580 : decode cL_isDone 580 = .ok (.iastore, 1) := by decide +kernel
theorem dL_isDone_581 : decode cL_isDone 581 = .ok (.aload_n 0, 1) := by decide +kernel
theorem dL_isDone_582 : decode cL_isDone 582 = .ok (.iconst 4, 1) := by decide +kernel
theorem dL_isDone_583 : decode cL_isDone 583 = .ok (.iload 13, 2) := by decide +kernel
theorem dL_isDone_585 : decode cL_isDone 585 = .ok (.bipush 60, 2) := by decide +kernel
theorem dL_isDone_587 : decode cL_isDone 587 = .ok (.irem, 1) := by decide +kernel
theorem dL_isDone_588 : decode cL_isDone 588 = .ok (.iconst 0, 1) := by decide +kernel
theorem dL_isDone_589 : decode cL_isDone 589 = .ok (.invokestatic 174, 3) := by decide +kernel
theorem dL_isDone_592 : decode cL_isDone 592 = .ok (.istore 16, 2) := by decide +kernel
theorem dL_isDone_594 : decode cL_isDone 594 = .ok (.iconst 0, 1) := by decide +kernel
theorem dL_isDone_595 : decode cL_isDone 595 = .ok (.istore 17, 2) := by decide +kernel
theorem dL_isDone_597 : decode cL_isDone 597 = .ok (.iload 17, 2) := by decide +kernel
theorem dL_isDone_599 : decode cL_isDone 599 = .ok (.aload 10, 2) := by decide +kernel
theorem dL_isDone_601 : decode cL_isDone 601 = .ok (.iconst 0, 1) := by decide +kernel
theorem dL_isDone_602 : decode cL_isDone 602 = .ok (.iaload, 1) := by decide +kernel
theorem dL_isDone_603 : decode cL_isDone 603 = .ok (.if_icmp .ge 28, 3) := by decide +kernel
theorem dL_isDone_606 : decode cL_isDone 606 = .ok (.iload 15, 2) := by decide +kernel
theorem dL_isDone_608 : decode cL_isDone 608 = .ok (.aload_n 0, 1) := by decide +kernel
theorem dL_isDone_609 : decode cL_isDone 609 = .ok (.iload 17, 2) := by decide +kernel
theorem dL_isDone_611 : decode cL_isDone 611 = .ok (.invokevirtual 88, 3) := by decide +kernel
theorem dL_isDone_614 : decode cL_isDone 614 = .ok (.ifCond .eq 7, 3) := by decide +kernel
theorem dL_isDone_617 : decode cL_isDone 617 = .ok (.iconst 1, 1) := by decide +kernel
theorem dL_isDone_618 : decode cL_isDone 618 = .ok (.goto 4, 3) := by decide +kernel
theorem dL_isDone_621 : decode cL_isDone 621 = .ok (.iconst 0, 1) := by decide +kernel
theorem dL_isDone_622 : decode cL_isDone 622 = .ok (.isub, 1) := by decide +kernel
theorem dL_isDone_623 : decode cL_isDone 623 = .ok (.istore 15, 2) := by decide +kernel
theorem dL_isDone_625 : decode cL_isDone 625 = .ok (.iinc 17 1, 3) := by decide +kernel
theorem dL_isDone_628 : decode cL_isDone 628 = .ok (.goto (-31), 3) := by decide +kernel
theorem dL_isDone_631 : decode cL_isDone 631 = .ok (.iload 16, 2) := by decide +kernel
theorem dL_isDone_633 : decode cL_isDone 633 = .ok (.iload 15, 2) := by decide +kernel
theorem dL_isDone_635 : decode cL_isDone 635 = .ok (.if_icmp .ne 21, 3) := by decide +kernel
theorem dL_isDone_638 : decode cL_isDone 638 = .ok (.aload_n 0, 1) := by decide +kernel
theorem dL_isDone_639 : decode cL_isDone 639 = .ok (.iconst 4, 1) := by decide +kernel
theorem dL_isDone_640 : decode cL_isDone 640 = .ok (.sipush 1001, 3) := by decide +kernel
theorem dL_isDone_643 : decode cL_isDone 643 = .ok (.iconst 0, 1) := by decide +kernel
theorem dL_isDone_644 : decode cL_isDone 644 = .ok (.invokestatic 174, 3) := by decide +kernel
theorem dL_isDone_647 : decode cL_isDone 647 = .ok (.bipush (-20), 2) := by decide +kernel
theorem dL_isDone_649 : decode cL_isDone 649 = .ok (.if_icmp .ne 7, 3) := by decide +kernel
theorem dL_isDone_652 : decode cL_isDone 652 = .ok (.iconst 1, 1) := by decide +kernel
theorem dL_isDone_653 : decode cL_isDone 653 = .ok (.goto 4, 3) := by decide +kernel
theorem dL_isDone_656 : decode cL_isDone 656 = .ok (.iconst 0, 1) := by decide +kernel
theorem dL_isDone_657 : decode cL_isDone 657 = .ok (.ireturn, 1) := by decide +kernel
theorem dL_isDone_658 : decode cL_isDone 658 = .ok (.iload 12, 2) := by decide +kernel
theorem dL_isDone_660 : decode cL_isDone 660 = .ok (.aload 10, 2) := by decide +kernel
theorem dL_isDone_662 : decode cL_isDone 662 = .ok (.iconst 0, 1) := by decide +kernel
theorem dL_isDone_663 : decode cL_isDone 663 = .ok (.iaload, 1) := by decide +kernel
theorem dL_isDone_664 : decode cL_isDone 664 = .ok (.irem, 1) := by decide +kernel
theorem dL_isDone_665 : decode cL_isDone 665 = .ok (.istore 15, 2) := by decide +kernel
theorem dL_isDone_667 : decode cL_isDone 667 = .ok (.aload 9, 2) := by decide +kernel
theorem dL_isDone_669 : decode cL_isDone 669 = .ok (.iload 15, 2) := by decide +kernel
theorem dL_isDone_671 : decode cL_isDone 671 = .ok (.iaload, 1) := by decide +kernel
theorem dL_isDone_672 : decode cL_isDone 672 = .ok (.istore 16, 2) := by decide +kernel
theorem dL_isDone_674 : decode cL_isDone 674 = .ok (.aload 9, 2) := by decide +kernel
theorem dL_isDone_676 : decode cL_isDone 676 = .ok (.iload 15, 2) := by decide +kernel
theorem dL_isDone_678 : decode cL_isDone 678 = .ok (.iload 13, 2) := by decide +kernel
theorem dL_isDone_680 : decode cL_isDone 680 = .ok (.iconst 3, 1) := by decide +kernel
theorem dL_isDone_681 : decode cL_isDone 681 = .ok (.irem, 1) := by decide +kernel
theorem dL_isDone_682 : decode cL_isDone 682 = .ok (.ifCond .ne 7, 3) := by decide +kernel
theorem dL_isDone_685 : decode cL_isDone 685 = .ok (.iconst 0, 1) := by decide +kernel
theorem dL_isDone_686 : decode cL_isDone 686 = .ok (.goto 4, 3) := by decide +kernel
theorem dL_isDone_689 : decode cL_isDone 689 = .ok (.iconst 1, 1) := by decide +kernel
theorem dL_isDone_690 : decode cL_isDone 690 = .ok (.iastore, 1) := by decide +kernel
theorem dL_isDone_691 : decode cL_isDone 691 = .ok (.aload_n 0, 1) := by decide +kernel
theorem dL_isDone_692 : decode cL_isDone 692 = .ok (.iload 15, 2) := by decide +kernel
theorem dL_isDone_694 : decode cL_isDone 694 = .ok (.iload 13, 2) := by decide +kernel
theorem dL_isDone_696 : decode cL_isDone 696 = .ok (.iconst 3, 1) := by decide +kernel
theorem dL_isDone_697 : decode cL_isDone 697 = .ok (.irem, 1) := by decide +kernel
theorem dL_isDone_698 : decode cL_isDone 698 = .ok (.ifCond .le 7, 3) := by decide +kernel
theorem dL_isDone_701 : decode cL_isDone 701 = .ok (.iconst 1, 1) := by decide +kernel
theorem dL_isDone_702 : decode cL_isDone 702 = .ok (.goto 4, 3) := by decide +kernel
theorem dL_isDone_705 : decode cL_isDone 705 = .ok (.iconst 0, 1) := by decide +kernel
theorem dL_isDone_706 : decode cL_isDone 706 = .ok (.invokestatic 196, 3) := by decide +kernel
theorem dL_isDone_709 : decode cL_isDone 709 = .ok (.iload 16, 2) := by decide +kernel
theorem dL_isDone_711 : decode cL_isDone 711 = .ok (.if_icmp .ne 21, 3) := by decide +kernel
theorem dL_isDone_714 : decode cL_isDone 714 = .ok (.aload_n 0, 1) := by decide +kernel
theorem dL_isDone_715 : decode cL_isDone 715 = .ok (.aload 10, 2) := by decide +kernel
theorem dL_isDone_717 : decode cL_isDone 717 = .ok (.iconst 0, 1) := by decide +kernel
theorem dL_isDone_718 : decode cL_isDone 718 = .ok (.iaload, 1) := by decide +kernel
theorem dL_isDone_719 : decode cL_isDone 719 = .ok (.iconst 1, 1) := by decide +kernel
theorem dL_isDone_720 : decode cL_isDone 720 = .ok (.invokestatic 196, 3) := by decide +kernel
theorem dL_isDone_723 : decode cL_isDone 723 = .ok (.bipush (-30), 2) := by decide +kernel
theorem dL_isDone_725 : decode cL_isDone 725 = .ok (.if_icmp .ne 7, 3) := by decide +kernel
theorem dL_isDone_728 : decode cL_isDone 728 = .ok (.iconst 1, 1) := by decide +kernel
theorem dL_isDone_729 : decode cL_isDone 729 = .ok (.goto 4, 3) := by decide +kernel
theorem dL_isDone_732 : decode cL_isDone 732 = .ok (.iconst 0, 1) := by decide +kernel
theorem dL_isDone_733 : decode cL_isDone 733 = .ok (.ireturn, 1) := by decide +kernel
