theorem dL_isMapped_0 : decode cL_isMapped 0 = .ok (.aload_n 2, 1) := by decide +kernel
theorem dL_isMapped_1 : decode cL_isMapped 1 = .ok (.iload 6, 2) := by decide +kernel
theorem dL_isMapped_3 : decode cL_isMapped 3 = .ok (.iaload, 1) := by decide +kernel
theorem dL_isMapped_4 : decode cL_isMapped 4 = .ok (.istore 7, 2) := by decide +kernel
theorem dL_isMapped_6 : decode cL_isMapped 6 = .ok (.aload_n 0, 1) := by decide +kernel
theorem dL_isMapped_7 : decode cL_isMapped 7 = .ok (.iload 6, 2) := by decide +kernel
theorem dL_isMapped_9 : decode cL_isMapped 9 = .ok (.invokevirtual 58, 3) := by decide +kernel
theorem dL_isMapped_12 : decode cL_isMapped 12 = .ok (.aload_n 0, 1) := by decide +kernel
theorem dL_isMapped_13 : decode cL_isMapped 13 = .ok (.iload 7, 2) := by decide +kernel
theorem dL_isMapped_15 : decode cL_isMapped 15 = .ok (.invokevirtual 58, 3) := by decide +kernel
theorem dL_isMapped_18 : decode cL_isMapped 18 = .ok (.if_icmp .ne 7, 3) := by decide +kernel
theorem dL_isMapped_21 : decode cL_isMapped 21 = .ok (.iconst 1, 1) := by decide +kernel
theorem dL_isMapped_22 : decode cL_isMapped 22 = .ok (.goto 4, 3) := by decide +kernel
theorem dL_isMapped_25 : decode cL_isMapped 25 = .ok (.iconst 0, 1) := by decide +kernel
theorem dL_isMapped_26 : decode cL_isMapped 26 = .ok (.istore 8, 2) := by decide +kernel
theorem dL_isMapped_28 : decode cL_isMapped 28 = .ok (.iconst 0, 1) := by decide +kernel
theorem dL_isMapped_29 : decode cL_isMapped 29 = .ok (.istore 9, 2) := by decide +kernel
theorem dL_isMapped_31 : decode cL_isMapped 31 = .ok (.iload 9, 2) := by decide +kernel
theorem dL_isMapped_33 : decode cL_isMapped 33 = .ok (.aload_n 0, 1) := by decide +kernel
theorem dL_isMapped_34 : decode cL_isMapped 34 = .ok (.iload 6, 2) := by decide +kernel
theorem dL_isMapped_36 : decode cL_isMapped 36 = .ok (.invokevirtual 58, 3) := by decide +kernel
theorem dL_isMapped_39 : decode cL_isMapped 39 = .ok (.if_icmp .ge 253, 3) := by decide +kernel
theorem dL_isMapped_42 : decode cL_isMapped 42 = .ok (.iload 8, 2) := by decide +kernel
theorem dL_isMapped_44 : decode cL_isMapped 44 = .ok (.ifCond .eq 248, 3) := by decide +kernel
theorem dL_isMapped_47 : decode cL_isMapped 47 = .ok (.iconst 0, 1) := by decide +kernel
theorem dL_isMapped_48 : decode cL_isMapped 48 = .ok (.istore 10, 2) := by decide +kernel
theorem dL_isMapped_50 : decode cL_isMapped 50 = .ok (.iconst 0, 1) := by decide +kernel
theorem dL_isMapped_51 : decode cL_isMapped 51 = .ok (.istore 11, 2) := by decide +kernel
theorem dL_isMapped_53 : decode cL_isMapped 53 = .ok (.iload 11, 2) := by decide +kernel
theorem dL_isMapped_55 : decode cL_isMapped 55 = .ok (.aload_n 0, 1) := by decide +kernel
theorem dL_isMapped_56 : decode cL_isMapped 56 = .ok (.iload 7, 2) := by decide +kernel
theorem dL_isMapped_58 : decode cL_isMapped 58 = .ok (.iload 9, 2) := by decide +kernel
theorem dL_isMapped_60 : decode cL_isMapped 60 = .ok (.invokevirtual 61, 3) := by decide +kernel
theorem dL_isMapped_63 : decode cL_isMapped 63 = .ok (.if_icmp .ge 198, 3) := by decide +kernel
theorem dL_isMapped_66 : decode cL_isMapped 66 = .ok (.iload 8, 2) := by decide +kernel
theorem dL_isMapped_68 : decode cL_isMapped 68 = .ok (.ifCond .eq 193, 3) := by decide +kernel
theorem dL_isMapped_71 : decode cL_isMapped 71 = .ok (.aload_n 0, 1) := by decide +kernel
theorem dL_isMapped_72 : decode cL_isMapped 72 = .ok (.iload 7, 2) := by decide +kernel
theorem dL_isMapped_74 : decode cL_isMapped 74 = .ok (.iload 9, 2) := by decide +kernel
theorem dL_isMapped_76 : decode cL_isMapped 76 = .ok (.iload 11, 2) := by decide +kernel
theorem dL_isMapped_78 : decode cL_isMapped 78 = .ok (.invokevirtual 67, 3) := by decide +kernel
theorem dL_isMapped_81 : decode cL_isMapped 81 = .ok (.istore 12, 2) := by decide +kernel
theorem dL_isMapped_83 : decode cL_isMapped 83 = .ok (.aload_n 0, 1) := by decide +kernel
theorem dL_isMapped_84 : decode cL_isMapped 84 = .ok (.iload 7, 2) := by decide +kernel
theorem dL_isMapped_86 : decode cL_isMapped 86 = .ok (.iload 9, 2) := by decide +kernel
theorem dL_isMapped_88 : decode cL_isMapped 88 = .ok (.iload 11, 2) := by decide +kernel
theorem dL_isMapped_90 : decode cL_isMapped 90 = .ok (.invokevirtual 70, 3) := by decide +kernel
theorem dL_isMapped_93 : decode cL_isMapped 93 = .ok (.istore 13, 2) := by decide +kernel
theorem dL_isMapped_95 : decode cL_isMapped 95 = .ok (.aload_n 1, 1) := by decide +kernel
theorem dL_isMapped_96 : decode cL_isMapped 96 = .ok (.iload 6, 2) := by decide +kernel
theorem dL_isMapped_98 : decode cL_isMapped 98 = .ok (.iaload, 1) := by decide +kernel
theorem dL_isMapped_99 : decode cL_isMapped 99 = .ok (.iconst 2, 1) := by decide +kernel
theorem dL_isMapped_100 : decode cL_isMapped 100 = .ok (.if_icmp .ne 44, 3) := by decide +kernel
theorem dL_isMapped_103 : decode cL_isMapped 103 = .ok (.iload 13, 2) := by decide +kernel
theorem dL_isMapped_105 : decode cL_isMapped 105 = .ok (.aload_n 3, 1) := by decide +kernel
theorem dL_isMapped_106 : decode cL_isMapped 106 = .ok (.iload 6, 2) := by decide +kernel
theorem dL_isMapped_108 : decode cL_isMapped 108 = .ok (.iaload, 1) := by decide +kernel
theorem dL_isMapped_109 : decode cL_isMapped 109 = .ok (.if_icmp .lt 146, 3) := by decide +kernel
theorem dL_isMapped_112 : decode cL_isMapped 112 = .ok (.iload 13, 2) := by decide +kernel
theorem dL_isMapped_114 : decode cL_isMapped 114 = .ok (.aload 4, 2) := by decide +kernel
theorem dL_isMapped_116 : decode cL_isMapped 116 = .ok (.iload 6, 2) := by decide +kernel
theorem dL_isMapped_118 : decode cL_isMapped 118 = .ok (.iaload, 1) := by decide +kernel
theorem dL_isMapped_119 : decode cL_isMapped 119 = .ok (.if_icmp .gt 136, 3) := by decide +kernel
theorem dL_isMapped_122 : decode cL_isMapped 122 = .ok (.aload_n 0, 1) := by decide +kernel
theorem dL_isMapped_123 : decode cL_isMapped 123 = .ok (.iload 6, 2) := by decide +kernel
theorem dL_isMapped_125 : decode cL_isMapped 125 = .ok (.iload 9, 2) := by decide +kernel
theorem dL_isMapped_127 : decode cL_isMapped 127 = .ok (.iload 10, 2) := by decide +kernel
theorem dL_isMapped_129 : decode cL_isMapped 129 = .ok (.iload 12, 2) := by decide +kernel
theorem dL_isMapped_131 : decode cL_isMapped 131 = .ok (.iload 13, 2) := by decide +kernel
theorem dL_isMapped_133 : decode cL_isMapped 133 = .ok (.invokestatic 108, 3) := by decide +kernel
theorem dL_isMapped_136 : decode cL_isMapped 136 = .ok (.istore 8, 2) := by decide +kernel
theorem dL_isMapped_138 : decode cL_isMapped 138 = .ok (.iinc 10 1, 3) := by decide +kernel
theorem dL_isMapped_141 : decode cL_isMapped 141 = .ok (.goto 114, 3) := by decide +kernel
theorem dL_isMapped_144 : decode cL_isMapped 144 = .ok (.aload_n 3, 1) := by decide +kernel
theorem dL_isMapped_145 : decode cL_isMapped 145 = .ok (.iload 6, 2) := by decide +kernel
theorem dL_isMapped_147 : decode cL_isMapped 147 = .ok (.iaload, 1) := by decide +kernel
theorem dL_isMapped_148 : decode cL_isMapped 148 = .ok (.istore 14, 2) := by decide +kernel
theorem dL_isMapped_150 : decode cL_isMapped 150 = .ok (.aload 4, 2) := by decide +kernel
theorem dL_isMapped_152 : decode cL_isMapped 152 = .ok (.iload 6, 2) := by decide +kernel
theorem dL_isMapped_154 : decode cL_isMapped 154 = .ok (.iaload, 1) := by decide +kernel
theorem dL_isMapped_155 : decode cL_isMapped 155 = .ok (.istore 15, 2) := by decide +kernel
theorem dL_isMapped_157 : decode cL_isMapped 157 = .ok (.aload_n 0, 1) := by decide +kernel
theorem dL_isMapped_158 : decode cL_isMapped 158 = .ok (.iload 6, 2) := by decide +kernel
theorem dL_isMapped_160 : decode cL_isMapped 160 = .ok (.iload 9, 2) := by decide +kernel
theorem dL_isMapped_162 : decode cL_isMapped 162 = .ok (.iload 11, 2) := by decide +kernel
theorem dL_isMapped_164 : decode cL_isMapped 164 = .ok (.iload 14, 2) := by decide +kernel
theorem dL_isMapped_166 : decode cL_isMapped 166 = .ok (.iconst 2, 1) := by decide +kernel
theorem dL_isMapped_167 : decode cL_isMapped 167 = .ok (.if_icmp .ne 11, 3) := by decide +kernel
theorem dL_isMapped_170 : decode cL_isMapped 170 = .ok (.iload 12, 2) := by decide +kernel
theorem dL_isMapped_172 : decode cL_isMapped 172 = .ok (.iload 15, 2) := by decide +kernel
theorem dL_isMapped_174 : decode cL_isMapped 174 = .ok (.iadd, 1) := by decide +kernel
theorem dL_isMapped_175 : decode cL_isMapped 175 = .ok (.goto 32, 3) := by decide +kernel
theorem dL_isMapped_178 : decode cL_isMapped 178 = .ok (.iload 14, 2) := by decide +kernel
theorem dL_isMapped_180 : decode cL_isMapped 180 = .ok (.iconst 3, 1) := by decide +kernel
theorem dL_isMapped_181 : decode cL_isMapped 181 = .ok (.if_icmp .ne 13, 3) := by decide +kernel
theorem dL_isMapped_184 : decode cL_isMapped 184 = .ok (.iload 12, 2) := by decide +kernel
theorem dL_isMapped_186 : decode cL_isMapped 186 = .ok (.iload 15, 2) := by decide +kernel
theorem dL_isMapped_188 : decode cL_isMapped 188 = .ok (.invokestatic 112, 3) := by decide +kernel
theorem dL_isMapped_191 : decode cL_isMapped 191 = .ok (.goto 16, 3) := by decide +kernel
theorem dL_isMapped_194 : decode cL_isMapped 194 = .ok (.iload 14, 2) := by decide +kernel
theorem dL_isMapped_196 : decode cL_isMapped 196 = .ok (.iconst 4, 1) := by decide +kernel
theorem dL_isMapped_197 : decode cL_isMapped 197 = .ok (.if_icmp .ne 8, 3) := by decide +kernel
theorem dL_isMapped_200 : decode cL_isMapped 200 = .ok (.iload 13, 2) := by decide +kernel
theorem dL_isMapped_202 : decode cL_isMapped 202 = .ok (.goto 5, 3) := by decide +kernel
theorem dL_isMapped_205 : decode cL_isMapped 205 = .ok (.iload 12, 2) := by decide +kernel
theorem dL_isMapped_207 : decode cL_isMapped 207 = .ok (.iload 14, 2) := by decide +kernel
theorem dL_isMapped_209 : decode cL_isMapped 209 = .ok (.ifCond .ne 11, 3) := by decide +kernel
theorem dL_isMapped_212 : decode cL_isMapped 212 = .ok (.iload 13, 2) := by decide +kernel
theorem dL_isMapped_214 : decode cL_isMapped 214 = .ok (.iload 15, 2) := by decide +kernel
theorem dL_isMapped_216 : decode cL_isMapped 216 = .ok (.iadd, 1) := by decide +kernel
theorem dL_isMapped_217 : decode cL_isMapped 217 = .ok (.goto 30, 3) := by decide +kernel
theorem dL_isMapped_220 : decode cL_isMapped 220 = .ok (.iload 14, 2) := by decide +kernel
theorem dL_isMapped_222 : decode cL_isMapped 222 = .ok (.iconst 1, 1) := by decide +kernel
theorem dL_isMapped_223 : decode cL_isMapped 223 = .ok (.if_icmp .ne 11, 3) := by decide +kernel
theorem dL_isMapped_226 : decode cL_isMapped 226 = .ok (.iload 13, 2) := by decide +kernel
theorem dL_isMapped_228 : decode cL_isMapped 228 = .ok (.iload 15, 2) := by decide +kernel
theorem dL_isMapped_230 : decode cL_isMapped 230 = .ok (.imul, 1) := by decide +kernel
theorem dL_isMapped_231 : decode cL_isMapped 231 = .ok (.goto 16, 3) := by decide +kernel
theorem dL_isMapped_234 : decode cL_isMapped 234 = .ok (.iload 14, 2) := by decide +kernel
theorem dL_isMapped_236 : decode cL_isMapped 236 = .ok (.iconst 4, 1) := by decide +kernel
theorem dL_isMapped_237 : decode cL_isMapped 237 = .ok (.if_icmp .ne 8, 3) := by decide +kernel
theorem dL_isMapped_240 : decode cL_isMapped 240 = .ok (.iload 12, 2) := by decide +kernel
theorem dL_isMapped_242 : decode cL_isMapped 242 = .ok (.goto 5, 3) := by decide +kernel
theorem dL_isMapped_245 : decode cL_isMapped 245 = .ok (.iload 13, 2) := by decide +kernel
theorem dL_isMapped_247 : decode cL_isMapped 247 = .ok (.invokestatic 108, 3) := by decide +kernel
theorem dL_isMapped_250 : decode cL_isMapped 250 = .ok (.istore 8, 2) := by decide +kernel
theorem dL_isMapped_252 : decode cL_isMapped 252 = .ok (.iinc 10 1, 3) := by decide +kernel
theorem dL_isMapped_255 : decode cL_isMapped 255 = .ok (.iinc 11 1, 3) := by decide +kernel
theorem dL_isMapped_258 : decode cL_isMapped 258 = .ok (.goto (-205), 3) := by decide +kernel
theorem dL_isMapped_261 : decode cL_isMapped 261 = .ok (.iload 8, 2) := by decide +kernel
theorem dL_isMapped_263 : decode cL_isMapped 263 = .ok (.ifCond .eq 20, 3) := by decide +kernel
theorem dL_isMapped_266 : decode cL_isMapped 266 = .ok (.aload_n 0, 1) := by decide +kernel
theorem dL_isMapped_267 : decode cL_isMapped 267 = .ok (.iload 6, 2) := by decide +kernel
theorem dL_isMapped_269 : decode cL_isMapped 269 = .ok (.iload 9, 2) := by decide +kernel
theorem dL_isMapped_271 : decode cL_isMapped 271 = .ok (.invokevirtual 61, 3) := by decide +kernel
theorem dL_isMapped_274 : decode cL_isMapped 274 = .ok (.iload 10, 2) := by decide +kernel
theorem dL_isMapped_276 : decode cL_isMapped 276 = .ok (.if_icmp .ne 7, 3) := by decide +kernel
theorem dL_isMapped_279 : decode cL_isMapped 279 = .ok (.iconst 1, 1) := by decide +kernel
theorem dL_isMapped_280 : decode cL_isMapped 280 = .ok (.goto 4, 3) := by decide +kernel
theorem dL_isMapped_283 : decode cL_isMapped 283 = .ok (.iconst 0, 1) := by decide +kernel
theorem dL_isMapped_284 : decode cL_isMapped 284 = .ok (.istore 8, 2) := by decide +kernel
theorem dL_isMapped_286 : decode cL_isMapped 286 = .ok (.iinc 9 1, 3) := by decide +kernel
theorem dL_isMapped_289 : decode cL_isMapped 289 = .ok (.goto (-258), 3) := by decide +kernel
theorem dL_isMapped_292 : decode cL_isMapped 292 = .ok (.iload 8, 2) := by decide +kernel
theorem dL_isMapped_294 : decode cL_isMapped 294 = .ok (.ireturn, 1) := by decide +kernel
theorem dL_isUnion_0 : decode cL_isUnion 0 = .ok (.aload_n 0, 1) := by decide +kernel
theorem dL_isUnion_1 : decode cL_isUnion 1 = .ok (.aload_n 1, 1) := by decide +kernel
theorem dL_isUnion_2 : decode cL_isUnion 2 = .ok (.iload_n 3, 1) := by decide +kernel
theorem dL_isUnion_3 : decode cL_isUnion 3 = .ok (.iaload, 1) := by decide +kernel
theorem dL_isUnion_4 : decode cL_isUnion 4 = .ok (.invokevirtual 58, 3) := by decide +kernel
theorem dL_isUnion_7 : decode cL_isUnion 7 = .ok (.istore 4, 2) := by decide +kernel
theorem dL_isUnion_9 : decode cL_isUnion 9 = .ok (.aload_n 0, 1) := by decide +kernel
theorem dL_isUnion_10 : decode cL_isUnion 10 = .ok (.iload_n 3, 1) := by decide +kernel
theorem dL_isUnion_11 : decode cL_isUnion 11 = .ok (.invokevirtual 58, 3) := by decide +kernel
theorem dL_isUnion_14 : decode cL_isUnion 14 = .ok (.iload 4, 2) := by decide +kernel
theorem dL_isUnion_16 : decode cL_isUnion 16 = .ok (.aload_n 0, 1) := by decide +kernel
theorem dL_isUnion_17 : decode cL_isUnion 17 = .ok (.aload_n 2, 1) := by decide +kernel
theorem dL_isUnion_18 : decode cL_isUnion 18 = .ok (.iload_n 3, 1) := by decide +kernel
theorem dL_isUnion_19 : decode cL_isUnion 19 = .ok (.iaload, 1) := by decide +kernel
theorem dL_isUnion_20 : decode cL_isUnion 20 = .ok (.invokevirtual 58, 3) := by decide +kernel
theorem dL_isUnion_23 : decode cL_isUnion 23 = .ok (.iadd, 1) := by decide +kernel
theorem dL_isUnion_24 : decode cL_isUnion 24 = .ok (.if_icmp .ne 7, 3) := by decide +kernel
theorem dL_isUnion_27 : decode cL_isUnion 27 = .ok (.iconst 1, 1) := by decide +kernel
theorem dL_isUnion_28 : decode cL_isUnion 28 = .ok (.goto 4, 3) := by decide +kernel
theorem dL_isUnion_31 : decode cL_isUnion 31 = .ok (.iconst 0, 1) := by decide +kernel
theorem dL_isUnion_32 : decode cL_isUnion 32 = .ok (.istore 5, 2) := by decide +kernel
theorem dL_isUnion_34 : decode cL_isUnion 34 = .ok (.iconst 0, 1) := by decide +kernel
theorem dL_isUnion_35 : decode cL_isUnion 35 = .ok (.istore 6, 2) := by decide +kernel
theorem dL_isUnion_37 : decode cL_isUnion 37 = .ok (.iload 6, 2) := by decide +kernel
theorem dL_isUnion_39 : decode cL_isUnion 39 = .ok (.aload_n 0, 1) := by decide +kernel
theorem dL_isUnion_40 : decode cL_isUnion 40 = .ok (.iload_n 3, 1) := by decide +kernel
theorem dL_isUnion_41 : decode cL_isUnion 41 = .ok (.invokevirtual 58, 3) := by decide +kernel
theorem dL_isUnion_44 : decode cL_isUnion 44 = .ok (.if_icmp .ge 133, 3) := by decide +kernel
theorem dL_isUnion_47 : decode cL_isUnion 47 = .ok (.iload 5, 2) := by decide +kernel
theorem dL_isUnion_49 : decode cL_isUnion 49 = .ok (.ifCond .eq 128, 3) := by decide +kernel
theorem dL_isUnion_52 : decode cL_isUnion 52 = .ok (.iload 6, 2) := by decide +kernel
theorem dL_isUnion_54 : decode cL_isUnion 54 = .ok (.iload 4, 2) := by decide +kernel
theorem dL_isUnion_56 : decode cL_isUnion 56 = .ok (.if_icmp .ge 9, 3) := by decide +kernel
theorem dL_isUnion_59 : decode cL_isUnion 59 = .ok (.aload_n 1, 1) := by decide +kernel
theorem dL_isUnion_60 : decode cL_isUnion 60 = .ok (.iload_n 3, 1) := by decide +kernel
theorem dL_isUnion_61 : decode cL_isUnion 61 = .ok (.iaload, 1) := by decide +kernel
theorem dL_isUnion_62 : decode cL_isUnion 62 = .ok (.goto 6, 3) := by decide +kernel
theorem dL_isUnion_65 : decode cL_isUnion 65 = .ok (.aload_n 2, 1) := by decide +kernel
theorem dL_isUnion_66 : decode cL_isUnion 66 = .ok (.iload_n 3, 1) := by decide +kernel
theorem dL_isUnion_67 : decode cL_isUnion 67 = .ok (.iaload, 1) := by decide +kernel
theorem dL_isUnion_68 : decode cL_isUnion 68 = .ok (.istore 7, 2) := by decide +kernel
theorem dL_isUnion_70 : decode cL_isUnion 70 = .ok (.iload 6, 2) := by decide +kernel
theorem dL_isUnion_72 : decode cL_isUnion 72 = .ok (.iload 4, 2) := by decide +kernel
theorem dL_isUnion_74 : decode cL_isUnion 74 = .ok (.if_icmp .ge 8, 3) := by decide +kernel
theorem dL_isUnion_77 : decode cL_isUnion 77 = .ok (.iload 6, 2) := by decide +kernel
theorem dL_isUnion_79 : decode cL_isUnion 79 = .ok (.goto 8, 3) := by decide +kernel
theorem dL_isUnion_82 : decode cL_isUnion 82 = .ok (.iload 6, 2) := by decide +kernel
theorem dL_isUnion_84 : decode cL_isUnion 84 = .ok (.iload 4, 2) := by decide +kernel
theorem dL_isUnion_86 : decode cL_isUnion 86 = .ok (.isub, 1) := by decide +kernel
theorem dL_isUnion_87 : decode cL_isUnion 87 = .ok (.istore 8, 2) := by decide +kernel
theorem dL_isUnion_89 : decode cL_isUnion 89 = .ok (.aload_n 0, 1) := by decide +kernel
theorem dL_isUnion_90 : decode cL_isUnion 90 = .ok (.iload_n 3, 1) := by decide +kernel
theorem dL_isUnion_91 : decode cL_isUnion 91 = .ok (.iload 6, 2) := by decide +kernel
theorem dL_isUnion_93 : decode cL_isUnion 93 = .ok (.invokevirtual 61, 3) := by decide +kernel
theorem dL_isUnion_96 : decode cL_isUnion 96 = .ok (.aload_n 0, 1) := by decide +kernel
theorem dL_isUnion_97 : decode cL_isUnion 97 = .ok (.iload 7, 2) := by decide +kernel
theorem dL_isUnion_99 : decode cL_isUnion 99 = .ok (.iload 8, 2) := by decide +kernel
theorem dL_isUnion_101 : decode cL_isUnion 101 = .ok (.invokevirtual 61, 3) := by decide +kernel
theorem dL_isUnion_104 : decode cL_isUnion 104 = .ok (.if_icmp .ne 7, 3) := by decide +kernel
theorem dL_isUnion_107 : decode cL_isUnion 107 = .ok (.iconst 1, 1) := by decide +kernel
theorem dL_isUnion_108 : decode cL_isUnion 108 = .ok (.goto 4, 3) := by decide +kernel
theorem dL_isUnion_111 : decode cL_isUnion 111 = .ok (.iconst 0, 1) := by decide +kernel
theorem dL_isUnion_112 : decode cL_isUnion 112 = .ok (.istore 5, 2) := by decide +kernel
theorem dL_isUnion_114 : decode cL_isUnion 114 = .ok (.iconst 0, 1) := by decide +kernel
theorem dL_isUnion_115 : decode cL_isUnion 115 = .ok (.istore 9, 2) := by decide +kernel
theorem dL_isUnion_117 : decode cL_isUnion 117 = .ok (.iload 9, 2) := by decide +kernel
theorem dL_isUnion_119 : decode cL_isUnion 119 = .ok (.aload_n 0, 1) := by decide +kernel
theorem dL_isUnion_120 : decode cL_isUnion 120 = .ok (.iload_n 3, 1) := by decide +kernel
theorem dL_isUnion_121 : decode cL_isUnion 121 = .ok (.iload 6, 2) := by decide +kernel
theorem dL_isUnion_123 : decode cL_isUnion 123 = .ok (.invokevirtual 61, 3) := by decide +kernel
theorem dL_isUnion_126 : decode cL_isUnion 126 = .ok (.if_icmp .ge 45, 3) := by decide +kernel
theorem dL_isUnion_129 : decode cL_isUnion 129 = .ok (.iload 5, 2) := by decide +kernel
theorem dL_isUnion_131 : decode cL_isUnion 131 = .ok (.ifCond .eq 40, 3) := by decide +kernel
theorem dL_isUnion_134 : decode cL_isUnion 134 = .ok (.aload_n 0, 1) := by decide +kernel
theorem dL_isUnion_135 : decode cL_isUnion 135 = .ok (.iload_n 3, 1) := by decide +kernel
theorem dL_isUnion_136 : decode cL_isUnion 136 = .ok (.iload 6, 2) := by decide +kernel
theorem dL_isUnion_138 : decode cL_isUnion 138 = .ok (.iload 9, 2) := by decide +kernel
theorem dL_isUnion_140 : decode cL_isUnion 140 = .ok (.aload_n 0, 1) := by decide +kernel
theorem dL_isUnion_141 : decode cL_isUnion 141 = .ok (.iload 7, 2) := by decide +kernel
theorem dL_isUnion_143 : decode cL_isUnion 143 = .ok (.iload 8, 2) := by decide +kernel
theorem dL_isUnion_145 : decode cL_isUnion 145 = .ok (.iload 9, 2) := by decide +kernel
theorem dL_isUnion_147 : decode cL_isUnion 147 = .ok (.invokevirtual 67, 3) := by decide +kernel
theorem dL_isUnion_150 : decode cL_isUnion 150 = .ok (.aload_n 0, 1) := by decide +kernel
theorem dL_isUnion_151 : decode cL_isUnion 151 = .ok (.iload 7, 2) := by decide +kernel
theorem dL_isUnion_153 : decode cL_isUnion 153 = .ok (.iload 8, 2) := by decide +kernel
theorem dL_isUnion_155 : decode cL_isUnion 155 = .ok (.iload 9, 2) := by decide +kernel
theorem dL_isUnion_157 : decode cL_isUnion 157 = .ok (.invokevirtual 70, 3) := by decide +kernel
theorem dL_isUnion_160 : decode cL_isUnion 160 = .ok (.invokestatic 108, 3) := by decide +kernel
theorem dL_isUnion_163 : decode cL_isUnion 163 = .ok (.istore 5, 2) := by decide +kernel
theorem dL_isUnion_165 : decode cL_isUnion 165 = .ok (.iinc 9 1, 3) := by decide +kernel
theorem dL_isUnion_168 : decode cL_isUnion 168 = .ok (.goto (-51), 3) := by decide +kernel
theorem dL_isUnion_171 : decode cL_isUnion 171 = .ok (.iinc 6 1, 3) := by decide +kernel
theorem dL_isUnion_174 : decode cL_isUnion 174 = .ok (.goto (-137), 3) := by decide +kernel
theorem dL_isUnion_177 : decode cL_isUnion 177 = .ok (.iload 5, 2) := by decide +kernel
theorem dL_isUnion_179 : decode cL_isUnion 179 = .ok (.ireturn, 1) := by decide +kernel
theorem dL_grouped_0 : decode cL_grouped 0 = .ok (.iconst 0, 1) := by decide +kernel
theorem dL_grouped_1 : decode cL_grouped 1 = .ok (.istore 4, 2) := by decide +kernel
theorem dL_grouped_3 : decode cL_grouped 3 = .ok (.iconst 0, 1) := by decide +kernel
theorem dL_grouped_4 : decode cL_grouped 4 = .ok (.istore 5, 2) := by decide +kernel
theorem dL_grouped_6 : decode cL_grouped 6 = .ok (.iconst 0, 1) := by decide +kernel
theorem dL_grouped_7 : decode cL_grouped 7 = .ok (.istore 6, 2) := by decide +kernel
theorem dL_grouped_9 : decode cL_grouped 9 = .ok (.iload 6, 2) := by decide +kernel
theorem dL_grouped_11 : decode cL_grouped 11 = .ok (.aload_n 0, 1) := by decide +kernel
theorem dL_grouped_12 : decode cL_grouped 12 = .ok (.iload_n 1, 1) := by decide +kernel
theorem dL_grouped_13 : decode cL_grouped 13 = .ok (.invokevirtual 58, 3) := by decide +kernel
theorem dL_grouped_16 : decode cL_grouped 16 = .ok (.if_icmp .ge 117, 3) := by decide +kernel
theorem dL_grouped_19 : decode cL_grouped 19 = .ok (.iconst 0, 1) := by decide +kernel
theorem dL_grouped_20 : decode cL_grouped 20 = .ok (.istore 7, 2) := by decide +kernel
theorem dL_grouped_22 : decode cL_grouped 22 = .ok (.iload 7, 2) := by decide +kernel
theorem dL_grouped_24 : decode cL_grouped 24 = .ok (.aload_n 0, 1) := by decide +kernel
theorem dL_grouped_25 : decode cL_grouped 25 = .ok (.iload_n 1, 1) := by decide +kernel
theorem dL_grouped_26 : decode cL_grouped 26 = .ok (.iload 6, 2) := by decide +kernel
theorem dL_grouped_28 : decode cL_grouped 28 = .ok (.invokevirtual 61, 3) := by decide +kernel
theorem dL_grouped_31 : decode cL_grouped 31 = .ok (.if_icmp .ge 96, 3) := by decide +kernel
theorem dL_grouped_34 : decode cL_grouped 34 = .ok (.aload_n 0, 1) := by decide +kernel
theorem dL_grouped_35 : decode cL_grouped 35 = .ok (.iload_n 1, 1) := by decide +kernel
theorem dL_grouped_36 : decode cL_grouped 36 = .ok (.iload 6, 2) := by decide +kernel
theorem dL_grouped_38 : decode cL_grouped 38 = .ok (.iload 7, 2) := by decide +kernel
theorem dL_grouped_40 : decode cL_grouped 40 = .ok (.invokevirtual 67, 3) := by decide +kernel
theorem dL_grouped_43 : decode cL_grouped 43 = .ok (.iload_n 2, 1) := by decide +kernel
theorem dL_grouped_44 : decode cL_grouped 44 = .ok (.if_icmp .ne 77, 3) := by decide +kernel
theorem dL_grouped_47 : decode cL_grouped 47 = .ok (.aload_n 0, 1) := by decide +kernel
theorem dL_grouped_48 : decode cL_grouped 48 = .ok (.iload_n 1, 1) := by decide +kernel
theorem dL_grouped_49 : decode cL_grouped 49 = .ok (.iload 6, 2) := by decide +kernel
theorem dL_grouped_51 : decode cL_grouped 51 = .ok (.iload 7, 2) := by decide +kernel
theorem dL_grouped_53 : decode cL_grouped 53 = .ok (.invokevirtual 70, 3) := by decide +kernel
theorem dL_grouped_56 : decode cL_grouped 56 = .ok (.istore 8, 2) := by decide +kernel
theorem dL_grouped_58 : decode cL_grouped 58 = .ok (.iload_n 3, 1) := by decide +kernel
theorem dL_grouped_59 : decode cL_grouped 59 = .ok (.ifCond .ne 11, 3) := by decide +kernel
theorem dL_grouped_62 : decode cL_grouped 62 = .ok (.iload 5, 2) := by decide +kernel
theorem dL_grouped_64 : decode cL_grouped 64 = .ok (.iload 8, 2) := by decide +kernel
theorem dL_grouped_66 : decode cL_grouped 66 = .ok (.iadd, 1) := by decide +kernel
theorem dL_grouped_67 : decode cL_grouped 67 = .ok (.goto 49, 3) := by decide +kernel
theorem dL_grouped_70 : decode cL_grouped 70 = .ok (.iload_n 3, 1) := by decide +kernel
theorem dL_grouped_71 : decode cL_grouped 71 = .ok (.iconst 1, 1) := by decide +kernel
theorem dL_grouped_72 : decode cL_grouped 72 = .ok (.if_icmp .ne 25, 3) := by decide +kernel
theorem dL_grouped_75 : decode cL_grouped 75 = .ok (.iload 4, 2) := by decide +kernel
theorem dL_grouped_77 : decode cL_grouped 77 = .ok (.ifCond .eq 10, 3) := by decide +kernel
theorem dL_grouped_80 : decode cL_grouped 80 = .ok (.iload 8, 2) := by decide +kernel
theorem dL_grouped_82 : decode cL_grouped 82 = .ok (.iload 5, 2) := by decide +kernel
theorem dL_grouped_84 : decode cL_grouped 84 = .ok (.if_icmp .ge 8, 3) := by decide +kernel
theorem dL_grouped_87 : decode cL_grouped 87 = .ok (.iload 8, 2) := by decide +kernel
theorem dL_grouped_89 : decode cL_grouped 89 = .ok (.goto 27, 3) := by decide +kernel
theorem dL_grouped_92 : decode cL_grouped 92 = .ok (.iload 5, 2) := by decide +kernel
theorem dL_grouped_94 : decode cL_grouped 94 = .ok (.goto 22, 3) := by decide +kernel
theorem dL_grouped_97 : decode cL_grouped 97 = .ok (.iload 4, 2) := by decide +kernel
theorem dL_grouped_99 : decode cL_grouped 99 = .ok (.ifCond .eq 10, 3) := by decide +kernel
theorem dL_grouped_102 : decode cL_grouped 102 = .ok (.iload 8, 2) := by decide +kernel
theorem dL_grouped_104 : decode cL_grouped 104 = .ok (.iload 5, 2) := by decide +kernel
theorem dL_grouped_106 : decode cL_grouped 106 = .ok (.if_icmp .le 8, 3) := by decide +kernel
theorem dL_grouped_109 : decode cL_grouped 109 = .ok (.iload 8, 2) := by decide +kernel
theorem dL_grouped_111 : decode cL_grouped 111 = .ok (.goto 5, 3) := by decide +kernel
theorem dL_grouped_114 : decode cL_grouped 114 = .ok (.iload 5, 2) := by decide +kernel
theorem dL_grouped_116 : decode cL_grouped 116 = .ok (.istore 5, 2) := by decide +kernel
theorem dL_grouped_118 : decode cL_grouped 118 = .ok (.iinc 4 1, 3) := by decide +kernel
theorem dL_grouped_121 : decode cL_grouped 121 = .ok (.iinc 7 1, 3) := by decide +kernel
theorem dL_grouped_124 : decode cL_grouped 124 = .ok (.goto (-102), 3) := by decide +kernel
theorem dL_grouped_127 : decode cL_grouped 127 = .ok (.iinc 6 1, 3) := by decide +kernel
theorem dL_grouped_130 : decode cL_grouped 130 = .ok (.goto (-121), 3) := by decide +kernel
theorem dL_grouped_133 : decode cL_grouped 133 = .ok (.iload_n 3, 1) := by decide +kernel
theorem dL_grouped_134 : decode cL_grouped 134 = .ok (.iconst 3, 1) := by decide +kernel
theorem dL_grouped_135 : decode cL_grouped 135 = .ok (.if_icmp .ne 8, 3) := by decide +kernel
theorem dL_grouped_138 : decode cL_grouped 138 = .ok (.iload 4, 2) := by decide +kernel
theorem dL_grouped_140 : decode cL_grouped 140 = .ok (.goto 5, 3) := by decide +kernel
theorem dL_grouped_143 : decode cL_grouped 143 = .ok (.iload 5, 2) := by decide +kernel
theorem dL_grouped_145 : decode cL_grouped 145 = .ok (.ireturn, 1) := by decide +kernel
theorem dL_isGroup_0 : decode cL_isGroup 0 = .ok (.aload_n 0, 1) := by decide +kernel
theorem dL_isGroup_1 : decode cL_isGroup 1 = .ok (.iload 4, 2) := by decide +kernel
theorem dL_isGroup_3 : decode cL_isGroup 3 = .ok (.invokevirtual 58, 3) := by decide +kernel
theorem dL_isGroup_6 : decode cL_isGroup 6 = .ok (.aload_n 3, 1) := by decide +kernel
theorem dL_isGroup_7 : decode cL_isGroup 7 = .ok (.iload 4, 2) := by decide +kernel
theorem dL_isGroup_9 : decode cL_isGroup 9 = .ok (.iaload, 1) := by decide +kernel
theorem dL_isGroup_10 : decode cL_isGroup 10 = .ok (.if_icmp .ne 7, 3) := by decide +kernel
theorem dL_isGroup_13 : decode cL_isGroup 13 = .ok (.iconst 1, 1) := by decide +kernel
theorem dL_isGroup_14 : decode cL_isGroup 14 = .ok (.goto 4, 3) := by decide +kernel
theorem dL_isGroup_17 : decode cL_isGroup 17 = .ok (.iconst 0, 1) := by decide +kernel
theorem dL_isGroup_18 : decode cL_isGroup 18 = .ok (.istore 5, 2) := by decide +kernel
theorem dL_isGroup_20 : decode cL_isGroup 20 = .ok (.iconst 0, 1) := by decide +kernel
theorem dL_isGroup_21 : decode cL_isGroup 21 = .ok (.istore 6, 2) := by decide +kernel
theorem dL_isGroup_23 : decode cL_isGroup 23 = .ok (.iconst 0, 1) := by decide +kernel
theorem dL_isGroup_24 : decode cL_isGroup 24 = .ok (.istore 7, 2) := by decide +kernel
theorem dL_isGroup_26 : decode cL_isGroup 26 = .ok (.iload 7, 2) := by decide +kernel
theorem dL_isGroup_28 : decode cL_isGroup 28 = .ok (.aload_n 0, 1) := by decide +kernel
theorem dL_isGroup_29 : decode cL_isGroup 29 = .ok (.iload 4, 2) := by decide +kernel
theorem dL_isGroup_31 : decode cL_isGroup 31 = .ok (.invokevirtual 58, 3) := by decide +kernel
theorem dL_isGroup_34 : decode cL_isGroup 34 = .ok (.if_icmp .ge 148, 3) := by decide +kernel
theorem dL_isGroup_37 : decode cL_isGroup 37 = .ok (.iload 5, 2) := by decide +kernel
theorem dL_isGroup_39 : decode cL_isGroup 39 = .ok (.ifCond .eq 143, 3) := by decide +kernel
theorem dL_isGroup_42 : decode cL_isGroup 42 = .ok (.iconst 0, 1) := by decide +kernel
theorem dL_isGroup_43 : decode cL_isGroup 43 = .ok (.istore 8, 2) := by decide +kernel
theorem dL_isGroup_45 : decode cL_isGroup 45 = .ok (.iload 8, 2) := by decide +kernel
theorem dL_isGroup_47 : decode cL_isGroup 47 = .ok (.aload_n 0, 1) := by decide +kernel
theorem dL_isGroup_48 : decode cL_isGroup 48 = .ok (.iload 4, 2) := by decide +kernel
theorem dL_isGroup_50 : decode cL_isGroup 50 = .ok (.iload 7, 2) := by decide +kernel
theorem dL_isGroup_52 : decode cL_isGroup 52 = .ok (.invokevirtual 61, 3) := by decide +kernel
theorem dL_isGroup_55 : decode cL_isGroup 55 = .ok (.if_icmp .ge 121, 3) := by decide +kernel
theorem dL_isGroup_58 : decode cL_isGroup 58 = .ok (.iload 5, 2) := by decide +kernel
theorem dL_isGroup_60 : decode cL_isGroup 60 = .ok (.ifCond .eq 116, 3) := by decide +kernel
theorem dL_isGroup_63 : decode cL_isGroup 63 = .ok (.aload_n 0, 1) := by decide +kernel
theorem dL_isGroup_64 : decode cL_isGroup 64 = .ok (.iload 4, 2) := by decide +kernel
theorem dL_isGroup_66 : decode cL_isGroup 66 = .ok (.iload 7, 2) := by decide +kernel
theorem dL_isGroup_68 : decode cL_isGroup 68 = .ok (.iload 8, 2) := by decide +kernel
theorem dL_isGroup_70 : decode cL_isGroup 70 = .ok (.invokevirtual 67, 3) := by decide +kernel
theorem dL_isGroup_73 : decode cL_isGroup 73 = .ok (.istore 9, 2) := by decide +kernel
theorem dL_isGroup_75 : decode cL_isGroup 75 = .ok (.aload_n 0, 1) := by decide +kernel
theorem dL_isGroup_76 : decode cL_isGroup 76 = .ok (.aload_n 1, 1) := by decide +kernel
theorem dL_isGroup_77 : decode cL_isGroup 77 = .ok (.iload 4, 2) := by decide +kernel
theorem dL_isGroup_79 : decode cL_isGroup 79 = .ok (.iaload, 1) := by decide +kernel
theorem dL_isGroup_80 : decode cL_isGroup 80 = .ok (.iload 9, 2) := by decide +kernel
theorem dL_isGroup_82 : decode cL_isGroup 82 = .ok (.iconst 3, 1) := by decide +kernel
theorem dL_isGroup_83 : decode cL_isGroup 83 = .ok (.invokestatic 115, 3) := by decide +kernel
theorem dL_isGroup_86 : decode cL_isGroup 86 = .ok (.istore 10, 2) := by decide +kernel
theorem dL_isGroup_88 : decode cL_isGroup 88 = .ok (.iload 6, 2) := by decide +kernel
theorem dL_isGroup_90 : decode cL_isGroup 90 = .ok (.iload 10, 2) := by decide +kernel
theorem dL_isGroup_92 : decode cL_isGroup 92 = .ok (.iadd, 1) := by decide +kernel
theorem dL_isGroup_93 : decode cL_isGroup 93 = .ok (.istore 6, 2) := by decide +kernel
theorem dL_isGroup_95 : decode cL_isGroup 95 = .ok (.iload 9, 2) := by decide +kernel
theorem dL_isGroup_97 : decode cL_isGroup 97 = .ok (.aload_n 3, 1) := by decide +kernel
theorem dL_isGroup_98 : decode cL_isGroup 98 = .ok (.iload 4, 2) := by decide +kernel
theorem dL_isGroup_100 : decode cL_isGroup 100 = .ok (.iaload, 1) := by decide +kernel
theorem dL_isGroup_101 : decode cL_isGroup 101 = .ok (.invokestatic 112, 3) := by decide +kernel
theorem dL_isGroup_104 : decode cL_isGroup 104 = .ok (.iload 7, 2) := by decide +kernel
theorem dL_isGroup_106 : decode cL_isGroup 106 = .ok (.if_icmp .ne 61, 3) := by decide +kernel
theorem dL_isGroup_109 : decode cL_isGroup 109 = .ok (.iload 10, 2) := by decide +kernel
theorem dL_isGroup_111 : decode cL_isGroup 111 = .ok (.ifCond .le 56, 3) := by decide +kernel
theorem dL_isGroup_114 : decode cL_isGroup 114 = .ok (.iload 8, 2) := by decide +kernel
theorem dL_isGroup_116 : decode cL_isGroup 116 = .ok (.ifCond .eq 20, 3) := by decide +kernel
theorem dL_isGroup_119 : decode cL_isGroup 119 = .ok (.aload_n 0, 1) := by decide +kernel
theorem dL_isGroup_120 : decode cL_isGroup 120 = .ok (.iload 4, 2) := by decide +kernel
theorem dL_isGroup_122 : decode cL_isGroup 122 = .ok (.iload 7, 2) := by decide +kernel
theorem dL_isGroup_124 : decode cL_isGroup 124 = .ok (.iload 8, 2) := by decide +kernel
theorem dL_isGroup_126 : decode cL_isGroup 126 = .ok (.iconst 1, 1) := by decide +kernel
theorem dL_isGroup_127 : decode cL_isGroup 127 = .ok (.isub, 1) := by decide +kernel
theorem dL_isGroup_128 : decode cL_isGroup 128 = .ok (.invokevirtual 67, 3) := by decide +kernel
theorem dL_isGroup_131 : decode cL_isGroup 131 = .ok (.iload 9, 2) := by decide +kernel
theorem dL_isGroup_133 : decode cL_isGroup 133 = .ok (.if_icmp .ge 34, 3) := by decide +kernel
theorem dL_isGroup_136 : decode cL_isGroup 136 = .ok (.aload_n 0, 1) := by decide +kernel
theorem dL_isGroup_137 : decode cL_isGroup 137 = .ok (.iload 4, 2) := by decide +kernel
theorem dL_isGroup_139 : decode cL_isGroup 139 = .ok (.iload 7, 2) := by decide +kernel
theorem dL_isGroup_141 : decode cL_isGroup 141 = .ok (.iload 8, 2) := by decide +kernel
theorem dL_isGroup_143 : decode cL_isGroup 143 = .ok (.invokevirtual 70, 3) := by decide +kernel
theorem dL_isGroup_146 : decode cL_isGroup 146 = .ok (.aload_n 0, 1) := by decide +kernel
theorem dL_isGroup_147 : decode cL_isGroup 147 = .ok (.aload_n 1, 1) := by decide +kernel
theorem dL_isGroup_148 : decode cL_isGroup 148 = .ok (.iload 4, 2) := by decide +kernel
theorem dL_isGroup_150 : decode cL_isGroup 150 = .ok (.iaload, 1) := by decide +kernel
theorem dL_isGroup_151 : decode cL_isGroup 151 = .ok (.iload 9, 2) := by decide +kernel
theorem dL_isGroup_153 : decode cL_isGroup 153 = .ok (.aload_n 2, 1) := by decide +kernel
theorem dL_isGroup_154 : decode cL_isGroup 154 = .ok (.iload 4, 2) := by decide +kernel
theorem dL_isGroup_156 : decode cL_isGroup 156 = .ok (.iaload, 1) := by decide +kernel
theorem dL_isGroup_157 : decode cL_isGroup 157 = .ok (.invokestatic 115, 3) := by decide +kernel
theorem dL_isGroup_160 : decode cL_isGroup 160 = .ok (.if_icmp .ne 7, 3) := by decide +kernel
theorem dL_isGroup_163 : decode cL_isGroup 163 = .ok (.iconst 1, 1) := by decide +kernel
theorem dL_isGroup_164 : decode cL_isGroup 164 = .ok (.goto 4, 3) := by decide +kernel
theorem dL_isGroup_167 : decode cL_isGroup 167 = .ok (.iconst 0, 1) := by decide +kernel
theorem dL_isGroup_168 : decode cL_isGroup 168 = .ok (.istore 5, 2) := by decide +kernel
theorem dL_isGroup_170 : decode cL_isGroup 170 = .ok (.iinc 8 1, 3) := by decide +kernel
theorem dL_isGroup_173 : decode cL_isGroup 173 = .ok (.goto (-128), 3) := by decide +kernel
theorem dL_isGroup_176 : decode cL_isGroup 176 = .ok (.iinc 7 1, 3) := by decide +kernel
theorem dL_isGroup_179 : decode cL_isGroup 179 = .ok (.goto (-153), 3) := by decide +kernel
theorem dL_isGroup_182 : decode cL_isGroup 182 = .ok (.iload 5, 2) := by decide +kernel
theorem dL_isGroup_184 : decode cL_isGroup 184 = .ok (.ifCond .eq 20, 3) := by decide +kernel
theorem dL_isGroup_187 : decode cL_isGroup 187 = .ok (.iload 6, 2) := by decide +kernel
theorem dL_isGroup_189 : decode cL_isGroup 189 = .ok (.aload_n 0, 1) := by decide +kernel
theorem dL_isGroup_190 : decode cL_isGroup 190 = .ok (.aload_n 1, 1) := by decide +kernel
theorem dL_isGroup_191 : decode cL_isGroup 191 = .ok (.iload 4, 2) := by decide +kernel
theorem dL_isGroup_193 : decode cL_isGroup 193 = .ok (.iaload, 1) := by decide +kernel
theorem dL_isGroup_194 : decode cL_isGroup 194 = .ok (.invokevirtual 64, 3) := by decide +kernel
theorem dL_isGroup_197 : decode cL_isGroup 197 = .ok (.if_icmp .ne 7, 3) := by decide +kernel
theorem dL_isGroup_200 : decode cL_isGroup 200 = .ok (.iconst 1, 1) := by decide +kernel
theorem dL_isGroup_201 : decode cL_isGroup 201 = .ok (.goto 4, 3) := by decide +kernel
theorem dL_isGroup_204 : decode cL_isGroup 204 = .ok (.iconst 0, 1) := by decide +kernel
theorem dL_isGroup_205 : decode cL_isGroup 205 = .ok (.ireturn, 1) := by decide +kernel
