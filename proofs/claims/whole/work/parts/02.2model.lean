theorem dX12_init_0 : decode cX12_init 0 = .ok (.aload_n 0, 1) := by decide +kernel
theorem dX12_init_1 : decode cX12_init 1 = .ok (.invokespecial 1, 3) := by decide +kernel
theorem dX12_init_4 : decode cX12_init 4 = .ok (.aload_n 0, 1) := by decide +kernel
theorem dX12_init_5 : decode cX12_init 5 = .ok (.bipush 14, 2) := by decide +kernel
theorem dX12_init_7 : decode cX12_init 7 = .ok (.newarray .int, 2) := by decide +kernel
theorem dX12_init_9 : decode cX12_init 9 = .ok (.putfield 7, 3) := by decide +kernel
theorem dX12_init_12 : decode cX12_init 12 = .ok (.aload_n 0, 1) := by decide +kernel
theorem dX12_init_13 : decode cX12_init 13 = .ok (.bipush 14, 2) := by decide +kernel
theorem dX12_init_15 : decode cX12_init 15 = .ok (.newarray .int, 2) := by decide +kernel
theorem dX12_init_17 : decode cX12_init 17 = .ok (.putfield 13, 3) := by decide +kernel
theorem dX12_init_20 : decode cX12_init 20 = .ok (.aload_n 0, 1) := by decide +kernel
theorem dX12_init_21 : decode cX12_init 21 = .ok (.bipush 14, 2) := by decide +kernel
theorem dX12_init_23 : decode cX12_init 23 = .ok (.newarray .int, 2) := by decide +kernel
theorem dX12_init_25 : decode cX12_init 25 = .ok (.putfield 16, 3) := by decide +kernel
theorem dX12_init_28 : decode cX12_init 28 = .ok (.aload_n 0, 1) := by decide +kernel
theorem dX12_init_29 : decode cX12_init 29 = .ok (.bipush 14, 2) := by decide +kernel
theorem dX12_init_31 : decode cX12_init 31 = .ok (.newarray .int, 2) := by decide +kernel
theorem dX12_init_33 : decode cX12_init 33 = .ok (.putfield 19, 3) := by decide +kernel
theorem dX12_init_36 : decode cX12_init 36 = .ok (.aload_n 0, 1) := by decide +kernel
theorem dX12_init_37 : decode cX12_init 37 = .ok (.bipush 14, 2) := by decide +kernel
theorem dX12_init_39 : decode cX12_init 39 = .ok (.newarray .int, 2) := by decide +kernel
theorem dX12_init_41 : decode cX12_init 41 = .ok (.putfield 22, 3) := by decide +kernel
theorem dX12_init_44 : decode cX12_init 44 = .ok (.aload_n 0, 1) := by decide +kernel
theorem dX12_init_45 : decode cX12_init 45 = .ok (.bipush 14, 2) := by decide +kernel
theorem dX12_init_47 : decode cX12_init 47 = .ok (.newarray .int, 2) := by decide +kernel
theorem dX12_init_49 : decode cX12_init 49 = .ok (.putfield 25, 3) := by decide +kernel
theorem dX12_init_52 : decode cX12_init 52 = .ok (.aload_n 0, 1) := by decide +kernel
theorem dX12_init_53 : decode cX12_init 53 = .ok (.bipush 14, 2) := by decide +kernel
theorem dX12_init_55 : decode cX12_init 55 = .ok (.newarray .int, 2) := by decide +kernel
theorem dX12_init_57 : decode cX12_init 57 = .ok (.putfield 28, 3) := by decide +kernel
theorem dX12_init_60 : decode cX12_init 60 = .ok (.aload_n 0, 1) := by decide +kernel
theorem dX12_init_61 : decode cX12_init 61 = .ok (.bipush 14, 2) := by decide +kernel
theorem dX12_init_63 : decode cX12_init 63 = .ok (.newarray .int, 2) := by decide +kernel
theorem dX12_init_65 : decode cX12_init 65 = .ok (.putfield 31, 3) := by decide +kernel
theorem dX12_init_68 : decode cX12_init 68 = .ok (.aload_n 0, 1) := by decide +kernel
theorem dX12_init_69 : decode cX12_init 69 = .ok (.bipush 14, 2) := by decide +kernel
theorem dX12_init_71 : decode cX12_init 71 = .ok (.newarray .int, 2) := by decide +kernel
theorem dX12_init_73 : decode cX12_init 73 = .ok (.putfield 34, 3) := by decide +kernel
theorem dX12_init_76 : decode cX12_init 76 = .ok (.aload_n 0, 1) := by decide +kernel
theorem dX12_init_77 : decode cX12_init 77 = .ok (.bipush 14, 2) := by decide +kernel
theorem dX12_init_79 : decode cX12_init 79 = .ok (.newarray .int, 2) := by decide +kernel
theorem dX12_init_81 : decode cX12_init 81 = .ok (.putfield 37, 3) := by decide +kernel
theorem dX12_init_84 : decode cX12_init 84 = .ok (.aload_n 0, 1) := by decide +kernel
theorem dX12_init_85 : decode cX12_init 85 = .ok (.sipush 168, 3) := by decide +kernel
theorem dX12_init_88 : decode cX12_init 88 = .ok (.newarray .int, 2) := by decide +kernel
theorem dX12_init_90 : decode cX12_init 90 = .ok (.putfield 40, 3) := by decide +kernel
theorem dX12_init_93 : decode cX12_init 93 = .ok (.aload_n 0, 1) := by decide +kernel
theorem dX12_init_94 : decode cX12_init 94 = .ok (.sipush 168, 3) := by decide +kernel
theorem dX12_init_97 : decode cX12_init 97 = .ok (.newarray .int, 2) := by decide +kernel
theorem dX12_init_99 : decode cX12_init 99 = .ok (.putfield 43, 3) := by decide +kernel
theorem dX12_init_102 : decode cX12_init 102 = .ok (.aload_n 0, 1) := by decide +kernel
theorem dX12_init_103 : decode cX12_init 103 = .ok (.bipush 14, 2) := by decide +kernel
theorem dX12_init_105 : decode cX12_init 105 = .ok (.newarray .int, 2) := by decide +kernel
theorem dX12_init_107 : decode cX12_init 107 = .ok (.putfield 46, 3) := by decide +kernel
theorem dX12_init_110 : decode cX12_init 110 = .ok (.aload_n 0, 1) := by decide +kernel
theorem dX12_init_111 : decode cX12_init 111 = .ok (.bipush 126, 2) := by decide +kernel
theorem dX12_init_113 : decode cX12_init 113 = .ok (.newarray .int, 2) := by decide +kernel
theorem dX12_init_115 : decode cX12_init 115 = .ok (.putfield 49, 3) := by decide +kernel
theorem dX12_init_118 : decode cX12_init 118 = .ok (.aload_n 0, 1) := by decide +kernel
theorem dX12_init_119 : decode cX12_init 119 = .ok (.sipush 4200, 3) := by decide +kernel
theorem dX12_init_122 : decode cX12_init 122 = .ok (.newarray .int, 2) := by decide +kernel
theorem dX12_init_124 : decode cX12_init 124 = .ok (.putfield 52, 3) := by decide +kernel
theorem dX12_init_127 : decode cX12_init 127 = .ok (.aload_n 0, 1) := by decide +kernel
theorem dX12_init_128 : decode cX12_init 128 = .ok (.sipush 4200, 3) := by decide +kernel
theorem dX12_init_131 : decode cX12_init 131 = .ok (.newarray .int, 2) := by decide +kernel
theorem dX12_init_133 : decode cX12_init 133 = .ok (.putfield 55, 3) := by decide +kernel
theorem dX12_init_136 : decode cX12_init 136 = .ok (.aload_n 0, 1) := by decide +kernel
theorem dX12_init_137 : decode cX12_init 137 = .ok (.iconst 4, 1) := by decide +kernel
theorem dX12_init_138 : decode cX12_init 138 = .ok (.putfield 58, 3) := by decide +kernel
theorem dX12_init_141 : decode cX12_init 141 = .ok (.aload_n 0, 1) := by decide +kernel
theorem dX12_init_142 : decode cX12_init 142 = .ok (.bipush 20, 2) := by decide +kernel
theorem dX12_init_144 : decode cX12_init 144 = .ok (.putfield 62, 3) := by decide +kernel
theorem dX12_init_147 : decode cX12_init 147 = .ok (.aload_n 0, 1) := by decide +kernel
theorem dX12_init_148 : decode cX12_init 148 = .ok (.iconst 2, 1) := by decide +kernel
theorem dX12_init_149 : decode cX12_init 149 = .ok (.putfield 65, 3) := by decide +kernel
theorem dX12_init_152 : decode cX12_init 152 = .ok (.aload_n 0, 1) := by decide +kernel
theorem dX12_init_153 : decode cX12_init 153 = .ok (.iconst 4, 1) := by decide +kernel
theorem dX12_init_154 : decode cX12_init 154 = .ok (.newarray .int, 2) := by decide +kernel
theorem dX12_init_156 : decode cX12_init 156 = .ok (.putfield 68, 3) := by decide +kernel
theorem dX12_init_159 : decode cX12_init 159 = .ok (.aload_n 0, 1) := by decide +kernel
theorem dX12_init_160 : decode cX12_init 160 = .ok (.bipush 14, 2) := by decide +kernel
theorem dX12_init_162 : decode cX12_init 162 = .ok (.newarray .boolean, 2) := by decide +kernel
theorem dX12_init_164 : decode cX12_init 164 = .ok (.putfield 71, 3) := by decide +kernel
theorem dX12_init_167 : decode cX12_init 167 = .ok (.aload_n 0, 1) := by decide +kernel
theorem dX12_init_168 : decode cX12_init 168 = .ok (.bipush 14, 2) := by decide +kernel
theorem dX12_init_170 : decode cX12_init 170 = .ok (.newarray .boolean, 2) := by decide +kernel
theorem dX12_init_172 : decode cX12_init 172 = .ok (.putfield 75, 3) := by decide +kernel
theorem dX12_init_175 : decode cX12_init 175 = .ok (.aload_n 0, 1) := by decide +kernel
theorem dX12_init_176 : decode cX12_init 176 = .ok (.bipush 14, 2) := by decide +kernel
theorem dX12_init_178 : decode cX12_init 178 = .ok (.newarray .int, 2) := by decide +kernel
theorem dX12_init_180 : decode cX12_init 180 = .ok (.putfield 78, 3) := by decide +kernel
theorem dX12_init_183 : decode cX12_init 183 = .ok (.aload_n 0, 1) := by decide +kernel
theorem dX12_init_184 : decode cX12_init 184 = .ok (.bipush 14, 2) := by decide +kernel
theorem dX12_init_186 : decode cX12_init 186 = .ok (.newarray .boolean, 2) := by decide +kernel
theorem dX12_init_188 : decode cX12_init 188 = .ok (.putfield 81, 3) := by decide +kernel
theorem dX12_init_191 : decode cX12_init 191 = .ok (.aload_n 0, 1) := by decide +kernel
theorem dX12_init_192 : decode cX12_init 192 = .ok (.bipush 14, 2) := by decide +kernel
theorem dX12_init_194 : decode cX12_init 194 = .ok (.newarray .boolean, 2) := by decide +kernel
theorem dX12_init_196 : decode cX12_init 196 = .ok (.putfield 84, 3) := by decide +kernel
theorem dX12_init_199 : decode cX12_init 199 = .ok (.aload_n 0, 1) := by decide +kernel
theorem dX12_init_200 : decode cX12_init 200 = .ok (.bipush 14, 2) := by decide +kernel
theorem dX12_init_202 : decode cX12_init 202 = .ok (.newarray .boolean, 2) := by decide +kernel
theorem dX12_init_204 : decode cX12_init 204 = .ok (.putfield 87, 3) := by decide +kernel
theorem dX12_init_207 : decode cX12_init 207 = .ok (.aload_n 0, 1) := by decide +kernel
theorem dX12_init_208 : decode cX12_init 208 = .ok (.sipush 256, 3) := by decide +kernel
theorem dX12_init_211 : decode cX12_init 211 = .ok (.newarray .int, 2) := by decide +kernel
theorem dX12_init_213 : decode cX12_init 213 = .ok (.putfield 90, 3) := by decide +kernel
theorem dX12_init_216 : decode cX12_init 216 = .ok (.aload_n 0, 1) := by decide +kernel
theorem dX12_init_217 : decode cX12_init 217 = .ok (.sipush 256, 3) := by decide +kernel
theorem dX12_init_220 : decode cX12_init 220 = .ok (.newarray .int, 2) := by decide +kernel
theorem dX12_init_222 : decode cX12_init 222 = .ok (.putfield 93, 3) := by decide +kernel
theorem dX12_init_225 : decode cX12_init 225 = .ok (.aload_n 0, 1) := by decide +kernel
theorem dX12_init_226 : decode cX12_init 226 = .ok (.sipush 256, 3) := by decide +kernel
theorem dX12_init_229 : decode cX12_init 229 = .ok (.newarray .int, 2) := by decide +kernel
theorem dX12_init_231 : decode cX12_init 231 = .ok (.putfield 96, 3) := by decide +kernel
theorem dX12_init_234 : decode cX12_init 234 = .ok (.aload_n 0, 1) := by decide +kernel
theorem dX12_init_235 : decode cX12_init 235 = .ok (.sipush 256, 3) := by decide +kernel
theorem dX12_init_238 : decode cX12_init 238 = .ok (.newarray .int, 2) := by decide +kernel
theorem dX12_init_240 : decode cX12_init 240 = .ok (.putfield 99, 3) := by decide +kernel
theorem dX12_init_243 : decode cX12_init 243 = .ok (.aload_n 0, 1) := by decide +kernel
theorem dX12_init_244 : decode cX12_init 244 = .ok (.sipush 256, 3) := by decide +kernel
theorem dX12_init_247 : decode cX12_init 247 = .ok (.newarray .int, 2) := by decide +kernel
theorem dX12_init_249 : decode cX12_init 249 = .ok (.putfield 102, 3) := by decide +kernel
theorem dX12_init_252 : decode cX12_init 252 = .ok (.aload_n 0, 1) := by decide +kernel
theorem dX12_init_253 : decode cX12_init 253 = .ok (.sipush 256, 3) := by decide +kernel
theorem dX12_init_256 : decode cX12_init 256 = .ok (.newarray .boolean, 2) := by decide +kernel
theorem dX12_init_258 : decode cX12_init 258 = .ok (.putfield 105, 3) := by decide +kernel
theorem dX12_init_261 : decode cX12_init 261 = .ok (.aload_n 0, 1) := by decide +kernel
theorem dX12_init_262 : decode cX12_init 262 = .ok (.bipush 8, 2) := by decide +kernel
theorem dX12_init_264 : decode cX12_init 264 = .ok (.newarray .int, 2) := by decide +kernel
theorem dX12_init_266 : decode cX12_init 266 = .ok (.putfield 108, 3) := by decide +kernel
theorem dX12_init_269 : decode cX12_init 269 = .ok (.aload_n 0, 1) := by decide +kernel
theorem dX12_init_270 : decode cX12_init 270 = .ok (.bipush 8, 2) := by decide +kernel
theorem dX12_init_272 : decode cX12_init 272 = .ok (.newarray .int, 2) := by decide +kernel
theorem dX12_init_274 : decode cX12_init 274 = .ok (.putfield 111, 3) := by decide +kernel
theorem dX12_init_277 : decode cX12_init 277 = .ok (.aload_n 0, 1) := by decide +kernel
theorem dX12_init_278 : decode cX12_init 278 = .ok (.bipush 8, 2) := by decide +kernel
theorem dX12_init_280 : decode cX12_init 280 = .ok (.newarray .boolean, 2) := by decide +kernel
theorem dX12_init_282 : decode cX12_init 282 = .ok (.putfield 114, 3) := by decide +kernel
theorem dX12_init_285 : decode cX12_init 285 = .ok (.aload_n 0, 1) := by decide +kernel
theorem dX12_init_286 : decode cX12_init 286 = .ok (.iconst 4, 1) := by decide +kernel
theorem dX12_init_287 : decode cX12_init 287 = .ok (.newarray .int, 2) := by decide +kernel
theorem dX12_init_289 : decode cX12_init 289 = .ok (.putfield 117, 3) := by decide +kernel
theorem dX12_init_292 : decode cX12_init 292 = .ok (.iconst 0, 1) := by decide +kernel
theorem dX12_init_293 : decode cX12_init 293 = .ok (.istore_n 1, 1) := by decide +kernel
theorem dX12_init_294 : decode cX12_init 294 = .ok (.iload_n 1, 1) := by decide +kernel
theorem dX12_init_295 : decode cX12_init 295 = .ok (.iconst 4, 1) := by decide +kernel
theorem dX12_init_296 : decode cX12_init 296 = .ok (.if_icmp .ge 16, 3) := by decide +kernel
theorem dX12_init_299 : decode cX12_init 299 = .ok (.aload_n 0, 1) := by decide +kernel
theorem dX12_init_300 : decode cX12_init 300 = .ok (.getfield 68, 3) := by decide +kernel
theorem dX12_init_303 : decode cX12_init 303 = .ok (.iload_n 1, 1) := by decide +kernel
theorem dX12_init_304 : decode cX12_init 304 = .ok (.iconst 1, 1) := by decide +kernel
theorem dX12_init_305 : decode cX12_init 305 = .ok (.iastore, 1) := by decide +kernel
theorem dX12_init_306 : decode cX12_init 306 = .ok (.iinc 1 1, 3) := by decide +kernel
theorem dX12_init_309 : decode cX12_init 309 = .ok (.goto (-15), 3) := by decide +kernel
theorem dX12_init_312 : decode cX12_init 312 = .ok (.return_, 1) := by decide +kernel
theorem dX12_thrown_0 : decode cX12_thrown 0 = .ok (.aload_n 0, 1) := by decide +kernel
theorem dX12_thrown_1 : decode cX12_thrown 1 = .ok (.getfield 120, 3) := by decide +kernel
theorem dX12_thrown_4 : decode cX12_thrown 4 = .ok (.ireturn, 1) := by decide +kernel
theorem dX12_fails_0 : decode cX12_fails 0 = .ok (.aload_n 0, 1) := by decide +kernel
theorem dX12_fails_1 : decode cX12_fails 1 = .ok (.iload_n 1, 1) := by decide +kernel
theorem dX12_fails_2 : decode cX12_fails 2 = .ok (.putfield 120, 3) := by decide +kernel
theorem dX12_fails_5 : decode cX12_fails 5 = .ok (.iload_n 1, 1) := by decide +kernel
theorem dX12_fails_6 : decode cX12_fails 6 = .ok (.ifCond .le 7, 3) := by decide +kernel
theorem dX12_fails_9 : decode cX12_fails 9 = .ok (.iconst 1, 1) := by decide +kernel
theorem dX12_fails_10 : decode cX12_fails 10 = .ok (.goto 4, 3) := by decide +kernel
theorem dX12_fails_13 : decode cX12_fails 13 = .ok (.iconst 0, 1) := by decide +kernel
theorem dX12_fails_14 : decode cX12_fails 14 = .ok (.ireturn, 1) := by decide +kernel
theorem dX12_tells_0 : decode cX12_tells 0 = .ok (.aload_n 0, 1) := by decide +kernel
theorem dX12_tells_1 : decode cX12_tells 1 = .ok (.iconst 0, 1) := by decide +kernel
theorem dX12_tells_2 : decode cX12_tells 2 = .ok (.putfield 120, 3) := by decide +kernel
theorem dX12_tells_5 : decode cX12_tells 5 = .ok (.iload_n 1, 1) := by decide +kernel
theorem dX12_tells_6 : decode cX12_tells 6 = .ok (.ireturn, 1) := by decide +kernel
theorem dX12_is_0 : decode cX12_is 0 = .ok (.iload_n 1, 1) := by decide +kernel
theorem dX12_is_1 : decode cX12_is 1 = .ok (.ifCond .lt 15, 3) := by decide +kernel
theorem dX12_is_4 : decode cX12_is 4 = .ok (.iload_n 1, 1) := by decide +kernel
theorem dX12_is_5 : decode cX12_is 5 = .ok (.aload_n 0, 1) := by decide +kernel
theorem dX12_is_6 : decode cX12_is 6 = .ok (.getfield 123, 3) := by decide +kernel
theorem dX12_is_9 : decode cX12_is 9 = .ok (.if_icmp .ge 7, 3) := by decide +kernel
theorem dX12_is_12 : decode cX12_is 12 = .ok (.iconst 1, 1) := by decide +kernel
theorem dX12_is_13 : decode cX12_is 13 = .ok (.goto 4, 3) := by decide +kernel
theorem dX12_is_16 : decode cX12_is 16 = .ok (.iconst 0, 1) := by decide +kernel
theorem dX12_is_17 : decode cX12_is 17 = .ok (.ireturn, 1) := by decide +kernel
theorem dX12_makes_0 : decode cX12_makes 0 = .ok (.aload_n 0, 1) := by decide +kernel
theorem dX12_makes_1 : decode cX12_makes 1 = .ok (.getfield 7, 3) := by decide +kernel
theorem dX12_makes_4 : decode cX12_makes 4 = .ok (.aload_n 0, 1) := by decide +kernel
theorem dX12_makes_5 : decode cX12_makes 5 = .ok (.getfield 123, 3) := by decide +kernel
theorem dX12_makes_8 : decode cX12_makes 8 = .ok (.iload_n 1, 1) := by decide +kernel
theorem dX12_makes_9 : decode cX12_makes 9 = .ok (.iastore, 1) := by decide +kernel
theorem dX12_makes_10 : decode cX12_makes 10 = .ok (.aload_n 0, 1) := by decide +kernel
theorem dX12_makes_11 : decode cX12_makes 11 = .ok (.getfield 13, 3) := by decide +kernel
theorem dX12_makes_14 : decode cX12_makes 14 = .ok (.aload_n 0, 1) := by decide +kernel
theorem dX12_makes_15 : decode cX12_makes 15 = .ok (.getfield 123, 3) := by decide +kernel
theorem dX12_makes_18 : decode cX12_makes 18 = .ok (.iload_n 2, 1) := by decide +kernel
theorem dX12_makes_19 : decode cX12_makes 19 = .ok (.iastore, 1) := by decide +kernel
theorem dX12_makes_20 : decode cX12_makes 20 = .ok (.aload_n 0, 1) := by decide +kernel
theorem dX12_makes_21 : decode cX12_makes 21 = .ok (.getfield 16, 3) := by decide +kernel
theorem dX12_makes_24 : decode cX12_makes 24 = .ok (.aload_n 0, 1) := by decide +kernel
theorem dX12_makes_25 : decode cX12_makes 25 = .ok (.getfield 123, 3) := by decide +kernel
theorem dX12_makes_28 : decode cX12_makes 28 = .ok (.iload_n 3, 1) := by decide +kernel
theorem dX12_makes_29 : decode cX12_makes 29 = .ok (.iastore, 1) := by decide +kernel
theorem dX12_makes_30 : decode cX12_makes 30 = .ok (.aload_n 0, 1) := by decide +kernel
theorem dX12_makes_31 : decode cX12_makes 31 = .ok (.getfield 31, 3) := by decide +kernel
theorem dX12_makes_34 : decode cX12_makes 34 = .ok (.aload_n 0, 1) := by decide +kernel
theorem dX12_makes_35 : decode cX12_makes 35 = .ok (.getfield 123, 3) := by decide +kernel
theorem dX12_makes_38 : decode cX12_makes 38 = .ok (.iload 4, 2) := by decide +kernel
theorem dX12_makes_40 : decode cX12_makes 40 = .ok (.iastore, 1) := by decide +kernel
theorem dX12_makes_41 : decode cX12_makes 41 = .ok (.aload_n 0, 1) := by decide +kernel
theorem dX12_makes_42 : decode cX12_makes 42 = .ok (.getfield 34, 3) := by decide +kernel
theorem dX12_makes_45 : decode cX12_makes 45 = .ok (.aload_n 0, 1) := by decide +kernel
theorem dX12_makes_46 : decode cX12_makes 46 = .ok (.getfield 123, 3) := by decide +kernel
theorem dX12_makes_49 : decode cX12_makes 49 = .ok (.iload 5, 2) := by decide +kernel
theorem dX12_makes_51 : decode cX12_makes 51 = .ok (.iastore, 1) := by decide +kernel
theorem dX12_makes_52 : decode cX12_makes 52 = .ok (.aload_n 0, 1) := by decide +kernel
theorem dX12_makes_53 : decode cX12_makes 53 = .ok (.iconst 0, 1) := by decide +kernel
theorem dX12_makes_54 : decode cX12_makes 54 = .ok (.putfield 126, 3) := by decide +kernel
theorem dX12_makes_57 : decode cX12_makes 57 = .ok (.aload_n 0, 1) := by decide +kernel
theorem dX12_makes_58 : decode cX12_makes 58 = .ok (.dup, 1) := by decide +kernel
theorem dX12_makes_59 : decode cX12_makes 59 = .ok (.getfield 123, 3) := by decide +kernel
theorem dX12_makes_62 : decode cX12_makes 62 = .ok (.iconst 1, 1) := by decide +kernel
theorem dX12_makes_63 : decode cX12_makes 63 = .ok (.iadd, 1) := by decide +kernel
theorem dX12_makes_64 : decode cX12_makes 64 = .ok (.putfield 123, 3) := by decide +kernel
theorem dX12_makes_67 : decode cX12_makes 67 = .ok (.aload_n 0, 1) := by decide +kernel
theorem dX12_makes_68 : decode cX12_makes 68 = .ok (.getfield 123, 3) := by decide +kernel
theorem dX12_makes_71 : decode cX12_makes 71 = .ok (.iconst 1, 1) := by decide +kernel
theorem dX12_makes_72 : decode cX12_makes 72 = .ok (.isub, 1) := by decide +kernel
theorem dX12_makes_73 : decode cX12_makes 73 = .ok (.ireturn, 1) := by decide +kernel
theorem dX12_source_0 : decode cX12_source 0 = .ok (.aload_n 0, 1) := by decide +kernel
theorem dX12_source_1 : decode cX12_source 1 = .ok (.iload_n 1, 1) := by decide +kernel
theorem dX12_source_2 : decode cX12_source 2 = .ok (.iconst 1, 1) := by decide +kernel
theorem dX12_source_3 : decode cX12_source 3 = .ok (.if_icmp .lt 8, 3) := by decide +kernel
theorem dX12_source_6 : decode cX12_source 6 = .ok (.iload_n 1, 1) := by decide +kernel
theorem dX12_source_7 : decode cX12_source 7 = .ok (.iconst 4, 1) := by decide +kernel
theorem dX12_source_8 : decode cX12_source 8 = .ok (.if_icmp .le 7, 3) := by decide +kernel
theorem dX12_source_11 : decode cX12_source 11 = .ok (.iconst 1, 1) := by decide +kernel
theorem dX12_source_12 : decode cX12_source 12 = .ok (.goto 17, 3) := by decide +kernel
theorem dX12_source_15 : decode cX12_source 15 = .ok (.aload_n 0, 1) := by decide +kernel
theorem dX12_source_16 : decode cX12_source 16 = .ok (.getfield 123, 3) := by decide +kernel
theorem dX12_source_19 : decode cX12_source 19 = .ok (.bipush 14, 2) := by decide +kernel
theorem dX12_source_21 : decode cX12_source 21 = .ok (.if_icmp .ne 7, 3) := by decide +kernel
theorem dX12_source_24 : decode cX12_source 24 = .ok (.iconst 2, 1) := by decide +kernel
theorem dX12_source_25 : decode cX12_source 25 = .ok (.goto 4, 3) := by decide +kernel
theorem dX12_source_28 : decode cX12_source 28 = .ok (.iconst 0, 1) := by decide +kernel
theorem dX12_source_29 : decode cX12_source 29 = .ok (.invokevirtual 130, 3) := by decide +kernel
theorem dX12_source_32 : decode cX12_source 32 = .ok (.ifCond .eq 5, 3) := by decide +kernel
theorem dX12_source_35 : decode cX12_source 35 = .ok (.iconst 0, 1) := by decide +kernel
theorem dX12_source_36 : decode cX12_source 36 = .ok (.ireturn, 1) := by decide +kernel
theorem dX12_source_37 : decode cX12_source 37 = .ok (.aload_n 0, 1) := by decide +kernel
theorem dX12_source_38 : decode cX12_source 38 = .ok (.getfield 28, 3) := by decide +kernel
theorem dX12_source_41 : decode cX12_source 41 = .ok (.aload_n 0, 1) := by decide +kernel
theorem dX12_source_42 : decode cX12_source 42 = .ok (.getfield 123, 3) := by decide +kernel
theorem dX12_source_45 : decode cX12_source 45 = .ok (.iload_n 1, 1) := by decide +kernel
theorem dX12_source_46 : decode cX12_source 46 = .ok (.iastore, 1) := by decide +kernel
theorem dX12_source_47 : decode cX12_source 47 = .ok (.aload_n 0, 1) := by decide +kernel
theorem dX12_source_48 : decode cX12_source 48 = .ok (.iconst 0, 1) := by decide +kernel
theorem dX12_source_49 : decode cX12_source 49 = .ok (.iconst 0, 1) := by decide +kernel
theorem dX12_source_50 : decode cX12_source 50 = .ok (.iconst 0, 1) := by decide +kernel
theorem dX12_source_51 : decode cX12_source 51 = .ok (.bipush 12, 2) := by decide +kernel
theorem dX12_source_53 : decode cX12_source 53 = .ok (.iload_n 1, 1) := by decide +kernel
theorem dX12_source_54 : decode cX12_source 54 = .ok (.invokevirtual 134, 3) := by decide +kernel
theorem dX12_source_57 : decode cX12_source 57 = .ok (.ireturn, 1) := by decide +kernel
theorem dX12_empties_0 : decode cX12_empties 0 = .ok (.aload_n 0, 1) := by decide +kernel
theorem dX12_empties_1 : decode cX12_empties 1 = .ok (.iconst 0, 1) := by decide +kernel
theorem dX12_empties_2 : decode cX12_empties 2 = .ok (.putfield 126, 3) := by decide +kernel
theorem dX12_empties_5 : decode cX12_empties 5 = .ok (.iconst 0, 1) := by decide +kernel
theorem dX12_empties_6 : decode cX12_empties 6 = .ok (.istore_n 1, 1) := by decide +kernel
theorem dX12_empties_7 : decode cX12_empties 7 = .ok (.iload_n 1, 1) := by decide +kernel
theorem dX12_empties_8 : decode cX12_empties 8 = .ok (.bipush 14, 2) := by decide +kernel
theorem dX12_empties_10 : decode cX12_empties 10 = .ok (.if_icmp .ge 16, 3) := by decide +kernel
theorem dX12_empties_13 : decode cX12_empties 13 = .ok (.aload_n 0, 1) := by decide +kernel
theorem dX12_empties_14 : decode cX12_empties 14 = .ok (.getfield 75, 3) := by decide +kernel
theorem dX12_empties_17 : decode cX12_empties 17 = .ok (.iload_n 1, 1) := by decide +kernel
theorem dX12_empties_18 : decode cX12_empties 18 = .ok (.iconst 0, 1) := by decide +kernel
theorem dX12_empties_19 : decode cX12_empties 19 = .ok (.bastore, 1) := by decide +kernel
theorem dX12_empties_20 : decode cX12_empties 20 = .ok (.iinc 1 1, 3) := by decide +kernel
theorem dX12_empties_23 : decode cX12_empties 23 = .ok (.goto (-16), 3) := by decide +kernel
theorem dX12_empties_26 : decode cX12_empties 26 = .ok (.return_, 1) := by decide +kernel
theorem dX12_put_0 : decode cX12_put 0 = .ok (.aload_n 0, 1) := by decide +kernel
theorem dX12_put_1 : decode cX12_put 1 = .ok (.aload_n 0, 1) := by decide +kernel
theorem dX12_put_2 : decode cX12_put 2 = .ok (.iload_n 1, 1) := by decide +kernel
theorem dX12_put_3 : decode cX12_put 3 = .ok (.invokevirtual 138, 3) := by decide +kernel
theorem dX12_put_6 : decode cX12_put 6 = .ok (.ifCond .ne 7, 3) := by decide +kernel
theorem dX12_put_9 : decode cX12_put 9 = .ok (.iconst 1, 1) := by decide +kernel
theorem dX12_put_10 : decode cX12_put 10 = .ok (.goto 28, 3) := by decide +kernel
theorem dX12_put_13 : decode cX12_put 13 = .ok (.aload_n 0, 1) := by decide +kernel
theorem dX12_put_14 : decode cX12_put 14 = .ok (.getfield 7, 3) := by decide +kernel
theorem dX12_put_17 : decode cX12_put 17 = .ok (.iload_n 1, 1) := by decide +kernel
theorem dX12_put_18 : decode cX12_put 18 = .ok (.iaload, 1) := by decide +kernel
theorem dX12_put_19 : decode cX12_put 19 = .ok (.ifCond .ne 14, 3) := by decide +kernel
theorem dX12_put_22 : decode cX12_put 22 = .ok (.aload_n 0, 1) := by decide +kernel
theorem dX12_put_23 : decode cX12_put 23 = .ok (.getfield 37, 3) := by decide +kernel
theorem dX12_put_26 : decode cX12_put 26 = .ok (.iload_n 1, 1) := by decide +kernel
theorem dX12_put_27 : decode cX12_put 27 = .ok (.iaload, 1) := by decide +kernel
theorem dX12_put_28 : decode cX12_put 28 = .ok (.bipush 12, 2) := by decide +kernel
theorem dX12_put_30 : decode cX12_put 30 = .ok (.if_icmp .ne 7, 3) := by decide +kernel
theorem dX12_put_33 : decode cX12_put 33 = .ok (.iconst 2, 1) := by decide +kernel
theorem dX12_put_34 : decode cX12_put 34 = .ok (.goto 4, 3) := by decide +kernel
theorem dX12_put_37 : decode cX12_put 37 = .ok (.iconst 0, 1) := by decide +kernel
theorem dX12_put_38 : decode cX12_put 38 = .ok (.invokevirtual 130, 3) := by decide +kernel
theorem dX12_put_41 : decode cX12_put 41 = .ok (.ifCond .eq 5, 3) := by decide +kernel
theorem dX12_put_44 : decode cX12_put 44 = .ok (.iconst 0, 1) := by decide +kernel
theorem dX12_put_45 : decode cX12_put 45 = .ok (.ireturn, 1) := by decide +kernel
theorem dX12_put_46 : decode cX12_put 46 = .ok (.aload_n 0, 1) := by decide +kernel
theorem dX12_put_47 : decode cX12_put 47 = .ok (.getfield 40, 3) := by decide +kernel
theorem dX12_put_50 : decode cX12_put 50 = .ok (.bipush 12, 2) := by decide +kernel
theorem dX12_put_52 : decode cX12_put 52 = .ok (.iload_n 1, 1) := by decide +kernel
theorem dX12_put_53 : decode cX12_put 53 = .ok (.imul, 1) := by decide +kernel
theorem dX12_put_54 : decode cX12_put 54 = .ok (.aload_n 0, 1) := by decide +kernel
theorem dX12_put_55 : decode cX12_put 55 = .ok (.getfield 37, 3) := by decide +kernel
theorem dX12_put_58 : decode cX12_put 58 = .ok (.iload_n 1, 1) := by decide +kernel
theorem dX12_put_59 : decode cX12_put 59 = .ok (.iaload, 1) := by decide +kernel
theorem dX12_put_60 : decode cX12_put 60 = .ok (.iadd, 1) := by decide +kernel
theorem dX12_put_61 : decode cX12_put 61 = .ok (.iload_n 2, 1) := by decide +kernel
theorem dX12_put_62 : decode cX12_put 62 = .ok (.iastore, 1) := by decide +kernel
theorem dX12_put_63 : decode cX12_put 63 = .ok (.aload_n 0, 1) := by decide +kernel
theorem dX12_put_64 : decode cX12_put 64 = .ok (.getfield 43, 3) := by decide +kernel
theorem dX12_put_67 : decode cX12_put 67 = .ok (.bipush 12, 2) := by decide +kernel
theorem dX12_put_69 : decode cX12_put 69 = .ok (.iload_n 1, 1) := by decide +kernel
theorem dX12_put_70 : decode cX12_put 70 = .ok (.imul, 1) := by decide +kernel
theorem dX12_put_71 : decode cX12_put 71 = .ok (.aload_n 0, 1) := by decide +kernel
theorem dX12_put_72 : decode cX12_put 72 = .ok (.getfield 37, 3) := by decide +kernel
theorem dX12_put_75 : decode cX12_put 75 = .ok (.iload_n 1, 1) := by decide +kernel
theorem dX12_put_76 : decode cX12_put 76 = .ok (.iaload, 1) := by decide +kernel
theorem dX12_put_77 : decode cX12_put 77 = .ok (.iadd, 1) := by decide +kernel
theorem dX12_put_78 : decode cX12_put 78 = .ok (.iload_n 3, 1) := by decide +kernel
theorem dX12_put_79 : decode cX12_put 79 = .ok (.iastore, 1) := by decide +kernel
theorem dX12_put_80 : decode cX12_put 80 = .ok (.aload_n 0, 1) := by decide +kernel
theorem dX12_put_81 : decode cX12_put 81 = .ok (.getfield 37, 3) := by decide +kernel
theorem dX12_put_84 : decode cX12_put 84 = .ok (.iload_n 1, 1) := by decide +kernel
theorem dX12_put_85 : decode cX12_put 85 = .ok (.dup2, 1) := by decide +kernel
theorem dX12_put_86 : decode cX12_put 86 = .ok (.iaload, 1) := by decide +kernel
theorem dX12_put_87 : decode cX12_put 87 = .ok (.iconst 1, 1) := by decide +kernel
theorem dX12_put_88 : decode cX12_put 88 = .ok (.iadd, 1) := by decide +kernel
theorem dX12_put_89 : decode cX12_put 89 = .ok (.iastore, 1) := by decide +kernel
theorem dX12_put_90 : decode cX12_put 90 = .ok (.aload_n 0, 1) := by decide +kernel
theorem dX12_put_91 : decode cX12_put 91 = .ok (.invokevirtual 141, 3) := by decide +kernel
theorem dX12_put_94 : decode cX12_put 94 = .ok (.aload_n 0, 1) := by decide +kernel
theorem dX12_put_95 : decode cX12_put 95 = .ok (.getfield 37, 3) := by decide +kernel
theorem dX12_put_98 : decode cX12_put 98 = .ok (.iload_n 1, 1) := by decide +kernel
theorem dX12_put_99 : decode cX12_put 99 = .ok (.iaload, 1) := by decide +kernel
theorem dX12_put_100 : decode cX12_put 100 = .ok (.ireturn, 1) := by decide +kernel
theorem dX12_map_0 : decode cX12_map 0 = .ok (.iload_n 2, 1) := by decide +kernel
theorem dX12_map_1 : decode cX12_map 1 = .ok (.ifCond .lt 21, 3) := by decide +kernel
theorem dX12_map_4 : decode cX12_map 4 = .ok (.iload_n 2, 1) := by decide +kernel
theorem dX12_map_5 : decode cX12_map 5 = .ok (.iconst 5, 1) := by decide +kernel
theorem dX12_map_6 : decode cX12_map 6 = .ok (.if_icmp .ge 16, 3) := by decide +kernel
theorem dX12_map_9 : decode cX12_map 9 = .ok (.iload_n 2, 1) := by decide +kernel
theorem dX12_map_10 : decode cX12_map 10 = .ok (.iconst 3, 1) := by decide +kernel
theorem dX12_map_11 : decode cX12_map 11 = .ok (.if_icmp .ne 7, 3) := by decide +kernel
theorem dX12_map_14 : decode cX12_map 14 = .ok (.iload_n 3, 1) := by decide +kernel
theorem dX12_map_15 : decode cX12_map 15 = .ok (.ifCond .le 7, 3) := by decide +kernel
theorem dX12_map_18 : decode cX12_map 18 = .ok (.iconst 1, 1) := by decide +kernel
theorem dX12_map_19 : decode cX12_map 19 = .ok (.goto 4, 3) := by decide +kernel
theorem dX12_map_22 : decode cX12_map 22 = .ok (.iconst 0, 1) := by decide +kernel
theorem dX12_map_23 : decode cX12_map 23 = .ok (.istore 4, 2) := by decide +kernel
theorem dX12_map_25 : decode cX12_map 25 = .ok (.aload_n 0, 1) := by decide +kernel
theorem dX12_map_26 : decode cX12_map 26 = .ok (.aload_n 0, 1) := by decide +kernel
theorem dX12_map_27 : decode cX12_map 27 = .ok (.iload_n 1, 1) := by decide +kernel
theorem dX12_map_28 : decode cX12_map 28 = .ok (.invokevirtual 138, 3) := by decide +kernel
theorem dX12_map_31 : decode cX12_map 31 = .ok (.ifCond .ne 7, 3) := by decide +kernel
theorem dX12_map_34 : decode cX12_map 34 = .ok (.iconst 1, 1) := by decide +kernel
theorem dX12_map_35 : decode cX12_map 35 = .ok (.goto 26, 3) := by decide +kernel
theorem dX12_map_38 : decode cX12_map 38 = .ok (.iload 4, 2) := by decide +kernel
theorem dX12_map_40 : decode cX12_map 40 = .ok (.ifCond .ne 7, 3) := by decide +kernel
theorem dX12_map_43 : decode cX12_map 43 = .ok (.iconst 2, 1) := by decide +kernel
theorem dX12_map_44 : decode cX12_map 44 = .ok (.goto 17, 3) := by decide +kernel
theorem dX12_map_47 : decode cX12_map 47 = .ok (.aload_n 0, 1) := by decide +kernel
theorem dX12_map_48 : decode cX12_map 48 = .ok (.getfield 123, 3) := by decide +kernel
theorem dX12_map_51 : decode cX12_map 51 = .ok (.bipush 14, 2) := by decide +kernel
theorem dX12_map_53 : decode cX12_map 53 = .ok (.if_icmp .ne 7, 3) := by decide +kernel
theorem dX12_map_56 : decode cX12_map 56 = .ok (.iconst 3, 1) := by decide +kernel
theorem dX12_map_57 : decode cX12_map 57 = .ok (.goto 4, 3) := by decide +kernel
theorem dX12_map_60 : decode cX12_map 60 = .ok (.iconst 0, 1) := by decide +kernel
theorem dX12_map_61 : decode cX12_map 61 = .ok (.invokevirtual 130, 3) := by decide +kernel
theorem dX12_map_64 : decode cX12_map 64 = .ok (.ifCond .eq 5, 3) := by decide +kernel
theorem dX12_map_67 : decode cX12_map 67 = .ok (.iconst 0, 1) := by decide +kernel
theorem dX12_map_68 : decode cX12_map 68 = .ok (.ireturn, 1) := by decide +kernel
theorem dX12_map_69 : decode cX12_map 69 = .ok (.aload_n 0, 1) := by decide +kernel
theorem dX12_map_70 : decode cX12_map 70 = .ok (.getfield 19, 3) := by decide +kernel
theorem dX12_map_73 : decode cX12_map 73 = .ok (.aload_n 0, 1) := by decide +kernel
theorem dX12_map_74 : decode cX12_map 74 = .ok (.getfield 123, 3) := by decide +kernel
theorem dX12_map_77 : decode cX12_map 77 = .ok (.iload_n 2, 1) := by decide +kernel
theorem dX12_map_78 : decode cX12_map 78 = .ok (.iastore, 1) := by decide +kernel
theorem dX12_map_79 : decode cX12_map 79 = .ok (.aload_n 0, 1) := by decide +kernel
theorem dX12_map_80 : decode cX12_map 80 = .ok (.getfield 22, 3) := by decide +kernel
theorem dX12_map_83 : decode cX12_map 83 = .ok (.aload_n 0, 1) := by decide +kernel
theorem dX12_map_84 : decode cX12_map 84 = .ok (.getfield 123, 3) := by decide +kernel
theorem dX12_map_87 : decode cX12_map 87 = .ok (.iload_n 3, 1) := by decide +kernel
theorem dX12_map_88 : decode cX12_map 88 = .ok (.iastore, 1) := by decide +kernel
theorem dX12_map_89 : decode cX12_map 89 = .ok (.aload_n 0, 1) := by decide +kernel
theorem dX12_map_90 : decode cX12_map 90 = .ok (.iconst 1, 1) := by decide +kernel
theorem dX12_map_91 : decode cX12_map 91 = .ok (.iload_n 1, 1) := by decide +kernel
theorem dX12_map_92 : decode cX12_map 92 = .ok (.iconst 0, 1) := by decide +kernel
theorem dX12_map_93 : decode cX12_map 93 = .ok (.aload_n 0, 1) := by decide +kernel
theorem dX12_map_94 : decode cX12_map 94 = .ok (.getfield 31, 3) := by decide +kernel
theorem dX12_map_97 : decode cX12_map 97 = .ok (.iload_n 1, 1) := by decide +kernel
theorem dX12_map_98 : decode cX12_map 98 = .ok (.iaload, 1) := by decide +kernel
theorem dX12_map_99 : decode cX12_map 99 = .ok (.aload_n 0, 1) := by decide +kernel
theorem dX12_map_100 : decode cX12_map 100 = .ok (.getfield 34, 3) := by decide +kernel
theorem dX12_map_103 : decode cX12_map 103 = .ok (.iload_n 1, 1) := by decide +kernel
theorem dX12_map_104 : decode cX12_map 104 = .ok (.iaload, 1) := by decide +kernel
theorem dX12_map_105 : decode cX12_map 105 = .ok (.invokevirtual 134, 3) := by decide +kernel
theorem dX12_map_108 : decode cX12_map 108 = .ok (.ireturn, 1) := by decide +kernel
theorem dX12_filter_0 : decode cX12_filter 0 = .ok (.aload_n 0, 1) := by decide +kernel
theorem dX12_filter_1 : decode cX12_filter 1 = .ok (.aload_n 0, 1) := by decide +kernel
theorem dX12_filter_2 : decode cX12_filter 2 = .ok (.iload_n 1, 1) := by decide +kernel
theorem dX12_filter_3 : decode cX12_filter 3 = .ok (.invokevirtual 138, 3) := by decide +kernel
theorem dX12_filter_6 : decode cX12_filter 6 = .ok (.ifCond .ne 7, 3) := by decide +kernel
theorem dX12_filter_9 : decode cX12_filter 9 = .ok (.iconst 1, 1) := by decide +kernel
theorem dX12_filter_10 : decode cX12_filter 10 = .ok (.goto 17, 3) := by decide +kernel
theorem dX12_filter_13 : decode cX12_filter 13 = .ok (.aload_n 0, 1) := by decide +kernel
theorem dX12_filter_14 : decode cX12_filter 14 = .ok (.getfield 123, 3) := by decide +kernel
theorem dX12_filter_17 : decode cX12_filter 17 = .ok (.bipush 14, 2) := by decide +kernel
theorem dX12_filter_19 : decode cX12_filter 19 = .ok (.if_icmp .ne 7, 3) := by decide +kernel
theorem dX12_filter_22 : decode cX12_filter 22 = .ok (.iconst 2, 1) := by decide +kernel
theorem dX12_filter_23 : decode cX12_filter 23 = .ok (.goto 4, 3) := by decide +kernel
theorem dX12_filter_26 : decode cX12_filter 26 = .ok (.iconst 0, 1) := by decide +kernel
theorem dX12_filter_27 : decode cX12_filter 27 = .ok (.invokevirtual 130, 3) := by decide +kernel
theorem dX12_filter_30 : decode cX12_filter 30 = .ok (.ifCond .eq 5, 3) := by decide +kernel
theorem dX12_filter_33 : decode cX12_filter 33 = .ok (.iconst 0, 1) := by decide +kernel
theorem dX12_filter_34 : decode cX12_filter 34 = .ok (.ireturn, 1) := by decide +kernel
theorem dX12_filter_35 : decode cX12_filter 35 = .ok (.aload_n 0, 1) := by decide +kernel
theorem dX12_filter_36 : decode cX12_filter 36 = .ok (.getfield 22, 3) := by decide +kernel
theorem dX12_filter_39 : decode cX12_filter 39 = .ok (.aload_n 0, 1) := by decide +kernel
theorem dX12_filter_40 : decode cX12_filter 40 = .ok (.getfield 123, 3) := by decide +kernel
theorem dX12_filter_43 : decode cX12_filter 43 = .ok (.iload_n 2, 1) := by decide +kernel
theorem dX12_filter_44 : decode cX12_filter 44 = .ok (.iastore, 1) := by decide +kernel
theorem dX12_filter_45 : decode cX12_filter 45 = .ok (.aload_n 0, 1) := by decide +kernel
theorem dX12_filter_46 : decode cX12_filter 46 = .ok (.getfield 25, 3) := by decide +kernel
theorem dX12_filter_49 : decode cX12_filter 49 = .ok (.aload_n 0, 1) := by decide +kernel
theorem dX12_filter_50 : decode cX12_filter 50 = .ok (.getfield 123, 3) := by decide +kernel
theorem dX12_filter_53 : decode cX12_filter 53 = .ok (.iload_n 3, 1) := by decide +kernel
theorem dX12_filter_54 : decode cX12_filter 54 = .ok (.iastore, 1) := by decide +kernel
theorem dX12_filter_55 : decode cX12_filter 55 = .ok (.aload_n 0, 1) := by decide +kernel
theorem dX12_filter_56 : decode cX12_filter 56 = .ok (.iconst 2, 1) := by decide +kernel
theorem dX12_filter_57 : decode cX12_filter 57 = .ok (.iload_n 1, 1) := by decide +kernel
theorem dX12_filter_58 : decode cX12_filter 58 = .ok (.iconst 0, 1) := by decide +kernel
theorem dX12_filter_59 : decode cX12_filter 59 = .ok (.aload_n 0, 1) := by decide +kernel
theorem dX12_filter_60 : decode cX12_filter 60 = .ok (.getfield 31, 3) := by decide +kernel
theorem dX12_filter_63 : decode cX12_filter 63 = .ok (.iload_n 1, 1) := by decide +kernel
theorem dX12_filter_64 : decode cX12_filter 64 = .ok (.iaload, 1) := by decide +kernel
theorem dX12_filter_65 : decode cX12_filter 65 = .ok (.aload_n 0, 1) := by decide +kernel
theorem dX12_filter_66 : decode cX12_filter 66 = .ok (.getfield 34, 3) := by decide +kernel
theorem dX12_filter_69 : decode cX12_filter 69 = .ok (.iload_n 1, 1) := by decide +kernel
theorem dX12_filter_70 : decode cX12_filter 70 = .ok (.iaload, 1) := by decide +kernel
theorem dX12_filter_71 : decode cX12_filter 71 = .ok (.invokevirtual 134, 3) := by decide +kernel
theorem dX12_filter_74 : decode cX12_filter 74 = .ok (.ireturn, 1) := by decide +kernel
theorem dX12_union_0 : decode cX12_union 0 = .ok (.aload_n 0, 1) := by decide +kernel
theorem dX12_union_1 : decode cX12_union 1 = .ok (.iload_n 1, 1) := by decide +kernel
theorem dX12_union_2 : decode cX12_union 2 = .ok (.invokevirtual 138, 3) := by decide +kernel
theorem dX12_union_5 : decode cX12_union 5 = .ok (.ifCond .eq 15, 3) := by decide +kernel
theorem dX12_union_8 : decode cX12_union 8 = .ok (.aload_n 0, 1) := by decide +kernel
theorem dX12_union_9 : decode cX12_union 9 = .ok (.iload_n 2, 1) := by decide +kernel
theorem dX12_union_10 : decode cX12_union 10 = .ok (.invokevirtual 138, 3) := by decide +kernel
theorem dX12_union_13 : decode cX12_union 13 = .ok (.ifCond .eq 7, 3) := by decide +kernel
theorem dX12_union_16 : decode cX12_union 16 = .ok (.iconst 1, 1) := by decide +kernel
theorem dX12_union_17 : decode cX12_union 17 = .ok (.goto 4, 3) := by decide +kernel
theorem dX12_union_20 : decode cX12_union 20 = .ok (.iconst 0, 1) := by decide +kernel
theorem dX12_union_21 : decode cX12_union 21 = .ok (.istore_n 3, 1) := by decide +kernel
theorem dX12_union_22 : decode cX12_union 22 = .ok (.iload_n 3, 1) := by decide +kernel
theorem dX12_union_23 : decode cX12_union 23 = .ok (.ifCond .eq 19, 3) := by decide +kernel
theorem dX12_union_26 : decode cX12_union 26 = .ok (.aload_n 0, 1) := by decide +kernel
theorem dX12_union_27 : decode cX12_union 27 = .ok (.getfield 31, 3) := by decide +kernel
theorem dX12_union_30 : decode cX12_union 30 = .ok (.iload_n 1, 1) := by decide +kernel
theorem dX12_union_31 : decode cX12_union 31 = .ok (.iaload, 1) := by decide +kernel
theorem dX12_union_32 : decode cX12_union 32 = .ok (.aload_n 0, 1) := by decide +kernel
theorem dX12_union_33 : decode cX12_union 33 = .ok (.getfield 31, 3) := by decide +kernel
theorem dX12_union_36 : decode cX12_union 36 = .ok (.iload_n 2, 1) := by decide +kernel
theorem dX12_union_37 : decode cX12_union 37 = .ok (.iaload, 1) := by decide +kernel
theorem dX12_union_38 : decode cX12_union 38 = .ok (.iadd, 1) := by decide +kernel
theorem dX12_union_39 : decode cX12_union 39 = .ok (.goto 4, 3) := by decide +kernel
theorem dX12_union_42 : decode cX12_union 42 = .ok (.iconst 0, 1) := by decide +kernel
theorem dX12_union_43 : decode cX12_union 43 = .ok (.istore 4, 2) := by decide +kernel
theorem dX12_union_45 : decode cX12_union 45 = .ok (.iload_n 3, 1) := by decide +kernel
theorem dX12_union_46 : decode cX12_union 46 = .ok (.ifCond .eq 19, 3) := by decide +kernel
theorem dX12_union_49 : decode cX12_union 49 = .ok (.aload_n 0, 1) := by decide +kernel
theorem dX12_union_50 : decode cX12_union 50 = .ok (.getfield 34, 3) := by decide +kernel
theorem dX12_union_53 : decode cX12_union 53 = .ok (.iload_n 1, 1) := by decide +kernel
theorem dX12_union_54 : decode cX12_union 54 = .ok (.iaload, 1) := by decide +kernel
theorem dX12_union_55 : decode cX12_union 55 = .ok (.aload_n 0, 1) := by decide +kernel
theorem dX12_union_56 : decode cX12_union 56 = .ok (.getfield 34, 3) := by decide +kernel
theorem dX12_union_59 : decode cX12_union 59 = .ok (.iload_n 2, 1) := by decide +kernel
theorem dX12_union_60 : decode cX12_union 60 = .ok (.iaload, 1) := by decide +kernel
theorem dX12_union_61 : decode cX12_union 61 = .ok (.iadd, 1) := by decide +kernel
theorem dX12_union_62 : decode cX12_union 62 = .ok (.goto 4, 3) := by decide +kernel
theorem dX12_union_65 : decode cX12_union 65 = .ok (.iconst 0, 1) := by decide +kernel
theorem dX12_union_66 : decode cX12_union 66 = .ok (.istore 5, 2) := by decide +kernel
theorem dX12_union_68 : decode cX12_union 68 = .ok (.aload_n 0, 1) := by decide +kernel
theorem dX12_union_69 : decode cX12_union 69 = .ok (.iload_n 3, 1) := by decide +kernel
theorem dX12_union_70 : decode cX12_union 70 = .ok (.ifCond .ne 7, 3) := by decide +kernel
theorem dX12_union_73 : decode cX12_union 73 = .ok (.iconst 1, 1) := by decide +kernel
theorem dX12_union_74 : decode cX12_union 74 = .ok (.goto 32, 3) := by decide +kernel
theorem dX12_union_77 : decode cX12_union 77 = .ok (.aload_n 0, 1) := by decide +kernel
theorem dX12_union_78 : decode cX12_union 78 = .ok (.getfield 123, 3) := by decide +kernel
theorem dX12_union_81 : decode cX12_union 81 = .ok (.bipush 14, 2) := by decide +kernel
theorem dX12_union_83 : decode cX12_union 83 = .ok (.if_icmp .eq 18, 3) := by decide +kernel
theorem dX12_union_86 : decode cX12_union 86 = .ok (.iload 4, 2) := by decide +kernel
theorem dX12_union_88 : decode cX12_union 88 = .ok (.sipush 300, 3) := by decide +kernel
theorem dX12_union_91 : decode cX12_union 91 = .ok (.if_icmp .gt 10, 3) := by decide +kernel
theorem dX12_union_94 : decode cX12_union 94 = .ok (.iload 5, 2) := by decide +kernel
theorem dX12_union_96 : decode cX12_union 96 = .ok (.bipush 8, 2) := by decide +kernel
theorem dX12_union_98 : decode cX12_union 98 = .ok (.if_icmp .le 7, 3) := by decide +kernel
theorem dX12_union_101 : decode cX12_union 101 = .ok (.iconst 2, 1) := by decide +kernel
theorem dX12_union_102 : decode cX12_union 102 = .ok (.goto 4, 3) := by decide +kernel
theorem dX12_union_105 : decode cX12_union 105 = .ok (.iconst 0, 1) := by decide +kernel
theorem dX12_union_106 : decode cX12_union 106 = .ok (.invokevirtual 130, 3) := by decide +kernel
theorem dX12_union_109 : decode cX12_union 109 = .ok (.ifCond .eq 5, 3) := by decide +kernel
theorem dX12_union_112 : decode cX12_union 112 = .ok (.iconst 0, 1) := by decide +kernel
theorem dX12_union_113 : decode cX12_union 113 = .ok (.ireturn, 1) := by decide +kernel
theorem dX12_union_114 : decode cX12_union 114 = .ok (.aload_n 0, 1) := by decide +kernel
theorem dX12_union_115 : decode cX12_union 115 = .ok (.iconst 3, 1) := by decide +kernel
theorem dX12_union_116 : decode cX12_union 116 = .ok (.iload_n 1, 1) := by decide +kernel
theorem dX12_union_117 : decode cX12_union 117 = .ok (.iload_n 2, 1) := by decide +kernel
theorem dX12_union_118 : decode cX12_union 118 = .ok (.iload 4, 2) := by decide +kernel
theorem dX12_union_120 : decode cX12_union 120 = .ok (.iload 5, 2) := by decide +kernel
theorem dX12_union_122 : decode cX12_union 122 = .ok (.invokevirtual 134, 3) := by decide +kernel
theorem dX12_union_125 : decode cX12_union 125 = .ok (.ireturn, 1) := by decide +kernel
theorem dX12_group_0 : decode cX12_group 0 = .ok (.iload_n 2, 1) := by decide +kernel
theorem dX12_group_1 : decode cX12_group 1 = .ok (.ifCond .lt 21, 3) := by decide +kernel
theorem dX12_group_4 : decode cX12_group 4 = .ok (.iload_n 2, 1) := by decide +kernel
theorem dX12_group_5 : decode cX12_group 5 = .ok (.iconst 4, 1) := by decide +kernel
theorem dX12_group_6 : decode cX12_group 6 = .ok (.if_icmp .ge 16, 3) := by decide +kernel
theorem dX12_group_9 : decode cX12_group 9 = .ok (.iload_n 3, 1) := by decide +kernel
theorem dX12_group_10 : decode cX12_group 10 = .ok (.ifCond .le 12, 3) := by decide +kernel
theorem dX12_group_13 : decode cX12_group 13 = .ok (.iload_n 3, 1) := by decide +kernel
theorem dX12_group_14 : decode cX12_group 14 = .ok (.iconst 5, 1) := by decide +kernel
theorem dX12_group_15 : decode cX12_group 15 = .ok (.if_icmp .ge 7, 3) := by decide +kernel
theorem dX12_group_18 : decode cX12_group 18 = .ok (.iconst 1, 1) := by decide +kernel
theorem dX12_group_19 : decode cX12_group 19 = .ok (.goto 4, 3) := by decide +kernel
theorem dX12_group_22 : decode cX12_group 22 = .ok (.iconst 0, 1) := by decide +kernel
theorem dX12_group_23 : decode cX12_group 23 = .ok (.istore 4, 2) := by decide +kernel
theorem dX12_group_25 : decode cX12_group 25 = .ok (.aload_n 0, 1) := by decide +kernel
theorem dX12_group_26 : decode cX12_group 26 = .ok (.aload_n 0, 1) := by decide +kernel
theorem dX12_group_27 : decode cX12_group 27 = .ok (.iload_n 1, 1) := by decide +kernel
theorem dX12_group_28 : decode cX12_group 28 = .ok (.invokevirtual 138, 3) := by decide +kernel
theorem dX12_group_31 : decode cX12_group 31 = .ok (.ifCond .ne 7, 3) := by decide +kernel
theorem dX12_group_34 : decode cX12_group 34 = .ok (.iconst 1, 1) := by decide +kernel
theorem dX12_group_35 : decode cX12_group 35 = .ok (.goto 26, 3) := by decide +kernel
theorem dX12_group_38 : decode cX12_group 38 = .ok (.iload 4, 2) := by decide +kernel
theorem dX12_group_40 : decode cX12_group 40 = .ok (.ifCond .ne 7, 3) := by decide +kernel
theorem dX12_group_43 : decode cX12_group 43 = .ok (.iconst 2, 1) := by decide +kernel
theorem dX12_group_44 : decode cX12_group 44 = .ok (.goto 17, 3) := by decide +kernel
theorem dX12_group_47 : decode cX12_group 47 = .ok (.aload_n 0, 1) := by decide +kernel
theorem dX12_group_48 : decode cX12_group 48 = .ok (.getfield 123, 3) := by decide +kernel
theorem dX12_group_51 : decode cX12_group 51 = .ok (.bipush 14, 2) := by decide +kernel
theorem dX12_group_53 : decode cX12_group 53 = .ok (.if_icmp .ne 7, 3) := by decide +kernel
theorem dX12_group_56 : decode cX12_group 56 = .ok (.iconst 3, 1) := by decide +kernel
theorem dX12_group_57 : decode cX12_group 57 = .ok (.goto 4, 3) := by decide +kernel
theorem dX12_group_60 : decode cX12_group 60 = .ok (.iconst 0, 1) := by decide +kernel
theorem dX12_group_61 : decode cX12_group 61 = .ok (.invokevirtual 130, 3) := by decide +kernel
theorem dX12_group_64 : decode cX12_group 64 = .ok (.ifCond .eq 5, 3) := by decide +kernel
theorem dX12_group_67 : decode cX12_group 67 = .ok (.iconst 0, 1) := by decide +kernel
theorem dX12_group_68 : decode cX12_group 68 = .ok (.ireturn, 1) := by decide +kernel
theorem dX12_group_69 : decode cX12_group 69 = .ok (.aload_n 0, 1) := by decide +kernel
theorem dX12_group_70 : decode cX12_group 70 = .ok (.getfield 19, 3) := by decide +kernel
theorem dX12_group_73 : decode cX12_group 73 = .ok (.aload_n 0, 1) := by decide +kernel
theorem dX12_group_74 : decode cX12_group 74 = .ok (.getfield 123, 3) := by decide +kernel
theorem dX12_group_77 : decode cX12_group 77 = .ok (.iload_n 2, 1) := by decide +kernel
theorem dX12_group_78 : decode cX12_group 78 = .ok (.iastore, 1) := by decide +kernel
theorem dX12_group_79 : decode cX12_group 79 = .ok (.aload_n 0, 1) := by decide +kernel
theorem dX12_group_80 : decode cX12_group 80 = .ok (.getfield 28, 3) := by decide +kernel
theorem dX12_group_83 : decode cX12_group 83 = .ok (.aload_n 0, 1) := by decide +kernel
theorem dX12_group_84 : decode cX12_group 84 = .ok (.getfield 123, 3) := by decide +kernel
theorem dX12_group_87 : decode cX12_group 87 = .ok (.iload_n 3, 1) := by decide +kernel
theorem dX12_group_88 : decode cX12_group 88 = .ok (.iastore, 1) := by decide +kernel
theorem dX12_group_89 : decode cX12_group 89 = .ok (.aload_n 0, 1) := by decide +kernel
theorem dX12_group_90 : decode cX12_group 90 = .ok (.iconst 4, 1) := by decide +kernel
theorem dX12_group_91 : decode cX12_group 91 = .ok (.iload_n 1, 1) := by decide +kernel
theorem dX12_group_92 : decode cX12_group 92 = .ok (.iconst 0, 1) := by decide +kernel
theorem dX12_group_93 : decode cX12_group 93 = .ok (.aload_n 0, 1) := by decide +kernel
theorem dX12_group_94 : decode cX12_group 94 = .ok (.getfield 31, 3) := by decide +kernel
theorem dX12_group_97 : decode cX12_group 97 = .ok (.iload_n 1, 1) := by decide +kernel
theorem dX12_group_98 : decode cX12_group 98 = .ok (.iaload, 1) := by decide +kernel
theorem dX12_group_99 : decode cX12_group 99 = .ok (.iload_n 3, 1) := by decide +kernel
theorem dX12_group_100 : decode cX12_group 100 = .ok (.invokevirtual 134, 3) := by decide +kernel
theorem dX12_group_103 : decode cX12_group 103 = .ok (.ireturn, 1) := by decide +kernel
theorem dX12_join_0 : decode cX12_join 0 = .ok (.aload_n 0, 1) := by decide +kernel
theorem dX12_join_1 : decode cX12_join 1 = .ok (.iload_n 1, 1) := by decide +kernel
theorem dX12_join_2 : decode cX12_join 2 = .ok (.invokevirtual 138, 3) := by decide +kernel
theorem dX12_join_5 : decode cX12_join 5 = .ok (.ifCond .eq 15, 3) := by decide +kernel
theorem dX12_join_8 : decode cX12_join 8 = .ok (.aload_n 0, 1) := by decide +kernel
theorem dX12_join_9 : decode cX12_join 9 = .ok (.iload_n 2, 1) := by decide +kernel
theorem dX12_join_10 : decode cX12_join 10 = .ok (.invokevirtual 138, 3) := by decide +kernel
theorem dX12_join_13 : decode cX12_join 13 = .ok (.ifCond .eq 7, 3) := by decide +kernel
theorem dX12_join_16 : decode cX12_join 16 = .ok (.iconst 1, 1) := by decide +kernel
theorem dX12_join_17 : decode cX12_join 17 = .ok (.goto 4, 3) := by decide +kernel
theorem dX12_join_20 : decode cX12_join 20 = .ok (.iconst 0, 1) := by decide +kernel
theorem dX12_join_21 : decode cX12_join 21 = .ok (.istore 4, 2) := by decide +kernel
theorem dX12_join_23 : decode cX12_join 23 = .ok (.iload 4, 2) := by decide +kernel
theorem dX12_join_25 : decode cX12_join 25 = .ok (.ifCond .eq 19, 3) := by decide +kernel
theorem dX12_join_28 : decode cX12_join 28 = .ok (.aload_n 0, 1) := by decide +kernel
theorem dX12_join_29 : decode cX12_join 29 = .ok (.getfield 31, 3) := by decide +kernel
theorem dX12_join_32 : decode cX12_join 32 = .ok (.iload_n 1, 1) := by decide +kernel
theorem dX12_join_33 : decode cX12_join 33 = .ok (.iaload, 1) := by decide +kernel
theorem dX12_join_34 : decode cX12_join 34 = .ok (.aload_n 0, 1) := by decide +kernel
theorem dX12_join_35 : decode cX12_join 35 = .ok (.getfield 31, 3) := by decide +kernel
theorem dX12_join_38 : decode cX12_join 38 = .ok (.iload_n 2, 1) := by decide +kernel
theorem dX12_join_39 : decode cX12_join 39 = .ok (.iaload, 1) := by decide +kernel
theorem dX12_join_40 : decode cX12_join 40 = .ok (.imul, 1) := by decide +kernel
theorem dX12_join_41 : decode cX12_join 41 = .ok (.goto 4, 3) := by decide +kernel
theorem dX12_join_44 : decode cX12_join 44 = .ok (.iconst 0, 1) := by decide +kernel
theorem dX12_join_45 : decode cX12_join 45 = .ok (.istore 5, 2) := by decide +kernel
theorem dX12_join_47 : decode cX12_join 47 = .ok (.aload_n 0, 1) := by decide +kernel
theorem dX12_join_48 : decode cX12_join 48 = .ok (.iload 4, 2) := by decide +kernel
theorem dX12_join_50 : decode cX12_join 50 = .ok (.ifCond .ne 7, 3) := by decide +kernel
theorem dX12_join_53 : decode cX12_join 53 = .ok (.iconst 1, 1) := by decide +kernel
theorem dX12_join_54 : decode cX12_join 54 = .ok (.goto 39, 3) := by decide +kernel
theorem dX12_join_57 : decode cX12_join 57 = .ok (.iload_n 3, 1) := by decide +kernel
theorem dX12_join_58 : decode cX12_join 58 = .ok (.iconst 1, 1) := by decide +kernel
theorem dX12_join_59 : decode cX12_join 59 = .ok (.if_icmp .lt 8, 3) := by decide +kernel
theorem dX12_join_62 : decode cX12_join 62 = .ok (.iload_n 3, 1) := by decide +kernel
theorem dX12_join_63 : decode cX12_join 63 = .ok (.iconst 4, 1) := by decide +kernel
theorem dX12_join_64 : decode cX12_join 64 = .ok (.if_icmp .le 7, 3) := by decide +kernel
theorem dX12_join_67 : decode cX12_join 67 = .ok (.iconst 2, 1) := by decide +kernel
theorem dX12_join_68 : decode cX12_join 68 = .ok (.goto 25, 3) := by decide +kernel
theorem dX12_join_71 : decode cX12_join 71 = .ok (.aload_n 0, 1) := by decide +kernel
theorem dX12_join_72 : decode cX12_join 72 = .ok (.getfield 123, 3) := by decide +kernel
theorem dX12_join_75 : decode cX12_join 75 = .ok (.bipush 14, 2) := by decide +kernel
theorem dX12_join_77 : decode cX12_join 77 = .ok (.if_icmp .eq 11, 3) := by decide +kernel
theorem dX12_join_80 : decode cX12_join 80 = .ok (.iload 5, 2) := by decide +kernel
theorem dX12_join_82 : decode cX12_join 82 = .ok (.sipush 300, 3) := by decide +kernel
theorem dX12_join_85 : decode cX12_join 85 = .ok (.if_icmp .le 7, 3) := by decide +kernel
theorem dX12_join_88 : decode cX12_join 88 = .ok (.iconst 3, 1) := by decide +kernel
theorem dX12_join_89 : decode cX12_join 89 = .ok (.goto 4, 3) := by decide +kernel
theorem dX12_join_92 : decode cX12_join 92 = .ok (.iconst 0, 1) := by decide +kernel
theorem dX12_join_93 : decode cX12_join 93 = .ok (.invokevirtual 130, 3) := by decide +kernel
theorem dX12_join_96 : decode cX12_join 96 = .ok (.ifCond .eq 5, 3) := by decide +kernel
theorem dX12_join_99 : decode cX12_join 99 = .ok (.iconst 0, 1) := by decide +kernel
theorem dX12_join_100 : decode cX12_join 100 = .ok (.ireturn, 1) := by decide +kernel
theorem dX12_join_101 : decode cX12_join 101 = .ok (.aload_n 0, 1) := by decide +kernel
theorem dX12_join_102 : decode cX12_join 102 = .ok (.getfield 28, 3) := by decide +kernel
theorem dX12_join_105 : decode cX12_join 105 = .ok (.aload_n 0, 1) := by decide +kernel
theorem dX12_join_106 : decode cX12_join 106 = .ok (.getfield 123, 3) := by decide +kernel
theorem dX12_join_109 : decode cX12_join 109 = .ok (.iload_n 3, 1) := by decide +kernel
theorem dX12_join_110 : decode cX12_join 110 = .ok (.iastore, 1) := by decide +kernel
theorem dX12_join_111 : decode cX12_join 111 = .ok (.aload_n 0, 1) := by decide +kernel
theorem dX12_join_112 : decode cX12_join 112 = .ok (.iconst 5, 1) := by decide +kernel
theorem dX12_join_113 : decode cX12_join 113 = .ok (.iload_n 1, 1) := by decide +kernel
theorem dX12_join_114 : decode cX12_join 114 = .ok (.iload_n 2, 1) := by decide +kernel
theorem dX12_join_115 : decode cX12_join 115 = .ok (.iload 5, 2) := by decide +kernel
theorem dX12_join_117 : decode cX12_join 117 = .ok (.iload_n 3, 1) := by decide +kernel
theorem dX12_join_118 : decode cX12_join 118 = .ok (.aload_n 0, 1) := by decide +kernel
theorem dX12_join_119 : decode cX12_join 119 = .ok (.getfield 34, 3) := by decide +kernel
theorem dX12_join_122 : decode cX12_join 122 = .ok (.iload_n 1, 1) := by decide +kernel
theorem dX12_join_123 : decode cX12_join 123 = .ok (.iaload, 1) := by decide +kernel
theorem dX12_join_124 : decode cX12_join 124 = .ok (.if_icmp .le 7, 3) := by decide +kernel
theorem dX12_join_127 : decode cX12_join 127 = .ok (.iload_n 3, 1) := by decide +kernel
theorem dX12_join_128 : decode cX12_join 128 = .ok (.goto 9, 3) := by decide +kernel
theorem dX12_join_131 : decode cX12_join 131 = .ok (.aload_n 0, 1) := by decide +kernel
theorem dX12_join_132 : decode cX12_join 132 = .ok (.getfield 34, 3) := by decide +kernel
theorem dX12_join_135 : decode cX12_join 135 = .ok (.iload_n 1, 1) := by decide +kernel
theorem dX12_join_136 : decode cX12_join 136 = .ok (.iaload, 1) := by decide +kernel
theorem dX12_join_137 : decode cX12_join 137 = .ok (.invokevirtual 134, 3) := by decide +kernel
theorem dX12_join_140 : decode cX12_join 140 = .ok (.ireturn, 1) := by decide +kernel
theorem dX12_nodes_0 : decode cX12_nodes 0 = .ok (.aload_n 0, 1) := by decide +kernel
theorem dX12_nodes_1 : decode cX12_nodes 1 = .ok (.aload_n 0, 1) := by decide +kernel
theorem dX12_nodes_2 : decode cX12_nodes 2 = .ok (.getfield 123, 3) := by decide +kernel
theorem dX12_nodes_5 : decode cX12_nodes 5 = .ok (.invokevirtual 144, 3) := by decide +kernel
theorem dX12_nodes_8 : decode cX12_nodes 8 = .ok (.ireturn, 1) := by decide +kernel
theorem dX12_share_0 : decode cX12_share 0 = .ok (.iload_n 0, 1) := by decide +kernel
theorem dX12_share_1 : decode cX12_share 1 = .ok (.iload_n 1, 1) := by decide +kernel
theorem dX12_share_2 : decode cX12_share 2 = .ok (.irem, 1) := by decide +kernel
theorem dX12_share_3 : decode cX12_share 3 = .ok (.istore_n 2, 1) := by decide +kernel
theorem dX12_share_4 : decode cX12_share 4 = .ok (.iload_n 2, 1) := by decide +kernel
theorem dX12_share_5 : decode cX12_share 5 = .ok (.ifCond .ge 9, 3) := by decide +kernel
theorem dX12_share_8 : decode cX12_share 8 = .ok (.iload_n 2, 1) := by decide +kernel
theorem dX12_share_9 : decode cX12_share 9 = .ok (.iload_n 1, 1) := by decide +kernel
theorem dX12_share_10 : decode cX12_share 10 = .ok (.iadd, 1) := by decide +kernel
theorem dX12_share_11 : decode cX12_share 11 = .ok (.goto 4, 3) := by decide +kernel
theorem dX12_share_14 : decode cX12_share 14 = .ok (.iload_n 2, 1) := by decide +kernel
theorem dX12_share_15 : decode cX12_share 15 = .ok (.ireturn, 1) := by decide +kernel
theorem dX12_at_0 : decode cX12_at 0 = .ok (.aload_n 0, 1) := by decide +kernel
theorem dX12_at_1 : decode cX12_at 1 = .ok (.getfield 49, 3) := by decide +kernel
theorem dX12_at_4 : decode cX12_at 4 = .ok (.bipush 9, 2) := by decide +kernel
theorem dX12_at_6 : decode cX12_at 6 = .ok (.iload_n 1, 1) := by decide +kernel
theorem dX12_at_7 : decode cX12_at 7 = .ok (.imul, 1) := by decide +kernel
theorem dX12_at_8 : decode cX12_at 8 = .ok (.iload_n 2, 1) := by decide +kernel
theorem dX12_at_9 : decode cX12_at 9 = .ok (.iadd, 1) := by decide +kernel
theorem dX12_at_10 : decode cX12_at 10 = .ok (.iaload, 1) := by decide +kernel
theorem dX12_at_11 : decode cX12_at 11 = .ok (.ireturn, 1) := by decide +kernel
theorem dX12_all_0 : decode cX12_all 0 = .ok (.aload_n 0, 1) := by decide +kernel
theorem dX12_all_1 : decode cX12_all 1 = .ok (.iload_n 1, 1) := by decide +kernel
theorem dX12_all_2 : decode cX12_all 2 = .ok (.aload_n 0, 1) := by decide +kernel
theorem dX12_all_3 : decode cX12_all 3 = .ok (.getfield 46, 3) := by decide +kernel
theorem dX12_all_6 : decode cX12_all 6 = .ok (.iload_n 1, 1) := by decide +kernel
theorem dX12_all_7 : decode cX12_all 7 = .ok (.iaload, 1) := by decide +kernel
theorem dX12_all_8 : decode cX12_all 8 = .ok (.invokevirtual 148, 3) := by decide +kernel
theorem dX12_all_11 : decode cX12_all 11 = .ok (.ireturn, 1) := by decide +kernel
theorem dX12_isBroadly_0 : decode cX12_isBroadly 0 = .ok (.aload_n 0, 1) := by decide +kernel
theorem dX12_isBroadly_1 : decode cX12_isBroadly 1 = .ok (.aload_n 0, 1) := by decide +kernel
theorem dX12_isBroadly_2 : decode cX12_isBroadly 2 = .ok (.getfield 16, 3) := by decide +kernel
theorem dX12_isBroadly_5 : decode cX12_isBroadly 5 = .ok (.iload_n 1, 1) := by decide +kernel
theorem dX12_isBroadly_6 : decode cX12_isBroadly 6 = .ok (.iaload, 1) := by decide +kernel
theorem dX12_isBroadly_7 : decode cX12_isBroadly 7 = .ok (.invokevirtual 152, 3) := by decide +kernel
theorem dX12_isBroadly_10 : decode cX12_isBroadly 10 = .ok (.aload_n 0, 1) := by decide +kernel
theorem dX12_isBroadly_11 : decode cX12_isBroadly 11 = .ok (.getfield 58, 3) := by decide +kernel
theorem dX12_isBroadly_14 : decode cX12_isBroadly 14 = .ok (.if_icmp .gt 7, 3) := by decide +kernel
theorem dX12_isBroadly_17 : decode cX12_isBroadly 17 = .ok (.iconst 1, 1) := by decide +kernel
theorem dX12_isBroadly_18 : decode cX12_isBroadly 18 = .ok (.goto 4, 3) := by decide +kernel
theorem dX12_isBroadly_21 : decode cX12_isBroadly 21 = .ok (.iconst 0, 1) := by decide +kernel
theorem dX12_isBroadly_22 : decode cX12_isBroadly 22 = .ok (.ireturn, 1) := by decide +kernel
theorem dX12_adds_0 : decode cX12_adds 0 = .ok (.aload_n 0, 1) := by decide +kernel
theorem dX12_adds_1 : decode cX12_adds 1 = .ok (.getfield 52, 3) := by decide +kernel
theorem dX12_adds_4 : decode cX12_adds 4 = .ok (.sipush 300, 3) := by decide +kernel
theorem dX12_adds_7 : decode cX12_adds 7 = .ok (.iload_n 1, 1) := by decide +kernel
theorem dX12_adds_8 : decode cX12_adds 8 = .ok (.imul, 1) := by decide +kernel
theorem dX12_adds_9 : decode cX12_adds 9 = .ok (.iload_n 2, 1) := by decide +kernel
theorem dX12_adds_10 : decode cX12_adds 10 = .ok (.iadd, 1) := by decide +kernel
theorem dX12_adds_11 : decode cX12_adds 11 = .ok (.iload_n 3, 1) := by decide +kernel
theorem dX12_adds_12 : decode cX12_adds 12 = .ok (.iastore, 1) := by decide +kernel
theorem dX12_adds_13 : decode cX12_adds 13 = .ok (.aload_n 0, 1) := by decide +kernel
theorem dX12_adds_14 : decode cX12_adds 14 = .ok (.getfield 55, 3) := by decide +kernel
theorem dX12_adds_17 : decode cX12_adds 17 = .ok (.sipush 300, 3) := by decide +kernel
theorem dX12_adds_20 : decode cX12_adds 20 = .ok (.iload_n 1, 1) := by decide +kernel
theorem dX12_adds_21 : decode cX12_adds 21 = .ok (.imul, 1) := by decide +kernel
theorem dX12_adds_22 : decode cX12_adds 22 = .ok (.iload_n 2, 1) := by decide +kernel
theorem dX12_adds_23 : decode cX12_adds 23 = .ok (.iadd, 1) := by decide +kernel
theorem dX12_adds_24 : decode cX12_adds 24 = .ok (.iload 4, 2) := by decide +kernel
theorem dX12_adds_26 : decode cX12_adds 26 = .ok (.iastore, 1) := by decide +kernel
theorem dX12_adds_27 : decode cX12_adds 27 = .ok (.return_, 1) := by decide +kernel
theorem dX12_holdsSource_0 : decode cX12_holdsSource 0 = .ok (.aload_n 0, 1) := by decide +kernel
theorem dX12_holdsSource_1 : decode cX12_holdsSource 1 = .ok (.getfield 46, 3) := by decide +kernel
theorem dX12_holdsSource_4 : decode cX12_holdsSource 4 = .ok (.iload_n 1, 1) := by decide +kernel
theorem dX12_holdsSource_5 : decode cX12_holdsSource 5 = .ok (.aload_n 0, 1) := by decide +kernel
theorem dX12_holdsSource_6 : decode cX12_holdsSource 6 = .ok (.getfield 28, 3) := by decide +kernel
theorem dX12_holdsSource_9 : decode cX12_holdsSource 9 = .ok (.iload_n 1, 1) := by decide +kernel
theorem dX12_holdsSource_10 : decode cX12_holdsSource 10 = .ok (.iaload, 1) := by decide +kernel
theorem dX12_holdsSource_11 : decode cX12_holdsSource 11 = .ok (.iastore, 1) := by decide +kernel
theorem dX12_holdsSource_12 : decode cX12_holdsSource 12 = .ok (.iconst 0, 1) := by decide +kernel
theorem dX12_holdsSource_13 : decode cX12_holdsSource 13 = .ok (.istore_n 2, 1) := by decide +kernel
theorem dX12_holdsSource_14 : decode cX12_holdsSource 14 = .ok (.iconst 0, 1) := by decide +kernel
theorem dX12_holdsSource_15 : decode cX12_holdsSource 15 = .ok (.istore_n 3, 1) := by decide +kernel
theorem dX12_holdsSource_16 : decode cX12_holdsSource 16 = .ok (.iload_n 3, 1) := by decide +kernel
theorem dX12_holdsSource_17 : decode cX12_holdsSource 17 = .ok (.aload_n 0, 1) := by decide +kernel
theorem dX12_holdsSource_18 : decode cX12_holdsSource 18 = .ok (.getfield 28, 3) := by decide +kernel
theorem dX12_holdsSource_21 : decode cX12_holdsSource 21 = .ok (.iload_n 1, 1) := by decide +kernel
theorem dX12_holdsSource_22 : decode cX12_holdsSource 22 = .ok (.iaload, 1) := by decide +kernel
theorem dX12_holdsSource_23 : decode cX12_holdsSource 23 = .ok (.if_icmp .ge 82, 3) := by decide +kernel
theorem dX12_holdsSource_26 : decode cX12_holdsSource 26 = .ok (.aload_n 0, 1) := by decide +kernel
theorem dX12_holdsSource_27 : decode cX12_holdsSource 27 = .ok (.getfield 49, 3) := by decide +kernel
theorem dX12_holdsSource_30 : decode cX12_holdsSource 30 = .ok (.bipush 9, 2) := by decide +kernel
theorem dX12_holdsSource_32 : decode cX12_holdsSource 32 = .ok (.iload_n 1, 1) := by decide +kernel
theorem dX12_holdsSource_33 : decode cX12_holdsSource 33 = .ok (.imul, 1) := by decide +kernel
theorem dX12_holdsSource_34 : decode cX12_holdsSource 34 = .ok (.iload_n 3, 1) := by decide +kernel
theorem dX12_holdsSource_35 : decode cX12_holdsSource 35 = .ok (.iadd, 1) := by decide +kernel
theorem dX12_holdsSource_36 : decode cX12_holdsSource 36 = .ok (.iload_n 2, 1) := by decide +kernel
theorem dX12_holdsSource_37 : decode cX12_holdsSource 37 = .ok (.iastore, 1) := by decide +kernel
theorem dX12_holdsSource_38 : decode cX12_holdsSource 38 = .ok (.iload_n 3, 1) := by decide +kernel
theorem dX12_holdsSource_39 : decode cX12_holdsSource 39 = .ok (.istore 4, 2) := by decide +kernel
theorem dX12_holdsSource_41 : decode cX12_holdsSource 41 = .ok (.iload 4, 2) := by decide +kernel
theorem dX12_holdsSource_43 : decode cX12_holdsSource 43 = .ok (.aload_n 0, 1) := by decide +kernel
theorem dX12_holdsSource_44 : decode cX12_holdsSource 44 = .ok (.getfield 37, 3) := by decide +kernel
theorem dX12_holdsSource_47 : decode cX12_holdsSource 47 = .ok (.iload_n 1, 1) := by decide +kernel
theorem dX12_holdsSource_48 : decode cX12_holdsSource 48 = .ok (.iaload, 1) := by decide +kernel
theorem dX12_holdsSource_49 : decode cX12_holdsSource 49 = .ok (.if_icmp .ge 50, 3) := by decide +kernel
theorem dX12_holdsSource_52 : decode cX12_holdsSource 52 = .ok (.aload_n 0, 1) := by decide +kernel
theorem dX12_holdsSource_53 : decode cX12_holdsSource 53 = .ok (.iload_n 1, 1) := by decide +kernel
theorem dX12_holdsSource_54 : decode cX12_holdsSource 54 = .ok (.iload_n 2, 1) := by decide +kernel
theorem dX12_holdsSource_55 : decode cX12_holdsSource 55 = .ok (.aload_n 0, 1) := by decide +kernel
theorem dX12_holdsSource_56 : decode cX12_holdsSource 56 = .ok (.getfield 40, 3) := by decide +kernel
theorem dX12_holdsSource_59 : decode cX12_holdsSource 59 = .ok (.bipush 12, 2) := by decide +kernel
theorem dX12_holdsSource_61 : decode cX12_holdsSource 61 = .ok (.iload_n 1, 1) := by decide +kernel
theorem dX12_holdsSource_62 : decode cX12_holdsSource 62 = .ok (.imul, 1) := by decide +kernel
theorem dX12_holdsSource_63 : decode cX12_holdsSource 63 = .ok (.iload 4, 2) := by decide +kernel
theorem dX12_holdsSource_65 : decode cX12_holdsSource 65 = .ok (.iadd, 1) := by decide +kernel
theorem dX12_holdsSource_66 : decode cX12_holdsSource 66 = .ok (.iaload, 1) := by decide +kernel
theorem dX12_holdsSource_67 : decode cX12_holdsSource 67 = .ok (.aload_n 0, 1) := by decide +kernel
theorem dX12_holdsSource_68 : decode cX12_holdsSource 68 = .ok (.getfield 43, 3) := by decide +kernel
theorem dX12_holdsSource_71 : decode cX12_holdsSource 71 = .ok (.bipush 12, 2) := by decide +kernel
theorem dX12_holdsSource_73 : decode cX12_holdsSource 73 = .ok (.iload_n 1, 1) := by decide +kernel
theorem dX12_holdsSource_74 : decode cX12_holdsSource 74 = .ok (.imul, 1) := by decide +kernel
theorem dX12_holdsSource_75 : decode cX12_holdsSource 75 = .ok (.iload 4, 2) := by decide +kernel
theorem dX12_holdsSource_77 : decode cX12_holdsSource 77 = .ok (.iadd, 1) := by decide +kernel
theorem dX12_holdsSource_78 : decode cX12_holdsSource 78 = .ok (.iaload, 1) := by decide +kernel
theorem dX12_holdsSource_79 : decode cX12_holdsSource 79 = .ok (.invokevirtual 155, 3) := by decide +kernel
theorem dX12_holdsSource_82 : decode cX12_holdsSource 82 = .ok (.iinc 2 1, 3) := by decide +kernel
theorem dX12_holdsSource_85 : decode cX12_holdsSource 85 = .ok (.iload 4, 2) := by decide +kernel
theorem dX12_holdsSource_87 : decode cX12_holdsSource 87 = .ok (.aload_n 0, 1) := by decide +kernel
theorem dX12_holdsSource_88 : decode cX12_holdsSource 88 = .ok (.getfield 28, 3) := by decide +kernel
theorem dX12_holdsSource_91 : decode cX12_holdsSource 91 = .ok (.iload_n 1, 1) := by decide +kernel
theorem dX12_holdsSource_92 : decode cX12_holdsSource 92 = .ok (.iaload, 1) := by decide +kernel
theorem dX12_holdsSource_93 : decode cX12_holdsSource 93 = .ok (.iadd, 1) := by decide +kernel
theorem dX12_holdsSource_94 : decode cX12_holdsSource 94 = .ok (.istore 4, 2) := by decide +kernel
theorem dX12_holdsSource_96 : decode cX12_holdsSource 96 = .ok (.goto (-55), 3) := by decide +kernel
theorem dX12_holdsSource_99 : decode cX12_holdsSource 99 = .ok (.iinc 3 1, 3) := by decide +kernel
theorem dX12_holdsSource_102 : decode cX12_holdsSource 102 = .ok (.goto (-86), 3) := by decide +kernel
theorem dX12_holdsSource_105 : decode cX12_holdsSource 105 = .ok (.aload_n 0, 1) := by decide +kernel
theorem dX12_holdsSource_106 : decode cX12_holdsSource 106 = .ok (.getfield 49, 3) := by decide +kernel
theorem dX12_holdsSource_109 : decode cX12_holdsSource 109 = .ok (.bipush 9, 2) := by decide +kernel
theorem dX12_holdsSource_111 : decode cX12_holdsSource 111 = .ok (.iload_n 1, 1) := by decide +kernel
theorem dX12_holdsSource_112 : decode cX12_holdsSource 112 = .ok (.imul, 1) := by decide +kernel
theorem dX12_holdsSource_113 : decode cX12_holdsSource 113 = .ok (.aload_n 0, 1) := by decide +kernel
theorem dX12_holdsSource_114 : decode cX12_holdsSource 114 = .ok (.getfield 28, 3) := by decide +kernel
theorem dX12_holdsSource_117 : decode cX12_holdsSource 117 = .ok (.iload_n 1, 1) := by decide +kernel
theorem dX12_holdsSource_118 : decode cX12_holdsSource 118 = .ok (.iaload, 1) := by decide +kernel
theorem dX12_holdsSource_119 : decode cX12_holdsSource 119 = .ok (.iadd, 1) := by decide +kernel
theorem dX12_holdsSource_120 : decode cX12_holdsSource 120 = .ok (.iload_n 2, 1) := by decide +kernel
theorem dX12_holdsSource_121 : decode cX12_holdsSource 121 = .ok (.iastore, 1) := by decide +kernel
theorem dX12_holdsSource_122 : decode cX12_holdsSource 122 = .ok (.return_, 1) := by decide +kernel
theorem dX12_holdsMapped_0 : decode cX12_holdsMapped 0 = .ok (.aload_n 0, 1) := by decide +kernel
theorem dX12_holdsMapped_1 : decode cX12_holdsMapped 1 = .ok (.getfield 13, 3) := by decide +kernel
theorem dX12_holdsMapped_4 : decode cX12_holdsMapped 4 = .ok (.iload_n 1, 1) := by decide +kernel
theorem dX12_holdsMapped_5 : decode cX12_holdsMapped 5 = .ok (.iaload, 1) := by decide +kernel
theorem dX12_holdsMapped_6 : decode cX12_holdsMapped 6 = .ok (.istore_n 2, 1) := by decide +kernel
theorem dX12_holdsMapped_7 : decode cX12_holdsMapped 7 = .ok (.aload_n 0, 1) := by decide +kernel
theorem dX12_holdsMapped_8 : decode cX12_holdsMapped 8 = .ok (.getfield 22, 3) := by decide +kernel
theorem dX12_holdsMapped_11 : decode cX12_holdsMapped 11 = .ok (.iload_n 1, 1) := by decide +kernel
theorem dX12_holdsMapped_12 : decode cX12_holdsMapped 12 = .ok (.iaload, 1) := by decide +kernel
theorem dX12_holdsMapped_13 : decode cX12_holdsMapped 13 = .ok (.istore_n 3, 1) := by decide +kernel
theorem dX12_holdsMapped_14 : decode cX12_holdsMapped 14 = .ok (.aload_n 0, 1) := by decide +kernel
theorem dX12_holdsMapped_15 : decode cX12_holdsMapped 15 = .ok (.getfield 46, 3) := by decide +kernel
theorem dX12_holdsMapped_18 : decode cX12_holdsMapped 18 = .ok (.iload_n 1, 1) := by decide +kernel
theorem dX12_holdsMapped_19 : decode cX12_holdsMapped 19 = .ok (.aload_n 0, 1) := by decide +kernel
theorem dX12_holdsMapped_20 : decode cX12_holdsMapped 20 = .ok (.getfield 46, 3) := by decide +kernel
theorem dX12_holdsMapped_23 : decode cX12_holdsMapped 23 = .ok (.iload_n 2, 1) := by decide +kernel
theorem dX12_holdsMapped_24 : decode cX12_holdsMapped 24 = .ok (.iaload, 1) := by decide +kernel
theorem dX12_holdsMapped_25 : decode cX12_holdsMapped 25 = .ok (.iastore, 1) := by decide +kernel
theorem dX12_holdsMapped_26 : decode cX12_holdsMapped 26 = .ok (.iconst 0, 1) := by decide +kernel
theorem dX12_holdsMapped_27 : decode cX12_holdsMapped 27 = .ok (.istore 4, 2) := by decide +kernel
theorem dX12_holdsMapped_29 : decode cX12_holdsMapped 29 = .ok (.iconst 0, 1) := by decide +kernel
theorem dX12_holdsMapped_30 : decode cX12_holdsMapped 30 = .ok (.istore 5, 2) := by decide +kernel
theorem dX12_holdsMapped_32 : decode cX12_holdsMapped 32 = .ok (.iload 5, 2) := by decide +kernel
theorem dX12_holdsMapped_34 : decode cX12_holdsMapped 34 = .ok (.aload_n 0, 1) := by decide +kernel
theorem dX12_holdsMapped_35 : decode cX12_holdsMapped 35 = .ok (.getfield 46, 3) := by decide +kernel
theorem dX12_holdsMapped_38 : decode cX12_holdsMapped 38 = .ok (.iload_n 1, 1) := by decide +kernel
theorem dX12_holdsMapped_39 : decode cX12_holdsMapped 39 = .ok (.iaload, 1) := by decide +kernel
theorem dX12_holdsMapped_40 : decode cX12_holdsMapped 40 = .ok (.if_icmp .ge 230, 3) := by decide +kernel
theorem dX12_holdsMapped_43 : decode cX12_holdsMapped 43 = .ok (.aload_n 0, 1) := by decide +kernel
theorem dX12_holdsMapped_44 : decode cX12_holdsMapped 44 = .ok (.getfield 49, 3) := by decide +kernel
theorem dX12_holdsMapped_47 : decode cX12_holdsMapped 47 = .ok (.bipush 9, 2) := by decide +kernel
theorem dX12_holdsMapped_49 : decode cX12_holdsMapped 49 = .ok (.iload_n 1, 1) := by decide +kernel
theorem dX12_holdsMapped_50 : decode cX12_holdsMapped 50 = .ok (.imul, 1) := by decide +kernel
theorem dX12_holdsMapped_51 : decode cX12_holdsMapped 51 = .ok (.iload 5, 2) := by decide +kernel
theorem dX12_holdsMapped_53 : decode cX12_holdsMapped 53 = .ok (.iadd, 1) := by decide +kernel
theorem dX12_holdsMapped_54 : decode cX12_holdsMapped 54 = .ok (.iload 4, 2) := by decide +kernel
theorem dX12_holdsMapped_56 : decode cX12_holdsMapped 56 = .ok (.iastore, 1) := by decide +kernel
theorem dX12_holdsMapped_57 : decode cX12_holdsMapped 57 = .ok (.sipush 300, 3) := by decide +kernel
theorem dX12_holdsMapped_60 : decode cX12_holdsMapped 60 = .ok (.iload_n 2, 1) := by decide +kernel
theorem dX12_holdsMapped_61 : decode cX12_holdsMapped 61 = .ok (.imul, 1) := by decide +kernel
theorem dX12_holdsMapped_62 : decode cX12_holdsMapped 62 = .ok (.aload_n 0, 1) := by decide +kernel
theorem dX12_holdsMapped_63 : decode cX12_holdsMapped 63 = .ok (.iload_n 2, 1) := by decide +kernel
theorem dX12_holdsMapped_64 : decode cX12_holdsMapped 64 = .ok (.iload 5, 2) := by decide +kernel
theorem dX12_holdsMapped_66 : decode cX12_holdsMapped 66 = .ok (.invokevirtual 148, 3) := by decide +kernel
theorem dX12_holdsMapped_69 : decode cX12_holdsMapped 69 = .ok (.iadd, 1) := by decide +kernel
theorem dX12_holdsMapped_70 : decode cX12_holdsMapped 70 = .ok (.istore 6, 2) := by decide +kernel
theorem dX12_holdsMapped_72 : decode cX12_holdsMapped 72 = .ok (.iload 6, 2) := by decide +kernel
theorem dX12_holdsMapped_74 : decode cX12_holdsMapped 74 = .ok (.sipush 300, 3) := by decide +kernel
theorem dX12_holdsMapped_77 : decode cX12_holdsMapped 77 = .ok (.iload_n 2, 1) := by decide +kernel
theorem dX12_holdsMapped_78 : decode cX12_holdsMapped 78 = .ok (.imul, 1) := by decide +kernel
theorem dX12_holdsMapped_79 : decode cX12_holdsMapped 79 = .ok (.aload_n 0, 1) := by decide +kernel
theorem dX12_holdsMapped_80 : decode cX12_holdsMapped 80 = .ok (.iload_n 2, 1) := by decide +kernel
theorem dX12_holdsMapped_81 : decode cX12_holdsMapped 81 = .ok (.iload 5, 2) := by decide +kernel
theorem dX12_holdsMapped_83 : decode cX12_holdsMapped 83 = .ok (.iconst 1, 1) := by decide +kernel
theorem dX12_holdsMapped_84 : decode cX12_holdsMapped 84 = .ok (.iadd, 1) := by decide +kernel
theorem dX12_holdsMapped_85 : decode cX12_holdsMapped 85 = .ok (.invokevirtual 148, 3) := by decide +kernel
theorem dX12_holdsMapped_88 : decode cX12_holdsMapped 88 = .ok (.iadd, 1) := by decide +kernel
theorem dX12_holdsMapped_89 : decode cX12_holdsMapped 89 = .ok (.if_icmp .ge 175, 3) := by decide +kernel
theorem dX12_holdsMapped_92 : decode cX12_holdsMapped 92 = .ok (.aload_n 0, 1) := by decide +kernel
theorem dX12_holdsMapped_93 : decode cX12_holdsMapped 93 = .ok (.getfield 52, 3) := by decide +kernel
theorem dX12_holdsMapped_96 : decode cX12_holdsMapped 96 = .ok (.iload 6, 2) := by decide +kernel
theorem dX12_holdsMapped_98 : decode cX12_holdsMapped 98 = .ok (.iaload, 1) := by decide +kernel
theorem dX12_holdsMapped_99 : decode cX12_holdsMapped 99 = .ok (.istore 7, 2) := by decide +kernel
theorem dX12_holdsMapped_101 : decode cX12_holdsMapped 101 = .ok (.aload_n 0, 1) := by decide +kernel
theorem dX12_holdsMapped_102 : decode cX12_holdsMapped 102 = .ok (.getfield 55, 3) := by decide +kernel
theorem dX12_holdsMapped_105 : decode cX12_holdsMapped 105 = .ok (.iload 6, 2) := by decide +kernel
theorem dX12_holdsMapped_107 : decode cX12_holdsMapped 107 = .ok (.iaload, 1) := by decide +kernel
theorem dX12_holdsMapped_108 : decode cX12_holdsMapped 108 = .ok (.istore 8, 2) := by decide +kernel
theorem dX12_holdsMapped_110 : decode cX12_holdsMapped 110 = .ok (.aload_n 0, 1) := by decide +kernel
theorem dX12_holdsMapped_111 : decode cX12_holdsMapped 111 = .ok (.getfield 7, 3) := by decide +kernel
theorem dX12_holdsMapped_114 : decode cX12_holdsMapped 114 = .ok (.iload_n 1, 1) := by decide +kernel
theorem dX12_holdsMapped_115 : decode cX12_holdsMapped 115 = .ok (.iaload, 1) := by decide +kernel
theorem dX12_holdsMapped_116 : decode cX12_holdsMapped 116 = .ok (.iconst 2, 1) := by decide +kernel
theorem dX12_holdsMapped_117 : decode cX12_holdsMapped 117 = .ok (.if_icmp .ne 44, 3) := by decide +kernel
theorem dX12_holdsMapped_120 : decode cX12_holdsMapped 120 = .ok (.aload_n 0, 1) := by decide +kernel
theorem dX12_holdsMapped_121 : decode cX12_holdsMapped 121 = .ok (.iload_n 1, 1) := by decide +kernel
theorem dX12_holdsMapped_122 : decode cX12_holdsMapped 122 = .ok (.iload 4, 2) := by decide +kernel
theorem dX12_holdsMapped_124 : decode cX12_holdsMapped 124 = .ok (.iload 7, 2) := by decide +kernel
theorem dX12_holdsMapped_126 : decode cX12_holdsMapped 126 = .ok (.iload 8, 2) := by decide +kernel
theorem dX12_holdsMapped_128 : decode cX12_holdsMapped 128 = .ok (.invokevirtual 155, 3) := by decide +kernel
theorem dX12_holdsMapped_131 : decode cX12_holdsMapped 131 = .ok (.iload 4, 2) := by decide +kernel
theorem dX12_holdsMapped_133 : decode cX12_holdsMapped 133 = .ok (.iload 8, 2) := by decide +kernel
theorem dX12_holdsMapped_135 : decode cX12_holdsMapped 135 = .ok (.iload_n 3, 1) := by decide +kernel
theorem dX12_holdsMapped_136 : decode cX12_holdsMapped 136 = .ok (.if_icmp .lt 18, 3) := by decide +kernel
theorem dX12_holdsMapped_139 : decode cX12_holdsMapped 139 = .ok (.iload 8, 2) := by decide +kernel
theorem dX12_holdsMapped_141 : decode cX12_holdsMapped 141 = .ok (.aload_n 0, 1) := by decide +kernel
theorem dX12_holdsMapped_142 : decode cX12_holdsMapped 142 = .ok (.getfield 25, 3) := by decide +kernel
theorem dX12_holdsMapped_145 : decode cX12_holdsMapped 145 = .ok (.iload_n 1, 1) := by decide +kernel
theorem dX12_holdsMapped_146 : decode cX12_holdsMapped 146 = .ok (.iaload, 1) := by decide +kernel
theorem dX12_holdsMapped_147 : decode cX12_holdsMapped 147 = .ok (.if_icmp .gt 7, 3) := by decide +kernel
theorem dX12_holdsMapped_150 : decode cX12_holdsMapped 150 = .ok (.iconst 1, 1) := by decide +kernel
theorem dX12_holdsMapped_151 : decode cX12_holdsMapped 151 = .ok (.goto 4, 3) := by decide +kernel
theorem dX12_holdsMapped_154 : decode cX12_holdsMapped 154 = .ok (.iconst 0, 1) := by decide +kernel
theorem dX12_holdsMapped_155 : decode cX12_holdsMapped 155 = .ok (.iadd, 1) := by decide +kernel
theorem dX12_holdsMapped_156 : decode cX12_holdsMapped 156 = .ok (.istore 4, 2) := by decide +kernel
theorem dX12_holdsMapped_158 : decode cX12_holdsMapped 158 = .ok (.goto 100, 3) := by decide +kernel
theorem dX12_holdsMapped_161 : decode cX12_holdsMapped 161 = .ok (.aload_n 0, 1) := by decide +kernel
theorem dX12_holdsMapped_162 : decode cX12_holdsMapped 162 = .ok (.getfield 19, 3) := by decide +kernel
theorem dX12_holdsMapped_165 : decode cX12_holdsMapped 165 = .ok (.iload_n 1, 1) := by decide +kernel
theorem dX12_holdsMapped_166 : decode cX12_holdsMapped 166 = .ok (.iaload, 1) := by decide +kernel
theorem dX12_holdsMapped_167 : decode cX12_holdsMapped 167 = .ok (.istore 9, 2) := by decide +kernel
theorem dX12_holdsMapped_169 : decode cX12_holdsMapped 169 = .ok (.aload_n 0, 1) := by decide +kernel
theorem dX12_holdsMapped_170 : decode cX12_holdsMapped 170 = .ok (.iload_n 1, 1) := by decide +kernel
theorem dX12_holdsMapped_171 : decode cX12_holdsMapped 171 = .ok (.iload 4, 2) := by decide +kernel
theorem dX12_holdsMapped_173 : decode cX12_holdsMapped 173 = .ok (.iload 9, 2) := by decide +kernel
theorem dX12_holdsMapped_175 : decode cX12_holdsMapped 175 = .ok (.iconst 2, 1) := by decide +kernel
theorem dX12_holdsMapped_176 : decode cX12_holdsMapped 176 = .ok (.if_icmp .ne 10, 3) := by decide +kernel
theorem dX12_holdsMapped_179 : decode cX12_holdsMapped 179 = .ok (.iload 7, 2) := by decide +kernel
theorem dX12_holdsMapped_181 : decode cX12_holdsMapped 181 = .ok (.iload_n 3, 1) := by decide +kernel
theorem dX12_holdsMapped_182 : decode cX12_holdsMapped 182 = .ok (.iadd, 1) := by decide +kernel
theorem dX12_holdsMapped_183 : decode cX12_holdsMapped 183 = .ok (.goto 31, 3) := by decide +kernel
theorem dX12_holdsMapped_186 : decode cX12_holdsMapped 186 = .ok (.iload 9, 2) := by decide +kernel
theorem dX12_holdsMapped_188 : decode cX12_holdsMapped 188 = .ok (.iconst 3, 1) := by decide +kernel
theorem dX12_holdsMapped_189 : decode cX12_holdsMapped 189 = .ok (.if_icmp .ne 12, 3) := by decide +kernel
theorem dX12_holdsMapped_192 : decode cX12_holdsMapped 192 = .ok (.iload 7, 2) := by decide +kernel
theorem dX12_holdsMapped_194 : decode cX12_holdsMapped 194 = .ok (.iload_n 3, 1) := by decide +kernel
theorem dX12_holdsMapped_195 : decode cX12_holdsMapped 195 = .ok (.invokestatic 159, 3) := by decide +kernel
theorem dX12_holdsMapped_198 : decode cX12_holdsMapped 198 = .ok (.goto 16, 3) := by decide +kernel
theorem dX12_holdsMapped_201 : decode cX12_holdsMapped 201 = .ok (.iload 9, 2) := by decide +kernel
theorem dX12_holdsMapped_203 : decode cX12_holdsMapped 203 = .ok (.iconst 4, 1) := by decide +kernel
theorem dX12_holdsMapped_204 : decode cX12_holdsMapped 204 = .ok (.if_icmp .ne 8, 3) := by decide +kernel
theorem dX12_holdsMapped_207 : decode cX12_holdsMapped 207 = .ok (.iload 8, 2) := by decide +kernel
theorem dX12_holdsMapped_209 : decode cX12_holdsMapped 209 = .ok (.goto 5, 3) := by decide +kernel
theorem dX12_holdsMapped_212 : decode cX12_holdsMapped 212 = .ok (.iload 7, 2) := by decide +kernel
theorem dX12_holdsMapped_214 : decode cX12_holdsMapped 214 = .ok (.iload 9, 2) := by decide +kernel
theorem dX12_holdsMapped_216 : decode cX12_holdsMapped 216 = .ok (.ifCond .ne 10, 3) := by decide +kernel
theorem dX12_holdsMapped_219 : decode cX12_holdsMapped 219 = .ok (.iload 8, 2) := by decide +kernel
theorem dX12_holdsMapped_221 : decode cX12_holdsMapped 221 = .ok (.iload_n 3, 1) := by decide +kernel
theorem dX12_holdsMapped_222 : decode cX12_holdsMapped 222 = .ok (.iadd, 1) := by decide +kernel
theorem dX12_holdsMapped_223 : decode cX12_holdsMapped 223 = .ok (.goto 29, 3) := by decide +kernel
theorem dX12_holdsMapped_226 : decode cX12_holdsMapped 226 = .ok (.iload 9, 2) := by decide +kernel
theorem dX12_holdsMapped_228 : decode cX12_holdsMapped 228 = .ok (.iconst 1, 1) := by decide +kernel
theorem dX12_holdsMapped_229 : decode cX12_holdsMapped 229 = .ok (.if_icmp .ne 10, 3) := by decide +kernel
theorem dX12_holdsMapped_232 : decode cX12_holdsMapped 232 = .ok (.iload 8, 2) := by decide +kernel
theorem dX12_holdsMapped_234 : decode cX12_holdsMapped 234 = .ok (.iload_n 3, 1) := by decide +kernel
theorem dX12_holdsMapped_235 : decode cX12_holdsMapped 235 = .ok (.imul, 1) := by decide +kernel
theorem dX12_holdsMapped_236 : decode cX12_holdsMapped 236 = .ok (.goto 16, 3) := by decide +kernel
theorem dX12_holdsMapped_239 : decode cX12_holdsMapped 239 = .ok (.iload 9, 2) := by decide +kernel
theorem dX12_holdsMapped_241 : decode cX12_holdsMapped 241 = .ok (.iconst 4, 1) := by decide +kernel
theorem dX12_holdsMapped_242 : decode cX12_holdsMapped 242 = .ok (.if_icmp .ne 8, 3) := by decide +kernel
theorem dX12_holdsMapped_245 : decode cX12_holdsMapped 245 = .ok (.iload 7, 2) := by decide +kernel
theorem dX12_holdsMapped_247 : decode cX12_holdsMapped 247 = .ok (.goto 5, 3) := by decide +kernel
theorem dX12_holdsMapped_250 : decode cX12_holdsMapped 250 = .ok (.iload 8, 2) := by decide +kernel
theorem dX12_holdsMapped_252 : decode cX12_holdsMapped 252 = .ok (.invokevirtual 155, 3) := by decide +kernel
theorem dX12_holdsMapped_255 : decode cX12_holdsMapped 255 = .ok (.iinc 4 1, 3) := by decide +kernel
theorem dX12_holdsMapped_258 : decode cX12_holdsMapped 258 = .ok (.iinc 6 1, 3) := by decide +kernel
theorem dX12_holdsMapped_261 : decode cX12_holdsMapped 261 = .ok (.goto (-189), 3) := by decide +kernel
theorem dX12_holdsMapped_264 : decode cX12_holdsMapped 264 = .ok (.iinc 5 1, 3) := by decide +kernel
theorem dX12_holdsMapped_267 : decode cX12_holdsMapped 267 = .ok (.goto (-235), 3) := by decide +kernel
theorem dX12_holdsMapped_270 : decode cX12_holdsMapped 270 = .ok (.aload_n 0, 1) := by decide +kernel
theorem dX12_holdsMapped_271 : decode cX12_holdsMapped 271 = .ok (.getfield 49, 3) := by decide +kernel
theorem dX12_holdsMapped_274 : decode cX12_holdsMapped 274 = .ok (.bipush 9, 2) := by decide +kernel
theorem dX12_holdsMapped_276 : decode cX12_holdsMapped 276 = .ok (.iload_n 1, 1) := by decide +kernel
theorem dX12_holdsMapped_277 : decode cX12_holdsMapped 277 = .ok (.imul, 1) := by decide +kernel
theorem dX12_holdsMapped_278 : decode cX12_holdsMapped 278 = .ok (.aload_n 0, 1) := by decide +kernel
theorem dX12_holdsMapped_279 : decode cX12_holdsMapped 279 = .ok (.getfield 46, 3) := by decide +kernel
theorem dX12_holdsMapped_282 : decode cX12_holdsMapped 282 = .ok (.iload_n 1, 1) := by decide +kernel
theorem dX12_holdsMapped_283 : decode cX12_holdsMapped 283 = .ok (.iaload, 1) := by decide +kernel
theorem dX12_holdsMapped_284 : decode cX12_holdsMapped 284 = .ok (.iadd, 1) := by decide +kernel
theorem dX12_holdsMapped_285 : decode cX12_holdsMapped 285 = .ok (.iload 4, 2) := by decide +kernel
theorem dX12_holdsMapped_287 : decode cX12_holdsMapped 287 = .ok (.iastore, 1) := by decide +kernel
theorem dX12_holdsMapped_288 : decode cX12_holdsMapped 288 = .ok (.return_, 1) := by decide +kernel
theorem dX12_holdsUnion_0 : decode cX12_holdsUnion 0 = .ok (.iconst 0, 1) := by decide +kernel
theorem dX12_holdsUnion_1 : decode cX12_holdsUnion 1 = .ok (.istore_n 2, 1) := by decide +kernel
theorem dX12_holdsUnion_2 : decode cX12_holdsUnion 2 = .ok (.aload_n 0, 1) := by decide +kernel
theorem dX12_holdsUnion_3 : decode cX12_holdsUnion 3 = .ok (.getfield 46, 3) := by decide +kernel
theorem dX12_holdsUnion_6 : decode cX12_holdsUnion 6 = .ok (.iload_n 1, 1) := by decide +kernel
theorem dX12_holdsUnion_7 : decode cX12_holdsUnion 7 = .ok (.iconst 0, 1) := by decide +kernel
theorem dX12_holdsUnion_8 : decode cX12_holdsUnion 8 = .ok (.iastore, 1) := by decide +kernel
theorem dX12_holdsUnion_9 : decode cX12_holdsUnion 9 = .ok (.iconst 0, 1) := by decide +kernel
theorem dX12_holdsUnion_10 : decode cX12_holdsUnion 10 = .ok (.istore_n 3, 1) := by decide +kernel
theorem dX12_holdsUnion_11 : decode cX12_holdsUnion 11 = .ok (.iload_n 3, 1) := by decide +kernel
theorem dX12_holdsUnion_12 : decode cX12_holdsUnion 12 = .ok (.iconst 2, 1) := by decide +kernel
theorem dX12_holdsUnion_13 : decode cX12_holdsUnion 13 = .ok (.if_icmp .ge 153, 3) := by decide +kernel
theorem dX12_holdsUnion_16 : decode cX12_holdsUnion 16 = .ok (.iload_n 3, 1) := by decide +kernel
theorem dX12_holdsUnion_17 : decode cX12_holdsUnion 17 = .ok (.ifCond .ne 12, 3) := by decide +kernel
theorem dX12_holdsUnion_20 : decode cX12_holdsUnion 20 = .ok (.aload_n 0, 1) := by decide +kernel
theorem dX12_holdsUnion_21 : decode cX12_holdsUnion 21 = .ok (.getfield 13, 3) := by decide +kernel
theorem dX12_holdsUnion_24 : decode cX12_holdsUnion 24 = .ok (.iload_n 1, 1) := by decide +kernel
theorem dX12_holdsUnion_25 : decode cX12_holdsUnion 25 = .ok (.iaload, 1) := by decide +kernel
theorem dX12_holdsUnion_26 : decode cX12_holdsUnion 26 = .ok (.goto 9, 3) := by decide +kernel
theorem dX12_holdsUnion_29 : decode cX12_holdsUnion 29 = .ok (.aload_n 0, 1) := by decide +kernel
theorem dX12_holdsUnion_30 : decode cX12_holdsUnion 30 = .ok (.getfield 16, 3) := by decide +kernel
theorem dX12_holdsUnion_33 : decode cX12_holdsUnion 33 = .ok (.iload_n 1, 1) := by decide +kernel
theorem dX12_holdsUnion_34 : decode cX12_holdsUnion 34 = .ok (.iaload, 1) := by decide +kernel
theorem dX12_holdsUnion_35 : decode cX12_holdsUnion 35 = .ok (.istore 4, 2) := by decide +kernel
theorem dX12_holdsUnion_37 : decode cX12_holdsUnion 37 = .ok (.iconst 0, 1) := by decide +kernel
theorem dX12_holdsUnion_38 : decode cX12_holdsUnion 38 = .ok (.istore 5, 2) := by decide +kernel
theorem dX12_holdsUnion_40 : decode cX12_holdsUnion 40 = .ok (.iload 5, 2) := by decide +kernel
theorem dX12_holdsUnion_42 : decode cX12_holdsUnion 42 = .ok (.aload_n 0, 1) := by decide +kernel
theorem dX12_holdsUnion_43 : decode cX12_holdsUnion 43 = .ok (.getfield 46, 3) := by decide +kernel
theorem dX12_holdsUnion_46 : decode cX12_holdsUnion 46 = .ok (.iload 4, 2) := by decide +kernel
theorem dX12_holdsUnion_48 : decode cX12_holdsUnion 48 = .ok (.iaload, 1) := by decide +kernel
theorem dX12_holdsUnion_49 : decode cX12_holdsUnion 49 = .ok (.if_icmp .ge 45, 3) := by decide +kernel
theorem dX12_holdsUnion_52 : decode cX12_holdsUnion 52 = .ok (.aload_n 0, 1) := by decide +kernel
theorem dX12_holdsUnion_53 : decode cX12_holdsUnion 53 = .ok (.getfield 49, 3) := by decide +kernel
theorem dX12_holdsUnion_56 : decode cX12_holdsUnion 56 = .ok (.bipush 9, 2) := by decide +kernel
theorem dX12_holdsUnion_58 : decode cX12_holdsUnion 58 = .ok (.iload_n 1, 1) := by decide +kernel
theorem dX12_holdsUnion_59 : decode cX12_holdsUnion 59 = .ok (.imul, 1) := by decide +kernel
theorem dX12_holdsUnion_60 : decode cX12_holdsUnion 60 = .ok (.aload_n 0, 1) := by decide +kernel
theorem dX12_holdsUnion_61 : decode cX12_holdsUnion 61 = .ok (.getfield 46, 3) := by decide +kernel
theorem dX12_holdsUnion_64 : decode cX12_holdsUnion 64 = .ok (.iload_n 1, 1) := by decide +kernel
theorem dX12_holdsUnion_65 : decode cX12_holdsUnion 65 = .ok (.iaload, 1) := by decide +kernel
theorem dX12_holdsUnion_66 : decode cX12_holdsUnion 66 = .ok (.iadd, 1) := by decide +kernel
theorem dX12_holdsUnion_67 : decode cX12_holdsUnion 67 = .ok (.iload_n 2, 1) := by decide +kernel
theorem dX12_holdsUnion_68 : decode cX12_holdsUnion 68 = .ok (.aload_n 0, 1) := by decide +kernel
theorem dX12_holdsUnion_69 : decode cX12_holdsUnion 69 = .ok (.iload 4, 2) := by decide +kernel
theorem dX12_holdsUnion_71 : decode cX12_holdsUnion 71 = .ok (.iload 5, 2) := by decide +kernel
theorem dX12_holdsUnion_73 : decode cX12_holdsUnion 73 = .ok (.invokevirtual 148, 3) := by decide +kernel
theorem dX12_holdsUnion_76 : decode cX12_holdsUnion 76 = .ok (.iadd, 1) := by decide +kernel
theorem dX12_holdsUnion_77 : decode cX12_holdsUnion 77 = .ok (.iastore, 1) := by decide +kernel
theorem dX12_holdsUnion_78 : decode cX12_holdsUnion 78 = .ok (.aload_n 0, 1) := by decide +kernel
theorem dX12_holdsUnion_79 : decode cX12_holdsUnion 79 = .ok (.getfield 46, 3) := by decide +kernel
theorem dX12_holdsUnion_82 : decode cX12_holdsUnion 82 = .ok (.iload_n 1, 1) := by decide +kernel
theorem dX12_holdsUnion_83 : decode cX12_holdsUnion 83 = .ok (.dup2, 1) := by decide +kernel
theorem dX12_holdsUnion_84 : decode cX12_holdsUnion 84 = .ok (.iaload, 1) := by decide +kernel
theorem dX12_holdsUnion_85 : decode cX12_holdsUnion 85 = .ok (.iconst 1, 1) := by decide +kernel
theorem dX12_holdsUnion_86 : decode cX12_holdsUnion 86 = .ok (.iadd, 1) := by decide +kernel
theorem dX12_holdsUnion_87 : decode cX12_holdsUnion 87 = .ok (.iastore, 1) := by decide +kernel
theorem dX12_holdsUnion_88 : decode cX12_holdsUnion 88 = .ok (.iinc 5 1, 3) := by decide +kernel
theorem dX12_holdsUnion_91 : decode cX12_holdsUnion 91 = .ok (.goto (-51), 3) := by decide +kernel
theorem dX12_holdsUnion_94 : decode cX12_holdsUnion 94 = .ok (.iconst 0, 1) := by decide +kernel
theorem dX12_holdsUnion_95 : decode cX12_holdsUnion 95 = .ok (.istore 5, 2) := by decide +kernel
theorem dX12_holdsUnion_97 : decode cX12_holdsUnion 97 = .ok (.iload 5, 2) := by decide +kernel
theorem dX12_holdsUnion_99 : decode cX12_holdsUnion 99 = .ok (.aload_n 0, 1) := by decide +kernel
theorem dX12_holdsUnion_100 : decode cX12_holdsUnion 100 = .ok (.iload 4, 2) := by decide +kernel
theorem dX12_holdsUnion_102 : decode cX12_holdsUnion 102 = .ok (.invokevirtual 152, 3) := by decide +kernel
theorem dX12_holdsUnion_105 : decode cX12_holdsUnion 105 = .ok (.if_icmp .ge 46, 3) := by decide +kernel
theorem dX12_holdsUnion_108 : decode cX12_holdsUnion 108 = .ok (.aload_n 0, 1) := by decide +kernel
theorem dX12_holdsUnion_109 : decode cX12_holdsUnion 109 = .ok (.iload_n 1, 1) := by decide +kernel
theorem dX12_holdsUnion_110 : decode cX12_holdsUnion 110 = .ok (.iload_n 2, 1) := by decide +kernel
theorem dX12_holdsUnion_111 : decode cX12_holdsUnion 111 = .ok (.iload 5, 2) := by decide +kernel
theorem dX12_holdsUnion_113 : decode cX12_holdsUnion 113 = .ok (.iadd, 1) := by decide +kernel
theorem dX12_holdsUnion_114 : decode cX12_holdsUnion 114 = .ok (.aload_n 0, 1) := by decide +kernel
theorem dX12_holdsUnion_115 : decode cX12_holdsUnion 115 = .ok (.getfield 52, 3) := by decide +kernel
theorem dX12_holdsUnion_118 : decode cX12_holdsUnion 118 = .ok (.sipush 300, 3) := by decide +kernel
theorem dX12_holdsUnion_121 : decode cX12_holdsUnion 121 = .ok (.iload 4, 2) := by decide +kernel
theorem dX12_holdsUnion_123 : decode cX12_holdsUnion 123 = .ok (.imul, 1) := by decide +kernel
theorem dX12_holdsUnion_124 : decode cX12_holdsUnion 124 = .ok (.iload 5, 2) := by decide +kernel
theorem dX12_holdsUnion_126 : decode cX12_holdsUnion 126 = .ok (.iadd, 1) := by decide +kernel
theorem dX12_holdsUnion_127 : decode cX12_holdsUnion 127 = .ok (.iaload, 1) := by decide +kernel
theorem dX12_holdsUnion_128 : decode cX12_holdsUnion 128 = .ok (.aload_n 0, 1) := by decide +kernel
theorem dX12_holdsUnion_129 : decode cX12_holdsUnion 129 = .ok (.getfield 55, 3) := by decide +kernel
theorem dX12_holdsUnion_132 : decode cX12_holdsUnion 132 = .ok (.sipush 300, 3) := by decide +kernel
theorem dX12_holdsUnion_135 : decode cX12_holdsUnion 135 = .ok (.iload 4, 2) := by decide +kernel
theorem dX12_holdsUnion_137 : decode cX12_holdsUnion 137 = .ok (.imul, 1) := by decide +kernel
theorem dX12_holdsUnion_138 : decode cX12_holdsUnion 138 = .ok (.iload 5, 2) := by decide +kernel
theorem dX12_holdsUnion_140 : decode cX12_holdsUnion 140 = .ok (.iadd, 1) := by decide +kernel
theorem dX12_holdsUnion_141 : decode cX12_holdsUnion 141 = .ok (.iaload, 1) := by decide +kernel
theorem dX12_holdsUnion_142 : decode cX12_holdsUnion 142 = .ok (.invokevirtual 155, 3) := by decide +kernel
theorem dX12_holdsUnion_145 : decode cX12_holdsUnion 145 = .ok (.iinc 5 1, 3) := by decide +kernel
theorem dX12_holdsUnion_148 : decode cX12_holdsUnion 148 = .ok (.goto (-51), 3) := by decide +kernel
theorem dX12_holdsUnion_151 : decode cX12_holdsUnion 151 = .ok (.iload_n 2, 1) := by decide +kernel
theorem dX12_holdsUnion_152 : decode cX12_holdsUnion 152 = .ok (.aload_n 0, 1) := by decide +kernel
theorem dX12_holdsUnion_153 : decode cX12_holdsUnion 153 = .ok (.iload 4, 2) := by decide +kernel
theorem dX12_holdsUnion_155 : decode cX12_holdsUnion 155 = .ok (.invokevirtual 152, 3) := by decide +kernel
theorem dX12_holdsUnion_158 : decode cX12_holdsUnion 158 = .ok (.iadd, 1) := by decide +kernel
theorem dX12_holdsUnion_159 : decode cX12_holdsUnion 159 = .ok (.istore_n 2, 1) := by decide +kernel
theorem dX12_holdsUnion_160 : decode cX12_holdsUnion 160 = .ok (.iinc 3 1, 3) := by decide +kernel
theorem dX12_holdsUnion_163 : decode cX12_holdsUnion 163 = .ok (.goto (-152), 3) := by decide +kernel
theorem dX12_holdsUnion_166 : decode cX12_holdsUnion 166 = .ok (.aload_n 0, 1) := by decide +kernel
theorem dX12_holdsUnion_167 : decode cX12_holdsUnion 167 = .ok (.getfield 49, 3) := by decide +kernel
theorem dX12_holdsUnion_170 : decode cX12_holdsUnion 170 = .ok (.bipush 9, 2) := by decide +kernel
theorem dX12_holdsUnion_172 : decode cX12_holdsUnion 172 = .ok (.iload_n 1, 1) := by decide +kernel
theorem dX12_holdsUnion_173 : decode cX12_holdsUnion 173 = .ok (.imul, 1) := by decide +kernel
theorem dX12_holdsUnion_174 : decode cX12_holdsUnion 174 = .ok (.aload_n 0, 1) := by decide +kernel
theorem dX12_holdsUnion_175 : decode cX12_holdsUnion 175 = .ok (.getfield 46, 3) := by decide +kernel
theorem dX12_holdsUnion_178 : decode cX12_holdsUnion 178 = .ok (.iload_n 1, 1) := by decide +kernel
theorem dX12_holdsUnion_179 : decode cX12_holdsUnion 179 = .ok (.iaload, 1) := by decide +kernel
theorem dX12_holdsUnion_180 : decode cX12_holdsUnion 180 = .ok (.iadd, 1) := by decide +kernel
theorem dX12_holdsUnion_181 : decode cX12_holdsUnion 181 = .ok (.iload_n 2, 1) := by decide +kernel
theorem dX12_holdsUnion_182 : decode cX12_holdsUnion 182 = .ok (.iastore, 1) := by decide +kernel
theorem dX12_holdsUnion_183 : decode cX12_holdsUnion 183 = .ok (.return_, 1) := by decide +kernel
theorem dX12_next_0 : decode cX12_next 0 = .ok (.ldc2_w 162, 3) := by decide +kernel
theorem dX12_next_3 : decode cX12_next 3 = .ok (.lstore 6, 2) := by decide +kernel
theorem dX12_next_5 : decode cX12_next 5 = .ok (.sipush 300, 3) := by decide +kernel
theorem dX12_next_8 : decode cX12_next 8 = .ok (.iload_n 1, 1) := by decide +kernel
theorem dX12_next_9 : decode cX12_next 9 = .ok (.imul, 1) := by decide +kernel
theorem dX12_next_10 : decode cX12_next 10 = .ok (.istore 8, 2) := by decide +kernel
theorem dX12_next_12 : decode cX12_next 12 = .ok (.iload 8, 2) := by decide +kernel
theorem dX12_next_14 : decode cX12_next 14 = .ok (.sipush 300, 3) := by decide +kernel
theorem dX12_next_17 : decode cX12_next 17 = .ok (.iload_n 1, 1) := by decide +kernel
theorem dX12_next_18 : decode cX12_next 18 = .ok (.imul, 1) := by decide +kernel
theorem dX12_next_19 : decode cX12_next 19 = .ok (.aload_n 0, 1) := by decide +kernel
theorem dX12_next_20 : decode cX12_next 20 = .ok (.iload_n 1, 1) := by decide +kernel
theorem dX12_next_21 : decode cX12_next 21 = .ok (.invokevirtual 152, 3) := by decide +kernel
theorem dX12_next_24 : decode cX12_next 24 = .ok (.iadd, 1) := by decide +kernel
theorem dX12_next_25 : decode cX12_next 25 = .ok (.if_icmp .ge 68, 3) := by decide +kernel
theorem dX12_next_28 : decode cX12_next 28 = .ok (.aload_n 0, 1) := by decide +kernel
theorem dX12_next_29 : decode cX12_next 29 = .ok (.getfield 52, 3) := by decide +kernel
theorem dX12_next_32 : decode cX12_next 32 = .ok (.iload 8, 2) := by decide +kernel
theorem dX12_next_34 : decode cX12_next 34 = .ok (.iaload, 1) := by decide +kernel
theorem dX12_next_35 : decode cX12_next 35 = .ok (.i2l, 1) := by decide +kernel
theorem dX12_next_36 : decode cX12_next 36 = .ok (.lload_n 2, 1) := by decide +kernel
theorem dX12_next_37 : decode cX12_next 37 = .ok (.lcmp, 1) := by decide +kernel
theorem dX12_next_38 : decode cX12_next 38 = .ok (.ifCond .le 45, 3) := by decide +kernel
theorem dX12_next_41 : decode cX12_next 41 = .ok (.aload_n 0, 1) := by decide +kernel
theorem dX12_next_42 : decode cX12_next 42 = .ok (.getfield 52, 3) := by decide +kernel
theorem dX12_next_45 : decode cX12_next 45 = .ok (.iload 8, 2) := by decide +kernel
theorem dX12_next_47 : decode cX12_next 47 = .ok (.iaload, 1) := by decide +kernel
theorem dX12_next_48 : decode cX12_next 48 = .ok (.i2l, 1) := by decide +kernel
theorem dX12_next_49 : decode cX12_next 49 = .ok (.lload 6, 2) := by decide +kernel
theorem dX12_next_51 : decode cX12_next 51 = .ok (.lcmp, 1) := by decide +kernel
theorem dX12_next_52 : decode cX12_next 52 = .ok (.ifCond .ge 31, 3) := by decide +kernel
theorem dX12_next_55 : decode cX12_next 55 = .ok (.aload_n 0, 1) := by decide +kernel
theorem dX12_next_56 : decode cX12_next 56 = .ok (.getfield 52, 3) := by decide +kernel
theorem dX12_next_59 : decode cX12_next 59 = .ok (.iload 8, 2) := by decide +kernel
theorem dX12_next_61 : decode cX12_next 61 = .ok (.iaload, 1) := by decide +kernel
theorem dX12_next_62 : decode cX12_next 62 = .ok (.iload 5, 2) := by decide +kernel
theorem dX12_next_64 : decode cX12_next 64 = .ok (.invokestatic 159, 3) := by decide +kernel
theorem dX12_next_67 : decode cX12_next 67 = .ok (.iload 4, 2) := by decide +kernel
theorem dX12_next_69 : decode cX12_next 69 = .ok (.if_icmp .ne 14, 3) := by decide +kernel
theorem dX12_next_72 : decode cX12_next 72 = .ok (.aload_n 0, 1) := by decide +kernel
theorem dX12_next_73 : decode cX12_next 73 = .ok (.getfield 52, 3) := by decide +kernel
theorem dX12_next_76 : decode cX12_next 76 = .ok (.iload 8, 2) := by decide +kernel
theorem dX12_next_78 : decode cX12_next 78 = .ok (.iaload, 1) := by decide +kernel
theorem dX12_next_79 : decode cX12_next 79 = .ok (.i2l, 1) := by decide +kernel
theorem dX12_next_80 : decode cX12_next 80 = .ok (.goto 5, 3) := by decide +kernel
theorem dX12_next_83 : decode cX12_next 83 = .ok (.lload 6, 2) := by decide +kernel
theorem dX12_next_85 : decode cX12_next 85 = .ok (.lstore 6, 2) := by decide +kernel
theorem dX12_next_87 : decode cX12_next 87 = .ok (.iinc 8 1, 3) := by decide +kernel
theorem dX12_next_90 : decode cX12_next 90 = .ok (.goto (-78), 3) := by decide +kernel
theorem dX12_next_93 : decode cX12_next 93 = .ok (.lload 6, 2) := by decide +kernel
theorem dX12_next_95 : decode cX12_next 95 = .ok (.lreturn, 1) := by decide +kernel
theorem dX12_grouped_0 : decode cX12_grouped 0 = .ok (.aload_n 0, 1) := by decide +kernel
theorem dX12_grouped_1 : decode cX12_grouped 1 = .ok (.getfield 13, 3) := by decide +kernel
theorem dX12_grouped_4 : decode cX12_grouped 4 = .ok (.iload_n 1, 1) := by decide +kernel
theorem dX12_grouped_5 : decode cX12_grouped 5 = .ok (.iaload, 1) := by decide +kernel
theorem dX12_grouped_6 : decode cX12_grouped 6 = .ok (.istore_n 3, 1) := by decide +kernel
theorem dX12_grouped_7 : decode cX12_grouped 7 = .ok (.iconst 0, 1) := by decide +kernel
theorem dX12_grouped_8 : decode cX12_grouped 8 = .ok (.istore 4, 2) := by decide +kernel
theorem dX12_grouped_10 : decode cX12_grouped 10 = .ok (.iconst 0, 1) := by decide +kernel
theorem dX12_grouped_11 : decode cX12_grouped 11 = .ok (.istore 5, 2) := by decide +kernel
theorem dX12_grouped_13 : decode cX12_grouped 13 = .ok (.sipush 300, 3) := by decide +kernel
theorem dX12_grouped_16 : decode cX12_grouped 16 = .ok (.iload_n 3, 1) := by decide +kernel
theorem dX12_grouped_17 : decode cX12_grouped 17 = .ok (.imul, 1) := by decide +kernel
theorem dX12_grouped_18 : decode cX12_grouped 18 = .ok (.istore 6, 2) := by decide +kernel
theorem dX12_grouped_20 : decode cX12_grouped 20 = .ok (.iload 6, 2) := by decide +kernel
theorem dX12_grouped_22 : decode cX12_grouped 22 = .ok (.sipush 300, 3) := by decide +kernel
theorem dX12_grouped_25 : decode cX12_grouped 25 = .ok (.iload_n 3, 1) := by decide +kernel
theorem dX12_grouped_26 : decode cX12_grouped 26 = .ok (.imul, 1) := by decide +kernel
theorem dX12_grouped_27 : decode cX12_grouped 27 = .ok (.aload_n 0, 1) := by decide +kernel
theorem dX12_grouped_28 : decode cX12_grouped 28 = .ok (.iload_n 3, 1) := by decide +kernel
theorem dX12_grouped_29 : decode cX12_grouped 29 = .ok (.invokevirtual 152, 3) := by decide +kernel
theorem dX12_grouped_32 : decode cX12_grouped 32 = .ok (.iadd, 1) := by decide +kernel
theorem dX12_grouped_33 : decode cX12_grouped 33 = .ok (.if_icmp .ge 124, 3) := by decide +kernel
theorem dX12_grouped_36 : decode cX12_grouped 36 = .ok (.aload_n 0, 1) := by decide +kernel
theorem dX12_grouped_37 : decode cX12_grouped 37 = .ok (.getfield 52, 3) := by decide +kernel
theorem dX12_grouped_40 : decode cX12_grouped 40 = .ok (.iload 6, 2) := by decide +kernel
theorem dX12_grouped_42 : decode cX12_grouped 42 = .ok (.iaload, 1) := by decide +kernel
theorem dX12_grouped_43 : decode cX12_grouped 43 = .ok (.iload_n 2, 1) := by decide +kernel
theorem dX12_grouped_44 : decode cX12_grouped 44 = .ok (.if_icmp .ne 107, 3) := by decide +kernel
theorem dX12_grouped_47 : decode cX12_grouped 47 = .ok (.aload_n 0, 1) := by decide +kernel
theorem dX12_grouped_48 : decode cX12_grouped 48 = .ok (.getfield 55, 3) := by decide +kernel
theorem dX12_grouped_51 : decode cX12_grouped 51 = .ok (.iload 6, 2) := by decide +kernel
theorem dX12_grouped_53 : decode cX12_grouped 53 = .ok (.iaload, 1) := by decide +kernel
theorem dX12_grouped_54 : decode cX12_grouped 54 = .ok (.istore 7, 2) := by decide +kernel
theorem dX12_grouped_56 : decode cX12_grouped 56 = .ok (.aload_n 0, 1) := by decide +kernel
theorem dX12_grouped_57 : decode cX12_grouped 57 = .ok (.getfield 19, 3) := by decide +kernel
theorem dX12_grouped_60 : decode cX12_grouped 60 = .ok (.iload_n 1, 1) := by decide +kernel
theorem dX12_grouped_61 : decode cX12_grouped 61 = .ok (.iaload, 1) := by decide +kernel
theorem dX12_grouped_62 : decode cX12_grouped 62 = .ok (.iconst 1, 1) := by decide +kernel
theorem dX12_grouped_63 : decode cX12_grouped 63 = .ok (.if_icmp .ne 18, 3) := by decide +kernel
theorem dX12_grouped_66 : decode cX12_grouped 66 = .ok (.iload 7, 2) := by decide +kernel
theorem dX12_grouped_68 : decode cX12_grouped 68 = .ok (.iload 5, 2) := by decide +kernel
theorem dX12_grouped_70 : decode cX12_grouped 70 = .ok (.if_icmp .ge 7, 3) := by decide +kernel
theorem dX12_grouped_73 : decode cX12_grouped 73 = .ok (.iconst 1, 1) := by decide +kernel
theorem dX12_grouped_74 : decode cX12_grouped 74 = .ok (.goto 19, 3) := by decide +kernel
theorem dX12_grouped_77 : decode cX12_grouped 77 = .ok (.iconst 0, 1) := by decide +kernel
theorem dX12_grouped_78 : decode cX12_grouped 78 = .ok (.goto 15, 3) := by decide +kernel
theorem dX12_grouped_81 : decode cX12_grouped 81 = .ok (.iload 7, 2) := by decide +kernel
theorem dX12_grouped_83 : decode cX12_grouped 83 = .ok (.iload 5, 2) := by decide +kernel
theorem dX12_grouped_85 : decode cX12_grouped 85 = .ok (.if_icmp .le 7, 3) := by decide +kernel
theorem dX12_grouped_88 : decode cX12_grouped 88 = .ok (.iconst 1, 1) := by decide +kernel
theorem dX12_grouped_89 : decode cX12_grouped 89 = .ok (.goto 4, 3) := by decide +kernel
theorem dX12_grouped_92 : decode cX12_grouped 92 = .ok (.iconst 0, 1) := by decide +kernel
theorem dX12_grouped_93 : decode cX12_grouped 93 = .ok (.istore 8, 2) := by decide +kernel
theorem dX12_grouped_95 : decode cX12_grouped 95 = .ok (.aload_n 0, 1) := by decide +kernel
theorem dX12_grouped_96 : decode cX12_grouped 96 = .ok (.getfield 19, 3) := by decide +kernel
theorem dX12_grouped_99 : decode cX12_grouped 99 = .ok (.iload_n 1, 1) := by decide +kernel
theorem dX12_grouped_100 : decode cX12_grouped 100 = .ok (.iaload, 1) := by decide +kernel
theorem dX12_grouped_101 : decode cX12_grouped 101 = .ok (.iconst 3, 1) := by decide +kernel
theorem dX12_grouped_102 : decode cX12_grouped 102 = .ok (.if_icmp .ne 10, 3) := by decide +kernel
theorem dX12_grouped_105 : decode cX12_grouped 105 = .ok (.iload 5, 2) := by decide +kernel
theorem dX12_grouped_107 : decode cX12_grouped 107 = .ok (.iconst 1, 1) := by decide +kernel
theorem dX12_grouped_108 : decode cX12_grouped 108 = .ok (.iadd, 1) := by decide +kernel
theorem dX12_grouped_109 : decode cX12_grouped 109 = .ok (.goto 37, 3) := by decide +kernel
theorem dX12_grouped_112 : decode cX12_grouped 112 = .ok (.aload_n 0, 1) := by decide +kernel
theorem dX12_grouped_113 : decode cX12_grouped 113 = .ok (.getfield 19, 3) := by decide +kernel
theorem dX12_grouped_116 : decode cX12_grouped 116 = .ok (.iload_n 1, 1) := by decide +kernel
theorem dX12_grouped_117 : decode cX12_grouped 117 = .ok (.iaload, 1) := by decide +kernel
theorem dX12_grouped_118 : decode cX12_grouped 118 = .ok (.ifCond .ne 11, 3) := by decide +kernel
theorem dX12_grouped_121 : decode cX12_grouped 121 = .ok (.iload 5, 2) := by decide +kernel
theorem dX12_grouped_123 : decode cX12_grouped 123 = .ok (.iload 7, 2) := by decide +kernel
theorem dX12_grouped_125 : decode cX12_grouped 125 = .ok (.iadd, 1) := by decide +kernel
theorem dX12_grouped_126 : decode cX12_grouped 126 = .ok (.goto 20, 3) := by decide +kernel
theorem dX12_grouped_129 : decode cX12_grouped 129 = .ok (.iload 4, 2) := by decide +kernel
theorem dX12_grouped_131 : decode cX12_grouped 131 = .ok (.ifCond .eq 8, 3) := by decide +kernel
theorem dX12_grouped_134 : decode cX12_grouped 134 = .ok (.iload 8, 2) := by decide +kernel
theorem dX12_grouped_136 : decode cX12_grouped 136 = .ok (.ifCond .eq 8, 3) := by decide +kernel
theorem dX12_grouped_139 : decode cX12_grouped 139 = .ok (.iload 7, 2) := by decide +kernel
theorem dX12_grouped_141 : decode cX12_grouped 141 = .ok (.goto 5, 3) := by decide +kernel
theorem dX12_grouped_144 : decode cX12_grouped 144 = .ok (.iload 5, 2) := by decide +kernel
theorem dX12_grouped_146 : decode cX12_grouped 146 = .ok (.istore 5, 2) := by decide +kernel
theorem dX12_grouped_148 : decode cX12_grouped 148 = .ok (.iinc 4 1, 3) := by decide +kernel
theorem dX12_grouped_151 : decode cX12_grouped 151 = .ok (.iinc 6 1, 3) := by decide +kernel
theorem dX12_grouped_154 : decode cX12_grouped 154 = .ok (.goto (-134), 3) := by decide +kernel
theorem dX12_grouped_157 : decode cX12_grouped 157 = .ok (.iload 5, 2) := by decide +kernel
theorem dX12_grouped_159 : decode cX12_grouped 159 = .ok (.ireturn, 1) := by decide +kernel
theorem dX12_joins_0 : decode cX12_joins 0 = .ok (.aload_n 0, 1) := by decide +kernel
theorem dX12_joins_1 : decode cX12_joins 1 = .ok (.getfield 16, 3) := by decide +kernel
theorem dX12_joins_4 : decode cX12_joins 4 = .ok (.iload_n 1, 1) := by decide +kernel
theorem dX12_joins_5 : decode cX12_joins 5 = .ok (.iaload, 1) := by decide +kernel
theorem dX12_joins_6 : decode cX12_joins 6 = .ok (.istore 4, 2) := by decide +kernel
theorem dX12_joins_8 : decode cX12_joins 8 = .ok (.iload_n 3, 1) := by decide +kernel
theorem dX12_joins_9 : decode cX12_joins 9 = .ok (.istore 5, 2) := by decide +kernel
theorem dX12_joins_11 : decode cX12_joins 11 = .ok (.sipush 300, 3) := by decide +kernel
theorem dX12_joins_14 : decode cX12_joins 14 = .ok (.iload 4, 2) := by decide +kernel
theorem dX12_joins_16 : decode cX12_joins 16 = .ok (.imul, 1) := by decide +kernel
theorem dX12_joins_17 : decode cX12_joins 17 = .ok (.istore 6, 2) := by decide +kernel
theorem dX12_joins_19 : decode cX12_joins 19 = .ok (.iload 6, 2) := by decide +kernel
theorem dX12_joins_21 : decode cX12_joins 21 = .ok (.sipush 300, 3) := by decide +kernel
theorem dX12_joins_24 : decode cX12_joins 24 = .ok (.iload 4, 2) := by decide +kernel
theorem dX12_joins_26 : decode cX12_joins 26 = .ok (.imul, 1) := by decide +kernel
theorem dX12_joins_27 : decode cX12_joins 27 = .ok (.aload_n 0, 1) := by decide +kernel
theorem dX12_joins_28 : decode cX12_joins 28 = .ok (.iload 4, 2) := by decide +kernel
theorem dX12_joins_30 : decode cX12_joins 30 = .ok (.invokevirtual 152, 3) := by decide +kernel
theorem dX12_joins_33 : decode cX12_joins 33 = .ok (.iadd, 1) := by decide +kernel
theorem dX12_joins_34 : decode cX12_joins 34 = .ok (.if_icmp .ge 55, 3) := by decide +kernel
theorem dX12_joins_37 : decode cX12_joins 37 = .ok (.aload_n 0, 1) := by decide +kernel
theorem dX12_joins_38 : decode cX12_joins 38 = .ok (.getfield 52, 3) := by decide +kernel
theorem dX12_joins_41 : decode cX12_joins 41 = .ok (.iload 6, 2) := by decide +kernel
theorem dX12_joins_43 : decode cX12_joins 43 = .ok (.iaload, 1) := by decide +kernel
theorem dX12_joins_44 : decode cX12_joins 44 = .ok (.aload_n 0, 1) := by decide +kernel
theorem dX12_joins_45 : decode cX12_joins 45 = .ok (.getfield 52, 3) := by decide +kernel
theorem dX12_joins_48 : decode cX12_joins 48 = .ok (.iload_n 2, 1) := by decide +kernel
theorem dX12_joins_49 : decode cX12_joins 49 = .ok (.iaload, 1) := by decide +kernel
theorem dX12_joins_50 : decode cX12_joins 50 = .ok (.if_icmp .ne 33, 3) := by decide +kernel
theorem dX12_joins_53 : decode cX12_joins 53 = .ok (.aload_n 0, 1) := by decide +kernel
theorem dX12_joins_54 : decode cX12_joins 54 = .ok (.iload_n 1, 1) := by decide +kernel
theorem dX12_joins_55 : decode cX12_joins 55 = .ok (.iload 5, 2) := by decide +kernel
theorem dX12_joins_57 : decode cX12_joins 57 = .ok (.aload_n 0, 1) := by decide +kernel
theorem dX12_joins_58 : decode cX12_joins 58 = .ok (.getfield 52, 3) := by decide +kernel
theorem dX12_joins_61 : decode cX12_joins 61 = .ok (.iload_n 2, 1) := by decide +kernel
theorem dX12_joins_62 : decode cX12_joins 62 = .ok (.iaload, 1) := by decide +kernel
theorem dX12_joins_63 : decode cX12_joins 63 = .ok (.aload_n 0, 1) := by decide +kernel
theorem dX12_joins_64 : decode cX12_joins 64 = .ok (.getfield 55, 3) := by decide +kernel
theorem dX12_joins_67 : decode cX12_joins 67 = .ok (.iload_n 2, 1) := by decide +kernel
theorem dX12_joins_68 : decode cX12_joins 68 = .ok (.iaload, 1) := by decide +kernel
theorem dX12_joins_69 : decode cX12_joins 69 = .ok (.aload_n 0, 1) := by decide +kernel
theorem dX12_joins_70 : decode cX12_joins 70 = .ok (.getfield 55, 3) := by decide +kernel
theorem dX12_joins_73 : decode cX12_joins 73 = .ok (.iload 6, 2) := by decide +kernel
theorem dX12_joins_75 : decode cX12_joins 75 = .ok (.iaload, 1) := by decide +kernel
theorem dX12_joins_76 : decode cX12_joins 76 = .ok (.iadd, 1) := by decide +kernel
theorem dX12_joins_77 : decode cX12_joins 77 = .ok (.invokevirtual 155, 3) := by decide +kernel
theorem dX12_joins_80 : decode cX12_joins 80 = .ok (.iinc 5 1, 3) := by decide +kernel
theorem dX12_joins_83 : decode cX12_joins 83 = .ok (.iinc 6 1, 3) := by decide +kernel
theorem dX12_joins_86 : decode cX12_joins 86 = .ok (.goto (-67), 3) := by decide +kernel
theorem dX12_joins_89 : decode cX12_joins 89 = .ok (.iload 5, 2) := by decide +kernel
theorem dX12_joins_91 : decode cX12_joins 91 = .ok (.ireturn, 1) := by decide +kernel
theorem dX12_holdsShared_0 : decode cX12_holdsShared 0 = .ok (.aload_n 0, 1) := by decide +kernel
theorem dX12_holdsShared_1 : decode cX12_holdsShared 1 = .ok (.getfield 13, 3) := by decide +kernel
theorem dX12_holdsShared_4 : decode cX12_holdsShared 4 = .ok (.iload_n 1, 1) := by decide +kernel
theorem dX12_holdsShared_5 : decode cX12_holdsShared 5 = .ok (.iaload, 1) := by decide +kernel
theorem dX12_holdsShared_6 : decode cX12_holdsShared 6 = .ok (.istore_n 2, 1) := by decide +kernel
theorem dX12_holdsShared_7 : decode cX12_holdsShared 7 = .ok (.aload_n 0, 1) := by decide +kernel
theorem dX12_holdsShared_8 : decode cX12_holdsShared 8 = .ok (.getfield 46, 3) := by decide +kernel
theorem dX12_holdsShared_11 : decode cX12_holdsShared 11 = .ok (.iload_n 1, 1) := by decide +kernel
theorem dX12_holdsShared_12 : decode cX12_holdsShared 12 = .ok (.aload_n 0, 1) := by decide +kernel
theorem dX12_holdsShared_13 : decode cX12_holdsShared 13 = .ok (.getfield 28, 3) := by decide +kernel
theorem dX12_holdsShared_16 : decode cX12_holdsShared 16 = .ok (.iload_n 1, 1) := by decide +kernel
theorem dX12_holdsShared_17 : decode cX12_holdsShared 17 = .ok (.iaload, 1) := by decide +kernel
theorem dX12_holdsShared_18 : decode cX12_holdsShared 18 = .ok (.iastore, 1) := by decide +kernel
theorem dX12_holdsShared_19 : decode cX12_holdsShared 19 = .ok (.iconst 0, 1) := by decide +kernel
theorem dX12_holdsShared_20 : decode cX12_holdsShared 20 = .ok (.istore_n 3, 1) := by decide +kernel
theorem dX12_holdsShared_21 : decode cX12_holdsShared 21 = .ok (.iconst 0, 1) := by decide +kernel
theorem dX12_holdsShared_22 : decode cX12_holdsShared 22 = .ok (.istore 4, 2) := by decide +kernel
theorem dX12_holdsShared_24 : decode cX12_holdsShared 24 = .ok (.iload 4, 2) := by decide +kernel
theorem dX12_holdsShared_26 : decode cX12_holdsShared 26 = .ok (.aload_n 0, 1) := by decide +kernel
theorem dX12_holdsShared_27 : decode cX12_holdsShared 27 = .ok (.getfield 46, 3) := by decide +kernel
theorem dX12_holdsShared_30 : decode cX12_holdsShared 30 = .ok (.iload_n 1, 1) := by decide +kernel
theorem dX12_holdsShared_31 : decode cX12_holdsShared 31 = .ok (.iaload, 1) := by decide +kernel
theorem dX12_holdsShared_32 : decode cX12_holdsShared 32 = .ok (.if_icmp .ge 158, 3) := by decide +kernel
theorem dX12_holdsShared_35 : decode cX12_holdsShared 35 = .ok (.aload_n 0, 1) := by decide +kernel
theorem dX12_holdsShared_36 : decode cX12_holdsShared 36 = .ok (.getfield 49, 3) := by decide +kernel
theorem dX12_holdsShared_39 : decode cX12_holdsShared 39 = .ok (.bipush 9, 2) := by decide +kernel
theorem dX12_holdsShared_41 : decode cX12_holdsShared 41 = .ok (.iload_n 1, 1) := by decide +kernel
theorem dX12_holdsShared_42 : decode cX12_holdsShared 42 = .ok (.imul, 1) := by decide +kernel
theorem dX12_holdsShared_43 : decode cX12_holdsShared 43 = .ok (.iload 4, 2) := by decide +kernel
theorem dX12_holdsShared_45 : decode cX12_holdsShared 45 = .ok (.iadd, 1) := by decide +kernel
theorem dX12_holdsShared_46 : decode cX12_holdsShared 46 = .ok (.iload_n 3, 1) := by decide +kernel
theorem dX12_holdsShared_47 : decode cX12_holdsShared 47 = .ok (.iastore, 1) := by decide +kernel
theorem dX12_holdsShared_48 : decode cX12_holdsShared 48 = .ok (.aload_n 0, 1) := by decide +kernel
theorem dX12_holdsShared_49 : decode cX12_holdsShared 49 = .ok (.iload_n 2, 1) := by decide +kernel
theorem dX12_holdsShared_50 : decode cX12_holdsShared 50 = .ok (.ldc2_w 164, 3) := by decide +kernel
theorem dX12_holdsShared_53 : decode cX12_holdsShared 53 = .ok (.iload 4, 2) := by decide +kernel
theorem dX12_holdsShared_55 : decode cX12_holdsShared 55 = .ok (.aload_n 0, 1) := by decide +kernel
theorem dX12_holdsShared_56 : decode cX12_holdsShared 56 = .ok (.getfield 46, 3) := by decide +kernel
theorem dX12_holdsShared_59 : decode cX12_holdsShared 59 = .ok (.iload_n 1, 1) := by decide +kernel
theorem dX12_holdsShared_60 : decode cX12_holdsShared 60 = .ok (.iaload, 1) := by decide +kernel
theorem dX12_holdsShared_61 : decode cX12_holdsShared 61 = .ok (.invokevirtual 166, 3) := by decide +kernel
theorem dX12_holdsShared_64 : decode cX12_holdsShared 64 = .ok (.lstore 5, 2) := by decide +kernel
theorem dX12_holdsShared_66 : decode cX12_holdsShared 66 = .ok (.lload 5, 2) := by decide +kernel
theorem dX12_holdsShared_68 : decode cX12_holdsShared 68 = .ok (.ldc2_w 162, 3) := by decide +kernel
theorem dX12_holdsShared_71 : decode cX12_holdsShared 71 = .ok (.lcmp, 1) := by decide +kernel
theorem dX12_holdsShared_72 : decode cX12_holdsShared 72 = .ok (.ifCond .ge 112, 3) := by decide +kernel
theorem dX12_holdsShared_75 : decode cX12_holdsShared 75 = .ok (.aload_n 0, 1) := by decide +kernel
theorem dX12_holdsShared_76 : decode cX12_holdsShared 76 = .ok (.getfield 7, 3) := by decide +kernel
theorem dX12_holdsShared_79 : decode cX12_holdsShared 79 = .ok (.iload_n 1, 1) := by decide +kernel
theorem dX12_holdsShared_80 : decode cX12_holdsShared 80 = .ok (.iaload, 1) := by decide +kernel
theorem dX12_holdsShared_81 : decode cX12_holdsShared 81 = .ok (.iconst 4, 1) := by decide +kernel
theorem dX12_holdsShared_82 : decode cX12_holdsShared 82 = .ok (.if_icmp .ne 26, 3) := by decide +kernel
theorem dX12_holdsShared_85 : decode cX12_holdsShared 85 = .ok (.aload_n 0, 1) := by decide +kernel
theorem dX12_holdsShared_86 : decode cX12_holdsShared 86 = .ok (.iload_n 1, 1) := by decide +kernel
theorem dX12_holdsShared_87 : decode cX12_holdsShared 87 = .ok (.iload_n 3, 1) := by decide +kernel
theorem dX12_holdsShared_88 : decode cX12_holdsShared 88 = .ok (.lload 5, 2) := by decide +kernel
theorem dX12_holdsShared_90 : decode cX12_holdsShared 90 = .ok (.l2i, 1) := by decide +kernel
theorem dX12_holdsShared_91 : decode cX12_holdsShared 91 = .ok (.aload_n 0, 1) := by decide +kernel
theorem dX12_holdsShared_92 : decode cX12_holdsShared 92 = .ok (.iload_n 1, 1) := by decide +kernel
theorem dX12_holdsShared_93 : decode cX12_holdsShared 93 = .ok (.lload 5, 2) := by decide +kernel
theorem dX12_holdsShared_95 : decode cX12_holdsShared 95 = .ok (.l2i, 1) := by decide +kernel
theorem dX12_holdsShared_96 : decode cX12_holdsShared 96 = .ok (.invokevirtual 170, 3) := by decide +kernel
theorem dX12_holdsShared_99 : decode cX12_holdsShared 99 = .ok (.invokevirtual 155, 3) := by decide +kernel
theorem dX12_holdsShared_102 : decode cX12_holdsShared 102 = .ok (.iinc 3 1, 3) := by decide +kernel
theorem dX12_holdsShared_105 : decode cX12_holdsShared 105 = .ok (.goto 59, 3) := by decide +kernel
theorem dX12_holdsShared_108 : decode cX12_holdsShared 108 = .ok (.sipush 300, 3) := by decide +kernel
theorem dX12_holdsShared_111 : decode cX12_holdsShared 111 = .ok (.iload_n 2, 1) := by decide +kernel
theorem dX12_holdsShared_112 : decode cX12_holdsShared 112 = .ok (.imul, 1) := by decide +kernel
theorem dX12_holdsShared_113 : decode cX12_holdsShared 113 = .ok (.istore 7, 2) := by decide +kernel
theorem dX12_holdsShared_115 : decode cX12_holdsShared 115 = .ok (.iload 7, 2) := by decide +kernel
theorem dX12_holdsShared_117 : decode cX12_holdsShared 117 = .ok (.sipush 300, 3) := by decide +kernel
theorem dX12_holdsShared_120 : decode cX12_holdsShared 120 = .ok (.iload_n 2, 1) := by decide +kernel
theorem dX12_holdsShared_121 : decode cX12_holdsShared 121 = .ok (.imul, 1) := by decide +kernel
theorem dX12_holdsShared_122 : decode cX12_holdsShared 122 = .ok (.aload_n 0, 1) := by decide +kernel
theorem dX12_holdsShared_123 : decode cX12_holdsShared 123 = .ok (.iload_n 2, 1) := by decide +kernel
theorem dX12_holdsShared_124 : decode cX12_holdsShared 124 = .ok (.invokevirtual 152, 3) := by decide +kernel
theorem dX12_holdsShared_127 : decode cX12_holdsShared 127 = .ok (.iadd, 1) := by decide +kernel
theorem dX12_holdsShared_128 : decode cX12_holdsShared 128 = .ok (.if_icmp .ge 36, 3) := by decide +kernel
theorem dX12_holdsShared_131 : decode cX12_holdsShared 131 = .ok (.aload_n 0, 1) := by decide +kernel
theorem dX12_holdsShared_132 : decode cX12_holdsShared 132 = .ok (.getfield 52, 3) := by decide +kernel
theorem dX12_holdsShared_135 : decode cX12_holdsShared 135 = .ok (.iload 7, 2) := by decide +kernel
theorem dX12_holdsShared_137 : decode cX12_holdsShared 137 = .ok (.iaload, 1) := by decide +kernel
theorem dX12_holdsShared_138 : decode cX12_holdsShared 138 = .ok (.i2l, 1) := by decide +kernel
theorem dX12_holdsShared_139 : decode cX12_holdsShared 139 = .ok (.lload 5, 2) := by decide +kernel
theorem dX12_holdsShared_141 : decode cX12_holdsShared 141 = .ok (.lcmp, 1) := by decide +kernel
theorem dX12_holdsShared_142 : decode cX12_holdsShared 142 = .ok (.ifCond .ne 14, 3) := by decide +kernel
theorem dX12_holdsShared_145 : decode cX12_holdsShared 145 = .ok (.aload_n 0, 1) := by decide +kernel
theorem dX12_holdsShared_146 : decode cX12_holdsShared 146 = .ok (.iload_n 1, 1) := by decide +kernel
theorem dX12_holdsShared_147 : decode cX12_holdsShared 147 = .ok (.iload 7, 2) := by decide +kernel
theorem dX12_holdsShared_149 : decode cX12_holdsShared 149 = .ok (.iload_n 3, 1) := by decide +kernel
theorem dX12_holdsShared_150 : decode cX12_holdsShared 150 = .ok (.invokevirtual 173, 3) := by decide +kernel
theorem dX12_holdsShared_153 : decode cX12_holdsShared 153 = .ok (.goto 4, 3) := by decide +kernel
theorem dX12_holdsShared_156 : decode cX12_holdsShared 156 = .ok (.iload_n 3, 1) := by decide +kernel
theorem dX12_holdsShared_157 : decode cX12_holdsShared 157 = .ok (.istore_n 3, 1) := by decide +kernel
theorem dX12_holdsShared_158 : decode cX12_holdsShared 158 = .ok (.iinc 7 1, 3) := by decide +kernel
theorem dX12_holdsShared_161 : decode cX12_holdsShared 161 = .ok (.goto (-46), 3) := by decide +kernel
theorem dX12_holdsShared_164 : decode cX12_holdsShared 164 = .ok (.aload_n 0, 1) := by decide +kernel
theorem dX12_holdsShared_165 : decode cX12_holdsShared 165 = .ok (.iload_n 2, 1) := by decide +kernel
theorem dX12_holdsShared_166 : decode cX12_holdsShared 166 = .ok (.lload 5, 2) := by decide +kernel
theorem dX12_holdsShared_168 : decode cX12_holdsShared 168 = .ok (.iload 4, 2) := by decide +kernel
theorem dX12_holdsShared_170 : decode cX12_holdsShared 170 = .ok (.aload_n 0, 1) := by decide +kernel
theorem dX12_holdsShared_171 : decode cX12_holdsShared 171 = .ok (.getfield 46, 3) := by decide +kernel
theorem dX12_holdsShared_174 : decode cX12_holdsShared 174 = .ok (.iload_n 1, 1) := by decide +kernel
theorem dX12_holdsShared_175 : decode cX12_holdsShared 175 = .ok (.iaload, 1) := by decide +kernel
theorem dX12_holdsShared_176 : decode cX12_holdsShared 176 = .ok (.invokevirtual 166, 3) := by decide +kernel
theorem dX12_holdsShared_179 : decode cX12_holdsShared 179 = .ok (.lstore 5, 2) := by decide +kernel
theorem dX12_holdsShared_181 : decode cX12_holdsShared 181 = .ok (.goto (-115), 3) := by decide +kernel
theorem dX12_holdsShared_184 : decode cX12_holdsShared 184 = .ok (.iinc 4 1, 3) := by decide +kernel
theorem dX12_holdsShared_187 : decode cX12_holdsShared 187 = .ok (.goto (-163), 3) := by decide +kernel
theorem dX12_holdsShared_190 : decode cX12_holdsShared 190 = .ok (.aload_n 0, 1) := by decide +kernel
theorem dX12_holdsShared_191 : decode cX12_holdsShared 191 = .ok (.getfield 49, 3) := by decide +kernel
theorem dX12_holdsShared_194 : decode cX12_holdsShared 194 = .ok (.bipush 9, 2) := by decide +kernel
theorem dX12_holdsShared_196 : decode cX12_holdsShared 196 = .ok (.iload_n 1, 1) := by decide +kernel
theorem dX12_holdsShared_197 : decode cX12_holdsShared 197 = .ok (.imul, 1) := by decide +kernel
theorem dX12_holdsShared_198 : decode cX12_holdsShared 198 = .ok (.aload_n 0, 1) := by decide +kernel
theorem dX12_holdsShared_199 : decode cX12_holdsShared 199 = .ok (.getfield 46, 3) := by decide +kernel
theorem dX12_holdsShared_202 : decode cX12_holdsShared 202 = .ok (.iload_n 1, 1) := by decide +kernel
theorem dX12_holdsShared_203 : decode cX12_holdsShared 203 = .ok (.iaload, 1) := by decide +kernel
theorem dX12_holdsShared_204 : decode cX12_holdsShared 204 = .ok (.iadd, 1) := by decide +kernel
theorem dX12_holdsShared_205 : decode cX12_holdsShared 205 = .ok (.iload_n 3, 1) := by decide +kernel
theorem dX12_holdsShared_206 : decode cX12_holdsShared 206 = .ok (.iastore, 1) := by decide +kernel
theorem dX12_holdsShared_207 : decode cX12_holdsShared 207 = .ok (.return_, 1) := by decide +kernel
theorem dX12_holdsBroad_0 : decode cX12_holdsBroad 0 = .ok (.aload_n 0, 1) := by decide +kernel
theorem dX12_holdsBroad_1 : decode cX12_holdsBroad 1 = .ok (.getfield 13, 3) := by decide +kernel
theorem dX12_holdsBroad_4 : decode cX12_holdsBroad 4 = .ok (.iload_n 1, 1) := by decide +kernel
theorem dX12_holdsBroad_5 : decode cX12_holdsBroad 5 = .ok (.iaload, 1) := by decide +kernel
theorem dX12_holdsBroad_6 : decode cX12_holdsBroad 6 = .ok (.istore_n 2, 1) := by decide +kernel
theorem dX12_holdsBroad_7 : decode cX12_holdsBroad 7 = .ok (.aload_n 0, 1) := by decide +kernel
theorem dX12_holdsBroad_8 : decode cX12_holdsBroad 8 = .ok (.getfield 46, 3) := by decide +kernel
theorem dX12_holdsBroad_11 : decode cX12_holdsBroad 11 = .ok (.iload_n 1, 1) := by decide +kernel
theorem dX12_holdsBroad_12 : decode cX12_holdsBroad 12 = .ok (.aload_n 0, 1) := by decide +kernel
theorem dX12_holdsBroad_13 : decode cX12_holdsBroad 13 = .ok (.getfield 46, 3) := by decide +kernel
theorem dX12_holdsBroad_16 : decode cX12_holdsBroad 16 = .ok (.iload_n 2, 1) := by decide +kernel
theorem dX12_holdsBroad_17 : decode cX12_holdsBroad 17 = .ok (.iaload, 1) := by decide +kernel
theorem dX12_holdsBroad_18 : decode cX12_holdsBroad 18 = .ok (.iastore, 1) := by decide +kernel
theorem dX12_holdsBroad_19 : decode cX12_holdsBroad 19 = .ok (.iconst 0, 1) := by decide +kernel
theorem dX12_holdsBroad_20 : decode cX12_holdsBroad 20 = .ok (.istore_n 3, 1) := by decide +kernel
theorem dX12_holdsBroad_21 : decode cX12_holdsBroad 21 = .ok (.iconst 0, 1) := by decide +kernel
theorem dX12_holdsBroad_22 : decode cX12_holdsBroad 22 = .ok (.istore 4, 2) := by decide +kernel
theorem dX12_holdsBroad_24 : decode cX12_holdsBroad 24 = .ok (.iload 4, 2) := by decide +kernel
theorem dX12_holdsBroad_26 : decode cX12_holdsBroad 26 = .ok (.aload_n 0, 1) := by decide +kernel
theorem dX12_holdsBroad_27 : decode cX12_holdsBroad 27 = .ok (.getfield 46, 3) := by decide +kernel
theorem dX12_holdsBroad_30 : decode cX12_holdsBroad 30 = .ok (.iload_n 1, 1) := by decide +kernel
theorem dX12_holdsBroad_31 : decode cX12_holdsBroad 31 = .ok (.iaload, 1) := by decide +kernel
theorem dX12_holdsBroad_32 : decode cX12_holdsBroad 32 = .ok (.if_icmp .ge 72, 3) := by decide +kernel
theorem dX12_holdsBroad_35 : decode cX12_holdsBroad 35 = .ok (.aload_n 0, 1) := by decide +kernel
theorem dX12_holdsBroad_36 : decode cX12_holdsBroad 36 = .ok (.getfield 49, 3) := by decide +kernel
theorem dX12_holdsBroad_39 : decode cX12_holdsBroad 39 = .ok (.bipush 9, 2) := by decide +kernel
theorem dX12_holdsBroad_41 : decode cX12_holdsBroad 41 = .ok (.iload_n 1, 1) := by decide +kernel
theorem dX12_holdsBroad_42 : decode cX12_holdsBroad 42 = .ok (.imul, 1) := by decide +kernel
theorem dX12_holdsBroad_43 : decode cX12_holdsBroad 43 = .ok (.iload 4, 2) := by decide +kernel
theorem dX12_holdsBroad_45 : decode cX12_holdsBroad 45 = .ok (.iadd, 1) := by decide +kernel
theorem dX12_holdsBroad_46 : decode cX12_holdsBroad 46 = .ok (.iload_n 3, 1) := by decide +kernel
theorem dX12_holdsBroad_47 : decode cX12_holdsBroad 47 = .ok (.iastore, 1) := by decide +kernel
theorem dX12_holdsBroad_48 : decode cX12_holdsBroad 48 = .ok (.sipush 300, 3) := by decide +kernel
theorem dX12_holdsBroad_51 : decode cX12_holdsBroad 51 = .ok (.iload_n 2, 1) := by decide +kernel
theorem dX12_holdsBroad_52 : decode cX12_holdsBroad 52 = .ok (.imul, 1) := by decide +kernel
theorem dX12_holdsBroad_53 : decode cX12_holdsBroad 53 = .ok (.aload_n 0, 1) := by decide +kernel
theorem dX12_holdsBroad_54 : decode cX12_holdsBroad 54 = .ok (.iload_n 2, 1) := by decide +kernel
theorem dX12_holdsBroad_55 : decode cX12_holdsBroad 55 = .ok (.iload 4, 2) := by decide +kernel
theorem dX12_holdsBroad_57 : decode cX12_holdsBroad 57 = .ok (.invokevirtual 148, 3) := by decide +kernel
theorem dX12_holdsBroad_60 : decode cX12_holdsBroad 60 = .ok (.iadd, 1) := by decide +kernel
theorem dX12_holdsBroad_61 : decode cX12_holdsBroad 61 = .ok (.istore 5, 2) := by decide +kernel
theorem dX12_holdsBroad_63 : decode cX12_holdsBroad 63 = .ok (.iload 5, 2) := by decide +kernel
theorem dX12_holdsBroad_65 : decode cX12_holdsBroad 65 = .ok (.sipush 300, 3) := by decide +kernel
theorem dX12_holdsBroad_68 : decode cX12_holdsBroad 68 = .ok (.iload_n 2, 1) := by decide +kernel
theorem dX12_holdsBroad_69 : decode cX12_holdsBroad 69 = .ok (.imul, 1) := by decide +kernel
theorem dX12_holdsBroad_70 : decode cX12_holdsBroad 70 = .ok (.aload_n 0, 1) := by decide +kernel
theorem dX12_holdsBroad_71 : decode cX12_holdsBroad 71 = .ok (.iload_n 2, 1) := by decide +kernel
theorem dX12_holdsBroad_72 : decode cX12_holdsBroad 72 = .ok (.iload 4, 2) := by decide +kernel
theorem dX12_holdsBroad_74 : decode cX12_holdsBroad 74 = .ok (.iconst 1, 1) := by decide +kernel
theorem dX12_holdsBroad_75 : decode cX12_holdsBroad 75 = .ok (.iadd, 1) := by decide +kernel
theorem dX12_holdsBroad_76 : decode cX12_holdsBroad 76 = .ok (.invokevirtual 148, 3) := by decide +kernel
theorem dX12_holdsBroad_79 : decode cX12_holdsBroad 79 = .ok (.iadd, 1) := by decide +kernel
theorem dX12_holdsBroad_80 : decode cX12_holdsBroad 80 = .ok (.if_icmp .ge 18, 3) := by decide +kernel
theorem dX12_holdsBroad_83 : decode cX12_holdsBroad 83 = .ok (.aload_n 0, 1) := by decide +kernel
theorem dX12_holdsBroad_84 : decode cX12_holdsBroad 84 = .ok (.iload_n 1, 1) := by decide +kernel
theorem dX12_holdsBroad_85 : decode cX12_holdsBroad 85 = .ok (.iload 5, 2) := by decide +kernel
theorem dX12_holdsBroad_87 : decode cX12_holdsBroad 87 = .ok (.iload_n 3, 1) := by decide +kernel
theorem dX12_holdsBroad_88 : decode cX12_holdsBroad 88 = .ok (.invokevirtual 173, 3) := by decide +kernel
theorem dX12_holdsBroad_91 : decode cX12_holdsBroad 91 = .ok (.istore_n 3, 1) := by decide +kernel
theorem dX12_holdsBroad_92 : decode cX12_holdsBroad 92 = .ok (.iinc 5 1, 3) := by decide +kernel
theorem dX12_holdsBroad_95 : decode cX12_holdsBroad 95 = .ok (.goto (-32), 3) := by decide +kernel
theorem dX12_holdsBroad_98 : decode cX12_holdsBroad 98 = .ok (.iinc 4 1, 3) := by decide +kernel
theorem dX12_holdsBroad_101 : decode cX12_holdsBroad 101 = .ok (.goto (-77), 3) := by decide +kernel
theorem dX12_holdsBroad_104 : decode cX12_holdsBroad 104 = .ok (.aload_n 0, 1) := by decide +kernel
theorem dX12_holdsBroad_105 : decode cX12_holdsBroad 105 = .ok (.getfield 49, 3) := by decide +kernel
theorem dX12_holdsBroad_108 : decode cX12_holdsBroad 108 = .ok (.bipush 9, 2) := by decide +kernel
theorem dX12_holdsBroad_110 : decode cX12_holdsBroad 110 = .ok (.iload_n 1, 1) := by decide +kernel
theorem dX12_holdsBroad_111 : decode cX12_holdsBroad 111 = .ok (.imul, 1) := by decide +kernel
theorem dX12_holdsBroad_112 : decode cX12_holdsBroad 112 = .ok (.aload_n 0, 1) := by decide +kernel
theorem dX12_holdsBroad_113 : decode cX12_holdsBroad 113 = .ok (.getfield 46, 3) := by decide +kernel
theorem dX12_holdsBroad_116 : decode cX12_holdsBroad 116 = .ok (.iload_n 1, 1) := by decide +kernel
theorem dX12_holdsBroad_117 : decode cX12_holdsBroad 117 = .ok (.iaload, 1) := by decide +kernel
theorem dX12_holdsBroad_118 : decode cX12_holdsBroad 118 = .ok (.iadd, 1) := by decide +kernel
theorem dX12_holdsBroad_119 : decode cX12_holdsBroad 119 = .ok (.iload_n 3, 1) := by decide +kernel
theorem dX12_holdsBroad_120 : decode cX12_holdsBroad 120 = .ok (.iastore, 1) := by decide +kernel
theorem dX12_holdsBroad_121 : decode cX12_holdsBroad 121 = .ok (.return_, 1) := by decide +kernel
theorem dX12_knows_0 : decode cX12_knows 0 = .ok (.iconst 0, 1) := by decide +kernel
theorem dX12_knows_1 : decode cX12_knows 1 = .ok (.istore_n 1, 1) := by decide +kernel
theorem dX12_knows_2 : decode cX12_knows 2 = .ok (.iload_n 1, 1) := by decide +kernel
theorem dX12_knows_3 : decode cX12_knows 3 = .ok (.aload_n 0, 1) := by decide +kernel
theorem dX12_knows_4 : decode cX12_knows 4 = .ok (.getfield 123, 3) := by decide +kernel
theorem dX12_knows_7 : decode cX12_knows 7 = .ok (.if_icmp .ge 100, 3) := by decide +kernel
theorem dX12_knows_10 : decode cX12_knows 10 = .ok (.aload_n 0, 1) := by decide +kernel
theorem dX12_knows_11 : decode cX12_knows 11 = .ok (.getfield 126, 3) := by decide +kernel
theorem dX12_knows_14 : decode cX12_knows 14 = .ok (.ifCond .ne 93, 3) := by decide +kernel
theorem dX12_knows_17 : decode cX12_knows 17 = .ok (.aload_n 0, 1) := by decide +kernel
theorem dX12_knows_18 : decode cX12_knows 18 = .ok (.getfield 7, 3) := by decide +kernel
theorem dX12_knows_21 : decode cX12_knows 21 = .ok (.iload_n 1, 1) := by decide +kernel
theorem dX12_knows_22 : decode cX12_knows 22 = .ok (.iaload, 1) := by decide +kernel
theorem dX12_knows_23 : decode cX12_knows 23 = .ok (.ifCond .ne 11, 3) := by decide +kernel
theorem dX12_knows_26 : decode cX12_knows 26 = .ok (.aload_n 0, 1) := by decide +kernel
theorem dX12_knows_27 : decode cX12_knows 27 = .ok (.iload_n 1, 1) := by decide +kernel
theorem dX12_knows_28 : decode cX12_knows 28 = .ok (.invokevirtual 177, 3) := by decide +kernel
theorem dX12_knows_31 : decode cX12_knows 31 = .ok (.goto 70, 3) := by decide +kernel
theorem dX12_knows_34 : decode cX12_knows 34 = .ok (.aload_n 0, 1) := by decide +kernel
theorem dX12_knows_35 : decode cX12_knows 35 = .ok (.getfield 7, 3) := by decide +kernel
theorem dX12_knows_38 : decode cX12_knows 38 = .ok (.iload_n 1, 1) := by decide +kernel
theorem dX12_knows_39 : decode cX12_knows 39 = .ok (.iaload, 1) := by decide +kernel
theorem dX12_knows_40 : decode cX12_knows 40 = .ok (.iconst 3, 1) := by decide +kernel
theorem dX12_knows_41 : decode cX12_knows 41 = .ok (.if_icmp .ge 11, 3) := by decide +kernel
theorem dX12_knows_44 : decode cX12_knows 44 = .ok (.aload_n 0, 1) := by decide +kernel
theorem dX12_knows_45 : decode cX12_knows 45 = .ok (.iload_n 1, 1) := by decide +kernel
theorem dX12_knows_46 : decode cX12_knows 46 = .ok (.invokevirtual 181, 3) := by decide +kernel
theorem dX12_knows_49 : decode cX12_knows 49 = .ok (.goto 52, 3) := by decide +kernel
theorem dX12_knows_52 : decode cX12_knows 52 = .ok (.aload_n 0, 1) := by decide +kernel
theorem dX12_knows_53 : decode cX12_knows 53 = .ok (.getfield 7, 3) := by decide +kernel
theorem dX12_knows_56 : decode cX12_knows 56 = .ok (.iload_n 1, 1) := by decide +kernel
theorem dX12_knows_57 : decode cX12_knows 57 = .ok (.iaload, 1) := by decide +kernel
theorem dX12_knows_58 : decode cX12_knows 58 = .ok (.iconst 3, 1) := by decide +kernel
theorem dX12_knows_59 : decode cX12_knows 59 = .ok (.if_icmp .ne 11, 3) := by decide +kernel
theorem dX12_knows_62 : decode cX12_knows 62 = .ok (.aload_n 0, 1) := by decide +kernel
theorem dX12_knows_63 : decode cX12_knows 63 = .ok (.iload_n 1, 1) := by decide +kernel
theorem dX12_knows_64 : decode cX12_knows 64 = .ok (.invokevirtual 184, 3) := by decide +kernel
theorem dX12_knows_67 : decode cX12_knows 67 = .ok (.goto 34, 3) := by decide +kernel
theorem dX12_knows_70 : decode cX12_knows 70 = .ok (.aload_n 0, 1) := by decide +kernel
theorem dX12_knows_71 : decode cX12_knows 71 = .ok (.getfield 7, 3) := by decide +kernel
theorem dX12_knows_74 : decode cX12_knows 74 = .ok (.iload_n 1, 1) := by decide +kernel
theorem dX12_knows_75 : decode cX12_knows 75 = .ok (.iaload, 1) := by decide +kernel
theorem dX12_knows_76 : decode cX12_knows 76 = .ok (.iconst 5, 1) := by decide +kernel
theorem dX12_knows_77 : decode cX12_knows 77 = .ok (.if_icmp .ne 19, 3) := by decide +kernel
theorem dX12_knows_80 : decode cX12_knows 80 = .ok (.aload_n 0, 1) := by decide +kernel
theorem dX12_knows_81 : decode cX12_knows 81 = .ok (.iload_n 1, 1) := by decide +kernel
theorem dX12_knows_82 : decode cX12_knows 82 = .ok (.invokevirtual 187, 3) := by decide +kernel
theorem dX12_knows_85 : decode cX12_knows 85 = .ok (.ifCond .eq 11, 3) := by decide +kernel
theorem dX12_knows_88 : decode cX12_knows 88 = .ok (.aload_n 0, 1) := by decide +kernel
theorem dX12_knows_89 : decode cX12_knows 89 = .ok (.iload_n 1, 1) := by decide +kernel
theorem dX12_knows_90 : decode cX12_knows 90 = .ok (.invokevirtual 190, 3) := by decide +kernel
theorem dX12_knows_93 : decode cX12_knows 93 = .ok (.goto 8, 3) := by decide +kernel
theorem dX12_knows_96 : decode cX12_knows 96 = .ok (.aload_n 0, 1) := by decide +kernel
theorem dX12_knows_97 : decode cX12_knows 97 = .ok (.iload_n 1, 1) := by decide +kernel
theorem dX12_knows_98 : decode cX12_knows 98 = .ok (.invokevirtual 193, 3) := by decide +kernel
theorem dX12_knows_101 : decode cX12_knows 101 = .ok (.iinc 1 1, 3) := by decide +kernel
theorem dX12_knows_104 : decode cX12_knows 104 = .ok (.goto (-102), 3) := by decide +kernel
theorem dX12_knows_107 : decode cX12_knows 107 = .ok (.aload_n 0, 1) := by decide +kernel
theorem dX12_knows_108 : decode cX12_knows 108 = .ok (.iconst 1, 1) := by decide +kernel
theorem dX12_knows_109 : decode cX12_knows 109 = .ok (.putfield 126, 3) := by decide +kernel
theorem dX12_knows_112 : decode cX12_knows 112 = .ok (.return_, 1) := by decide +kernel
theorem dX12_isNoNode_0 : decode cX12_isNoNode 0 = .ok (.aload_n 0, 1) := by decide +kernel
theorem dX12_isNoNode_1 : decode cX12_isNoNode 1 = .ok (.invokevirtual 196, 3) := by decide +kernel
theorem dX12_isNoNode_4 : decode cX12_isNoNode 4 = .ok (.aload_n 0, 1) := by decide +kernel
theorem dX12_isNoNode_5 : decode cX12_isNoNode 5 = .ok (.aload_n 0, 1) := by decide +kernel
theorem dX12_isNoNode_6 : decode cX12_isNoNode 6 = .ok (.iload_n 1, 1) := by decide +kernel
theorem dX12_isNoNode_7 : decode cX12_isNoNode 7 = .ok (.invokevirtual 138, 3) := by decide +kernel
theorem dX12_isNoNode_10 : decode cX12_isNoNode 10 = .ok (.ifCond .eq 7, 3) := by decide +kernel
theorem dX12_isNoNode_13 : decode cX12_isNoNode 13 = .ok (.iconst 0, 1) := by decide +kernel
theorem dX12_isNoNode_14 : decode cX12_isNoNode 14 = .ok (.goto 4, 3) := by decide +kernel
theorem dX12_isNoNode_17 : decode cX12_isNoNode 17 = .ok (.iconst 1, 1) := by decide +kernel
theorem dX12_isNoNode_18 : decode cX12_isNoNode 18 = .ok (.invokevirtual 130, 3) := by decide +kernel
theorem dX12_isNoNode_21 : decode cX12_isNoNode 21 = .ok (.ireturn, 1) := by decide +kernel
theorem dX12_partitions_0 : decode cX12_partitions 0 = .ok (.aload_n 0, 1) := by decide +kernel
theorem dX12_partitions_1 : decode cX12_partitions 1 = .ok (.iload_n 1, 1) := by decide +kernel
theorem dX12_partitions_2 : decode cX12_partitions 2 = .ok (.invokevirtual 199, 3) := by decide +kernel
theorem dX12_partitions_5 : decode cX12_partitions 5 = .ok (.ifCond .eq 7, 3) := by decide +kernel
theorem dX12_partitions_8 : decode cX12_partitions 8 = .ok (.iconst 0, 1) := by decide +kernel
theorem dX12_partitions_9 : decode cX12_partitions 9 = .ok (.goto 9, 3) := by decide +kernel
theorem dX12_partitions_12 : decode cX12_partitions 12 = .ok (.aload_n 0, 1) := by decide +kernel
theorem dX12_partitions_13 : decode cX12_partitions 13 = .ok (.getfield 46, 3) := by decide +kernel
theorem dX12_partitions_16 : decode cX12_partitions 16 = .ok (.iload_n 1, 1) := by decide +kernel
theorem dX12_partitions_17 : decode cX12_partitions 17 = .ok (.iaload, 1) := by decide +kernel
theorem dX12_partitions_18 : decode cX12_partitions 18 = .ok (.ireturn, 1) := by decide +kernel
theorem dX12_rowsOf_0 : decode cX12_rowsOf 0 = .ok (.aload_n 0, 1) := by decide +kernel
theorem dX12_rowsOf_1 : decode cX12_rowsOf 1 = .ok (.iload_n 1, 1) := by decide +kernel
theorem dX12_rowsOf_2 : decode cX12_rowsOf 2 = .ok (.iload_n 2, 1) := by decide +kernel
theorem dX12_rowsOf_3 : decode cX12_rowsOf 3 = .ok (.iconst 1, 1) := by decide +kernel
theorem dX12_rowsOf_4 : decode cX12_rowsOf 4 = .ok (.iadd, 1) := by decide +kernel
theorem dX12_rowsOf_5 : decode cX12_rowsOf 5 = .ok (.invokevirtual 148, 3) := by decide +kernel
theorem dX12_rowsOf_8 : decode cX12_rowsOf 8 = .ok (.aload_n 0, 1) := by decide +kernel
theorem dX12_rowsOf_9 : decode cX12_rowsOf 9 = .ok (.iload_n 1, 1) := by decide +kernel
theorem dX12_rowsOf_10 : decode cX12_rowsOf 10 = .ok (.iload_n 2, 1) := by decide +kernel
theorem dX12_rowsOf_11 : decode cX12_rowsOf 11 = .ok (.invokevirtual 148, 3) := by decide +kernel
theorem dX12_rowsOf_14 : decode cX12_rowsOf 14 = .ok (.isub, 1) := by decide +kernel
theorem dX12_rowsOf_15 : decode cX12_rowsOf 15 = .ok (.ireturn, 1) := by decide +kernel
theorem dX12_isPart_0 : decode cX12_isPart 0 = .ok (.aload_n 0, 1) := by decide +kernel
theorem dX12_isPart_1 : decode cX12_isPart 1 = .ok (.invokevirtual 196, 3) := by decide +kernel
theorem dX12_isPart_4 : decode cX12_isPart 4 = .ok (.aload_n 0, 1) := by decide +kernel
theorem dX12_isPart_5 : decode cX12_isPart 5 = .ok (.iload_n 1, 1) := by decide +kernel
theorem dX12_isPart_6 : decode cX12_isPart 6 = .ok (.invokevirtual 138, 3) := by decide +kernel
theorem dX12_isPart_9 : decode cX12_isPart 9 = .ok (.ifCond .eq 21, 3) := by decide +kernel
theorem dX12_isPart_12 : decode cX12_isPart 12 = .ok (.iload_n 2, 1) := by decide +kernel
theorem dX12_isPart_13 : decode cX12_isPart 13 = .ok (.ifCond .lt 17, 3) := by decide +kernel
theorem dX12_isPart_16 : decode cX12_isPart 16 = .ok (.iload_n 2, 1) := by decide +kernel
theorem dX12_isPart_17 : decode cX12_isPart 17 = .ok (.aload_n 0, 1) := by decide +kernel
theorem dX12_isPart_18 : decode cX12_isPart 18 = .ok (.getfield 46, 3) := by decide +kernel
theorem dX12_isPart_21 : decode cX12_isPart 21 = .ok (.iload_n 1, 1) := by decide +kernel
theorem dX12_isPart_22 : decode cX12_isPart 22 = .ok (.iaload, 1) := by decide +kernel
theorem dX12_isPart_23 : decode cX12_isPart 23 = .ok (.if_icmp .ge 7, 3) := by decide +kernel
theorem dX12_isPart_26 : decode cX12_isPart 26 = .ok (.iconst 1, 1) := by decide +kernel
theorem dX12_isPart_27 : decode cX12_isPart 27 = .ok (.goto 4, 3) := by decide +kernel
theorem dX12_isPart_30 : decode cX12_isPart 30 = .ok (.iconst 0, 1) := by decide +kernel
theorem dX12_isPart_31 : decode cX12_isPart 31 = .ok (.ireturn, 1) := by decide +kernel
theorem dX12_rowsIn_0 : decode cX12_rowsIn 0 = .ok (.aload_n 0, 1) := by decide +kernel
theorem dX12_rowsIn_1 : decode cX12_rowsIn 1 = .ok (.aload_n 0, 1) := by decide +kernel
theorem dX12_rowsIn_2 : decode cX12_rowsIn 2 = .ok (.iload_n 1, 1) := by decide +kernel
theorem dX12_rowsIn_3 : decode cX12_rowsIn 3 = .ok (.iload_n 2, 1) := by decide +kernel
theorem dX12_rowsIn_4 : decode cX12_rowsIn 4 = .ok (.invokevirtual 202, 3) := by decide +kernel
theorem dX12_rowsIn_7 : decode cX12_rowsIn 7 = .ok (.ifCond .eq 7, 3) := by decide +kernel
theorem dX12_rowsIn_10 : decode cX12_rowsIn 10 = .ok (.iconst 0, 1) := by decide +kernel
theorem dX12_rowsIn_11 : decode cX12_rowsIn 11 = .ok (.goto 4, 3) := by decide +kernel
theorem dX12_rowsIn_14 : decode cX12_rowsIn 14 = .ok (.iconst 1, 1) := by decide +kernel
theorem dX12_rowsIn_15 : decode cX12_rowsIn 15 = .ok (.invokevirtual 130, 3) := by decide +kernel
theorem dX12_rowsIn_18 : decode cX12_rowsIn 18 = .ok (.ifCond .eq 7, 3) := by decide +kernel
theorem dX12_rowsIn_21 : decode cX12_rowsIn 21 = .ok (.iconst 0, 1) := by decide +kernel
theorem dX12_rowsIn_22 : decode cX12_rowsIn 22 = .ok (.goto 9, 3) := by decide +kernel
theorem dX12_rowsIn_25 : decode cX12_rowsIn 25 = .ok (.aload_n 0, 1) := by decide +kernel
theorem dX12_rowsIn_26 : decode cX12_rowsIn 26 = .ok (.iload_n 1, 1) := by decide +kernel
theorem dX12_rowsIn_27 : decode cX12_rowsIn 27 = .ok (.iload_n 2, 1) := by decide +kernel
theorem dX12_rowsIn_28 : decode cX12_rowsIn 28 = .ok (.invokevirtual 206, 3) := by decide +kernel
theorem dX12_rowsIn_31 : decode cX12_rowsIn 31 = .ok (.ireturn, 1) := by decide +kernel
theorem dX12_rows_0 : decode cX12_rows 0 = .ok (.aload_n 0, 1) := by decide +kernel
theorem dX12_rows_1 : decode cX12_rows 1 = .ok (.iload_n 1, 1) := by decide +kernel
theorem dX12_rows_2 : decode cX12_rows 2 = .ok (.invokevirtual 199, 3) := by decide +kernel
theorem dX12_rows_5 : decode cX12_rows 5 = .ok (.ifCond .eq 7, 3) := by decide +kernel
theorem dX12_rows_8 : decode cX12_rows 8 = .ok (.iconst 0, 1) := by decide +kernel
theorem dX12_rows_9 : decode cX12_rows 9 = .ok (.goto 8, 3) := by decide +kernel
theorem dX12_rows_12 : decode cX12_rows 12 = .ok (.aload_n 0, 1) := by decide +kernel
theorem dX12_rows_13 : decode cX12_rows 13 = .ok (.iload_n 1, 1) := by decide +kernel
theorem dX12_rows_14 : decode cX12_rows 14 = .ok (.invokevirtual 152, 3) := by decide +kernel
theorem dX12_rows_17 : decode cX12_rows 17 = .ok (.ireturn, 1) := by decide +kernel
theorem dX12_ofRow_0 : decode cX12_ofRow 0 = .ok (.aload_n 0, 1) := by decide +kernel
theorem dX12_ofRow_1 : decode cX12_ofRow 1 = .ok (.iload_n 2, 1) := by decide +kernel
theorem dX12_ofRow_2 : decode cX12_ofRow 2 = .ok (.iload_n 3, 1) := by decide +kernel
theorem dX12_ofRow_3 : decode cX12_ofRow 3 = .ok (.invokevirtual 202, 3) := by decide +kernel
theorem dX12_ofRow_6 : decode cX12_ofRow 6 = .ok (.ifCond .eq 23, 3) := by decide +kernel
theorem dX12_ofRow_9 : decode cX12_ofRow 9 = .ok (.iload 4, 2) := by decide +kernel
theorem dX12_ofRow_11 : decode cX12_ofRow 11 = .ok (.ifCond .lt 18, 3) := by decide +kernel
theorem dX12_ofRow_14 : decode cX12_ofRow 14 = .ok (.iload 4, 2) := by decide +kernel
theorem dX12_ofRow_16 : decode cX12_ofRow 16 = .ok (.aload_n 0, 1) := by decide +kernel
theorem dX12_ofRow_17 : decode cX12_ofRow 17 = .ok (.iload_n 2, 1) := by decide +kernel
theorem dX12_ofRow_18 : decode cX12_ofRow 18 = .ok (.iload_n 3, 1) := by decide +kernel
theorem dX12_ofRow_19 : decode cX12_ofRow 19 = .ok (.invokevirtual 206, 3) := by decide +kernel
theorem dX12_ofRow_22 : decode cX12_ofRow 22 = .ok (.if_icmp .ge 7, 3) := by decide +kernel
theorem dX12_ofRow_25 : decode cX12_ofRow 25 = .ok (.iconst 1, 1) := by decide +kernel
theorem dX12_ofRow_26 : decode cX12_ofRow 26 = .ok (.goto 4, 3) := by decide +kernel
theorem dX12_ofRow_29 : decode cX12_ofRow 29 = .ok (.iconst 0, 1) := by decide +kernel
theorem dX12_ofRow_30 : decode cX12_ofRow 30 = .ok (.istore 5, 2) := by decide +kernel
theorem dX12_ofRow_32 : decode cX12_ofRow 32 = .ok (.aload_n 0, 1) := by decide +kernel
theorem dX12_ofRow_33 : decode cX12_ofRow 33 = .ok (.iload 5, 2) := by decide +kernel
theorem dX12_ofRow_35 : decode cX12_ofRow 35 = .ok (.ifCond .eq 7, 3) := by decide +kernel
theorem dX12_ofRow_38 : decode cX12_ofRow 38 = .ok (.iconst 0, 1) := by decide +kernel
theorem dX12_ofRow_39 : decode cX12_ofRow 39 = .ok (.goto 4, 3) := by decide +kernel
theorem dX12_ofRow_42 : decode cX12_ofRow 42 = .ok (.iconst 1, 1) := by decide +kernel
theorem dX12_ofRow_43 : decode cX12_ofRow 43 = .ok (.invokevirtual 130, 3) := by decide +kernel
theorem dX12_ofRow_46 : decode cX12_ofRow 46 = .ok (.ifCond .eq 7, 3) := by decide +kernel
theorem dX12_ofRow_49 : decode cX12_ofRow 49 = .ok (.iconst 0, 1) := by decide +kernel
theorem dX12_ofRow_50 : decode cX12_ofRow 50 = .ok (.goto 20, 3) := by decide +kernel
theorem dX12_ofRow_53 : decode cX12_ofRow 53 = .ok (.aload_n 1, 1) := by decide +kernel
theorem dX12_ofRow_54 : decode cX12_ofRow 54 = .ok (.sipush 300, 3) := by decide +kernel
theorem dX12_ofRow_57 : decode cX12_ofRow 57 = .ok (.iload_n 2, 1) := by decide +kernel
theorem dX12_ofRow_58 : decode cX12_ofRow 58 = .ok (.imul, 1) := by decide +kernel
theorem dX12_ofRow_59 : decode cX12_ofRow 59 = .ok (.aload_n 0, 1) := by decide +kernel
theorem dX12_ofRow_60 : decode cX12_ofRow 60 = .ok (.iload_n 2, 1) := by decide +kernel
theorem dX12_ofRow_61 : decode cX12_ofRow 61 = .ok (.iload_n 3, 1) := by decide +kernel
theorem dX12_ofRow_62 : decode cX12_ofRow 62 = .ok (.invokevirtual 148, 3) := by decide +kernel
theorem dX12_ofRow_65 : decode cX12_ofRow 65 = .ok (.iadd, 1) := by decide +kernel
theorem dX12_ofRow_66 : decode cX12_ofRow 66 = .ok (.iload 4, 2) := by decide +kernel
theorem dX12_ofRow_68 : decode cX12_ofRow 68 = .ok (.iadd, 1) := by decide +kernel
theorem dX12_ofRow_69 : decode cX12_ofRow 69 = .ok (.iaload, 1) := by decide +kernel
theorem dX12_ofRow_70 : decode cX12_ofRow 70 = .ok (.ireturn, 1) := by decide +kernel
theorem dX12_keyAt_0 : decode cX12_keyAt 0 = .ok (.aload_n 0, 1) := by decide +kernel
theorem dX12_keyAt_1 : decode cX12_keyAt 1 = .ok (.aload_n 0, 1) := by decide +kernel
theorem dX12_keyAt_2 : decode cX12_keyAt 2 = .ok (.getfield 52, 3) := by decide +kernel
theorem dX12_keyAt_5 : decode cX12_keyAt 5 = .ok (.iload_n 1, 1) := by decide +kernel
theorem dX12_keyAt_6 : decode cX12_keyAt 6 = .ok (.iload_n 2, 1) := by decide +kernel
theorem dX12_keyAt_7 : decode cX12_keyAt 7 = .ok (.iload_n 3, 1) := by decide +kernel
theorem dX12_keyAt_8 : decode cX12_keyAt 8 = .ok (.invokevirtual 209, 3) := by decide +kernel
theorem dX12_keyAt_11 : decode cX12_keyAt 11 = .ok (.ireturn, 1) := by decide +kernel
theorem dX12_valueAt_0 : decode cX12_valueAt 0 = .ok (.aload_n 0, 1) := by decide +kernel
theorem dX12_valueAt_1 : decode cX12_valueAt 1 = .ok (.aload_n 0, 1) := by decide +kernel
theorem dX12_valueAt_2 : decode cX12_valueAt 2 = .ok (.getfield 55, 3) := by decide +kernel
theorem dX12_valueAt_5 : decode cX12_valueAt 5 = .ok (.iload_n 1, 1) := by decide +kernel
theorem dX12_valueAt_6 : decode cX12_valueAt 6 = .ok (.iload_n 2, 1) := by decide +kernel
theorem dX12_valueAt_7 : decode cX12_valueAt 7 = .ok (.iload_n 3, 1) := by decide +kernel
theorem dX12_valueAt_8 : decode cX12_valueAt 8 = .ok (.invokevirtual 209, 3) := by decide +kernel
theorem dX12_valueAt_11 : decode cX12_valueAt 11 = .ok (.ireturn, 1) := by decide +kernel
theorem dX12_isBroad_0 : decode cX12_isBroad 0 = .ok (.aload_n 0, 1) := by decide +kernel
theorem dX12_isBroad_1 : decode cX12_isBroad 1 = .ok (.invokevirtual 196, 3) := by decide +kernel
theorem dX12_isBroad_4 : decode cX12_isBroad 4 = .ok (.aload_n 0, 1) := by decide +kernel
theorem dX12_isBroad_5 : decode cX12_isBroad 5 = .ok (.aload_n 0, 1) := by decide +kernel
theorem dX12_isBroad_6 : decode cX12_isBroad 6 = .ok (.iload_n 1, 1) := by decide +kernel
theorem dX12_isBroad_7 : decode cX12_isBroad 7 = .ok (.invokevirtual 138, 3) := by decide +kernel
theorem dX12_isBroad_10 : decode cX12_isBroad 10 = .ok (.ifCond .ne 7, 3) := by decide +kernel
theorem dX12_isBroad_13 : decode cX12_isBroad 13 = .ok (.iconst 1, 1) := by decide +kernel
theorem dX12_isBroad_14 : decode cX12_isBroad 14 = .ok (.goto 18, 3) := by decide +kernel
theorem dX12_isBroad_17 : decode cX12_isBroad 17 = .ok (.aload_n 0, 1) := by decide +kernel
theorem dX12_isBroad_18 : decode cX12_isBroad 18 = .ok (.getfield 7, 3) := by decide +kernel
theorem dX12_isBroad_21 : decode cX12_isBroad 21 = .ok (.iload_n 1, 1) := by decide +kernel
theorem dX12_isBroad_22 : decode cX12_isBroad 22 = .ok (.iaload, 1) := by decide +kernel
theorem dX12_isBroad_23 : decode cX12_isBroad 23 = .ok (.iconst 5, 1) := by decide +kernel
theorem dX12_isBroad_24 : decode cX12_isBroad 24 = .ok (.if_icmp .ne 7, 3) := by decide +kernel
theorem dX12_isBroad_27 : decode cX12_isBroad 27 = .ok (.iconst 0, 1) := by decide +kernel
theorem dX12_isBroad_28 : decode cX12_isBroad 28 = .ok (.goto 4, 3) := by decide +kernel
theorem dX12_isBroad_31 : decode cX12_isBroad 31 = .ok (.iconst 2, 1) := by decide +kernel
theorem dX12_isBroad_32 : decode cX12_isBroad 32 = .ok (.invokevirtual 130, 3) := by decide +kernel
theorem dX12_isBroad_35 : decode cX12_isBroad 35 = .ok (.ifCond .ne 15, 3) := by decide +kernel
theorem dX12_isBroad_38 : decode cX12_isBroad 38 = .ok (.aload_n 0, 1) := by decide +kernel
theorem dX12_isBroad_39 : decode cX12_isBroad 39 = .ok (.iload_n 1, 1) := by decide +kernel
theorem dX12_isBroad_40 : decode cX12_isBroad 40 = .ok (.invokevirtual 187, 3) := by decide +kernel
theorem dX12_isBroad_43 : decode cX12_isBroad 43 = .ok (.ifCond .eq 7, 3) := by decide +kernel
theorem dX12_isBroad_46 : decode cX12_isBroad 46 = .ok (.iconst 1, 1) := by decide +kernel
theorem dX12_isBroad_47 : decode cX12_isBroad 47 = .ok (.goto 4, 3) := by decide +kernel
theorem dX12_isBroad_50 : decode cX12_isBroad 50 = .ok (.iconst 0, 1) := by decide +kernel
theorem dX12_isBroad_51 : decode cX12_isBroad 51 = .ok (.ireturn, 1) := by decide +kernel
theorem dX12_digests_0 : decode cX12_digests 0 = .ok (.iconst 0, 1) := by decide +kernel
theorem dX12_digests_1 : decode cX12_digests 1 = .ok (.istore_n 2, 1) := by decide +kernel
theorem dX12_digests_2 : decode cX12_digests 2 = .ok (.sipush 300, 3) := by decide +kernel
theorem dX12_digests_5 : decode cX12_digests 5 = .ok (.iload_n 1, 1) := by decide +kernel
theorem dX12_digests_6 : decode cX12_digests 6 = .ok (.imul, 1) := by decide +kernel
theorem dX12_digests_7 : decode cX12_digests 7 = .ok (.istore_n 3, 1) := by decide +kernel
theorem dX12_digests_8 : decode cX12_digests 8 = .ok (.iload_n 3, 1) := by decide +kernel
theorem dX12_digests_9 : decode cX12_digests 9 = .ok (.sipush 300, 3) := by decide +kernel
theorem dX12_digests_12 : decode cX12_digests 12 = .ok (.iload_n 1, 1) := by decide +kernel
theorem dX12_digests_13 : decode cX12_digests 13 = .ok (.imul, 1) := by decide +kernel
theorem dX12_digests_14 : decode cX12_digests 14 = .ok (.aload_n 0, 1) := by decide +kernel
theorem dX12_digests_15 : decode cX12_digests 15 = .ok (.iload_n 1, 1) := by decide +kernel
theorem dX12_digests_16 : decode cX12_digests 16 = .ok (.invokevirtual 152, 3) := by decide +kernel
theorem dX12_digests_19 : decode cX12_digests 19 = .ok (.iadd, 1) := by decide +kernel
theorem dX12_digests_20 : decode cX12_digests 20 = .ok (.if_icmp .ge 35, 3) := by decide +kernel
theorem dX12_digests_23 : decode cX12_digests 23 = .ok (.bipush 31, 2) := by decide +kernel
theorem dX12_digests_25 : decode cX12_digests 25 = .ok (.aload_n 0, 1) := by decide +kernel
theorem dX12_digests_26 : decode cX12_digests 26 = .ok (.getfield 52, 3) := by decide +kernel
theorem dX12_digests_29 : decode cX12_digests 29 = .ok (.iload_n 3, 1) := by decide +kernel
theorem dX12_digests_30 : decode cX12_digests 30 = .ok (.iaload, 1) := by decide +kernel
theorem dX12_digests_31 : decode cX12_digests 31 = .ok (.imul, 1) := by decide +kernel
theorem dX12_digests_32 : decode cX12_digests 32 = .ok (.aload_n 0, 1) := by decide +kernel
theorem dX12_digests_33 : decode cX12_digests 33 = .ok (.getfield 55, 3) := by decide +kernel
theorem dX12_digests_36 : decode cX12_digests 36 = .ok (.iload_n 3, 1) := by decide +kernel
theorem dX12_digests_37 : decode cX12_digests 37 = .ok (.iaload, 1) := by decide +kernel
theorem dX12_digests_38 : decode cX12_digests 38 = .ok (.iadd, 1) := by decide +kernel
theorem dX12_digests_39 : decode cX12_digests 39 = .ok (.istore 4, 2) := by decide +kernel
theorem dX12_digests_41 : decode cX12_digests 41 = .ok (.iload_n 2, 1) := by decide +kernel
theorem dX12_digests_42 : decode cX12_digests 42 = .ok (.iload 4, 2) := by decide +kernel
theorem dX12_digests_44 : decode cX12_digests 44 = .ok (.iload 4, 2) := by decide +kernel
theorem dX12_digests_46 : decode cX12_digests 46 = .ok (.imul, 1) := by decide +kernel
theorem dX12_digests_47 : decode cX12_digests 47 = .ok (.iadd, 1) := by decide +kernel
theorem dX12_digests_48 : decode cX12_digests 48 = .ok (.istore_n 2, 1) := by decide +kernel
theorem dX12_digests_49 : decode cX12_digests 49 = .ok (.iinc 3 1, 3) := by decide +kernel
theorem dX12_digests_52 : decode cX12_digests 52 = .ok (.goto (-44), 3) := by decide +kernel
theorem dX12_digests_55 : decode cX12_digests 55 = .ok (.iload_n 2, 1) := by decide +kernel
theorem dX12_digests_56 : decode cX12_digests 56 = .ok (.ireturn, 1) := by decide +kernel
theorem dX12_digest_0 : decode cX12_digest 0 = .ok (.aload_n 0, 1) := by decide +kernel
theorem dX12_digest_1 : decode cX12_digest 1 = .ok (.iload_n 1, 1) := by decide +kernel
theorem dX12_digest_2 : decode cX12_digest 2 = .ok (.invokevirtual 199, 3) := by decide +kernel
theorem dX12_digest_5 : decode cX12_digest 5 = .ok (.ifCond .eq 7, 3) := by decide +kernel
theorem dX12_digest_8 : decode cX12_digest 8 = .ok (.iconst 0, 1) := by decide +kernel
theorem dX12_digest_9 : decode cX12_digest 9 = .ok (.goto 8, 3) := by decide +kernel
theorem dX12_digest_12 : decode cX12_digest 12 = .ok (.aload_n 0, 1) := by decide +kernel
theorem dX12_digest_13 : decode cX12_digest 13 = .ok (.iload_n 1, 1) := by decide +kernel
theorem dX12_digest_14 : decode cX12_digest 14 = .ok (.invokevirtual 213, 3) := by decide +kernel
theorem dX12_digest_17 : decode cX12_digest 17 = .ok (.ireturn, 1) := by decide +kernel
theorem dX12_digestInPlace_0 : decode cX12_digestInPlace 0 = .ok (.aload_n 0, 1) := by decide +kernel
theorem dX12_digestInPlace_1 : decode cX12_digestInPlace 1 = .ok (.iload_n 1, 1) := by decide +kernel
theorem dX12_digestInPlace_2 : decode cX12_digestInPlace 2 = .ok (.invokevirtual 199, 3) := by decide +kernel
theorem dX12_digestInPlace_5 : decode cX12_digestInPlace 5 = .ok (.ifCond .eq 7, 3) := by decide +kernel
theorem dX12_digestInPlace_8 : decode cX12_digestInPlace 8 = .ok (.iconst 0, 1) := by decide +kernel
theorem dX12_digestInPlace_9 : decode cX12_digestInPlace 9 = .ok (.goto 8, 3) := by decide +kernel
theorem dX12_digestInPlace_12 : decode cX12_digestInPlace 12 = .ok (.aload_n 0, 1) := by decide +kernel
theorem dX12_digestInPlace_13 : decode cX12_digestInPlace 13 = .ok (.iload_n 1, 1) := by decide +kernel
theorem dX12_digestInPlace_14 : decode cX12_digestInPlace 14 = .ok (.invokevirtual 213, 3) := by decide +kernel
theorem dX12_digestInPlace_17 : decode cX12_digestInPlace 17 = .ok (.ireturn, 1) := by decide +kernel
theorem dX12_setWorkers_0 : decode cX12_setWorkers 0 = .ok (.aload_n 0, 1) := by decide +kernel
theorem dX12_setWorkers_1 : decode cX12_setWorkers 1 = .ok (.iload_n 1, 1) := by decide +kernel
theorem dX12_setWorkers_2 : decode cX12_setWorkers 2 = .ok (.iconst 1, 1) := by decide +kernel
theorem dX12_setWorkers_3 : decode cX12_setWorkers 3 = .ok (.if_icmp .lt 8, 3) := by decide +kernel
theorem dX12_setWorkers_6 : decode cX12_setWorkers 6 = .ok (.iload_n 1, 1) := by decide +kernel
theorem dX12_setWorkers_7 : decode cX12_setWorkers 7 = .ok (.iconst 4, 1) := by decide +kernel
theorem dX12_setWorkers_8 : decode cX12_setWorkers 8 = .ok (.if_icmp .le 7, 3) := by decide +kernel
theorem dX12_setWorkers_11 : decode cX12_setWorkers 11 = .ok (.iconst 1, 1) := by decide +kernel
theorem dX12_setWorkers_12 : decode cX12_setWorkers 12 = .ok (.goto 4, 3) := by decide +kernel
theorem dX12_setWorkers_15 : decode cX12_setWorkers 15 = .ok (.iconst 0, 1) := by decide +kernel
theorem dX12_setWorkers_16 : decode cX12_setWorkers 16 = .ok (.invokevirtual 130, 3) := by decide +kernel
theorem dX12_setWorkers_19 : decode cX12_setWorkers 19 = .ok (.ifCond .eq 5, 3) := by decide +kernel
theorem dX12_setWorkers_22 : decode cX12_setWorkers 22 = .ok (.iconst 0, 1) := by decide +kernel
theorem dX12_setWorkers_23 : decode cX12_setWorkers 23 = .ok (.ireturn, 1) := by decide +kernel
theorem dX12_setWorkers_24 : decode cX12_setWorkers 24 = .ok (.aload_n 0, 1) := by decide +kernel
theorem dX12_setWorkers_25 : decode cX12_setWorkers 25 = .ok (.getfield 65, 3) := by decide +kernel
theorem dX12_setWorkers_28 : decode cX12_setWorkers 28 = .ok (.istore_n 2, 1) := by decide +kernel
theorem dX12_setWorkers_29 : decode cX12_setWorkers 29 = .ok (.aload_n 0, 1) := by decide +kernel
theorem dX12_setWorkers_30 : decode cX12_setWorkers 30 = .ok (.iload_n 1, 1) := by decide +kernel
theorem dX12_setWorkers_31 : decode cX12_setWorkers 31 = .ok (.putfield 65, 3) := by decide +kernel
theorem dX12_setWorkers_34 : decode cX12_setWorkers 34 = .ok (.iload_n 2, 1) := by decide +kernel
theorem dX12_setWorkers_35 : decode cX12_setWorkers 35 = .ok (.ireturn, 1) := by decide +kernel
theorem dX12_setSlowness_0 : decode cX12_setSlowness 0 = .ok (.aload_n 0, 1) := by decide +kernel
theorem dX12_setSlowness_1 : decode cX12_setSlowness 1 = .ok (.iload_n 1, 1) := by decide +kernel
theorem dX12_setSlowness_2 : decode cX12_setSlowness 2 = .ok (.ifCond .lt 8, 3) := by decide +kernel
theorem dX12_setSlowness_5 : decode cX12_setSlowness 5 = .ok (.iload_n 1, 1) := by decide +kernel
theorem dX12_setSlowness_6 : decode cX12_setSlowness 6 = .ok (.iconst 4, 1) := by decide +kernel
theorem dX12_setSlowness_7 : decode cX12_setSlowness 7 = .ok (.if_icmp .lt 7, 3) := by decide +kernel
theorem dX12_setSlowness_10 : decode cX12_setSlowness 10 = .ok (.iconst 1, 1) := by decide +kernel
theorem dX12_setSlowness_11 : decode cX12_setSlowness 11 = .ok (.goto 19, 3) := by decide +kernel
theorem dX12_setSlowness_14 : decode cX12_setSlowness 14 = .ok (.iload_n 2, 1) := by decide +kernel
theorem dX12_setSlowness_15 : decode cX12_setSlowness 15 = .ok (.iconst 1, 1) := by decide +kernel
theorem dX12_setSlowness_16 : decode cX12_setSlowness 16 = .ok (.if_icmp .lt 9, 3) := by decide +kernel
theorem dX12_setSlowness_19 : decode cX12_setSlowness 19 = .ok (.iload_n 2, 1) := by decide +kernel
theorem dX12_setSlowness_20 : decode cX12_setSlowness 20 = .ok (.bipush 9, 2) := by decide +kernel
theorem dX12_setSlowness_22 : decode cX12_setSlowness 22 = .ok (.if_icmp .le 7, 3) := by decide +kernel
theorem dX12_setSlowness_25 : decode cX12_setSlowness 25 = .ok (.iconst 2, 1) := by decide +kernel
theorem dX12_setSlowness_26 : decode cX12_setSlowness 26 = .ok (.goto 4, 3) := by decide +kernel
theorem dX12_setSlowness_29 : decode cX12_setSlowness 29 = .ok (.iconst 0, 1) := by decide +kernel
theorem dX12_setSlowness_30 : decode cX12_setSlowness 30 = .ok (.invokevirtual 130, 3) := by decide +kernel
theorem dX12_setSlowness_33 : decode cX12_setSlowness 33 = .ok (.ifCond .eq 5, 3) := by decide +kernel
theorem dX12_setSlowness_36 : decode cX12_setSlowness 36 = .ok (.iconst 0, 1) := by decide +kernel
theorem dX12_setSlowness_37 : decode cX12_setSlowness 37 = .ok (.ireturn, 1) := by decide +kernel
theorem dX12_setSlowness_38 : decode cX12_setSlowness 38 = .ok (.aload_n 0, 1) := by decide +kernel
theorem dX12_setSlowness_39 : decode cX12_setSlowness 39 = .ok (.getfield 68, 3) := by decide +kernel
theorem dX12_setSlowness_42 : decode cX12_setSlowness 42 = .ok (.iload_n 1, 1) := by decide +kernel
theorem dX12_setSlowness_43 : decode cX12_setSlowness 43 = .ok (.iaload, 1) := by decide +kernel
theorem dX12_setSlowness_44 : decode cX12_setSlowness 44 = .ok (.istore_n 3, 1) := by decide +kernel
theorem dX12_setSlowness_45 : decode cX12_setSlowness 45 = .ok (.aload_n 0, 1) := by decide +kernel
theorem dX12_setSlowness_46 : decode cX12_setSlowness 46 = .ok (.getfield 68, 3) := by decide +kernel
theorem dX12_setSlowness_49 : decode cX12_setSlowness 49 = .ok (.iload_n 1, 1) := by decide +kernel
theorem dX12_setSlowness_50 : decode cX12_setSlowness 50 = .ok (.iload_n 2, 1) := by decide +kernel
theorem dX12_setSlowness_51 : decode cX12_setSlowness 51 = .ok (.iastore, 1) := by decide +kernel
theorem dX12_setSlowness_52 : decode cX12_setSlowness 52 = .ok (.iload_n 3, 1) := by decide +kernel
theorem dX12_setSlowness_53 : decode cX12_setSlowness 53 = .ok (.ireturn, 1) := by decide +kernel
theorem dX12_setMemory_0 : decode cX12_setMemory 0 = .ok (.aload_n 0, 1) := by decide +kernel
theorem dX12_setMemory_1 : decode cX12_setMemory 1 = .ok (.iload_n 1, 1) := by decide +kernel
theorem dX12_setMemory_2 : decode cX12_setMemory 2 = .ok (.ifCond .lt 10, 3) := by decide +kernel
theorem dX12_setMemory_5 : decode cX12_setMemory 5 = .ok (.iload_n 1, 1) := by decide +kernel
theorem dX12_setMemory_6 : decode cX12_setMemory 6 = .ok (.sipush 1000, 3) := by decide +kernel
theorem dX12_setMemory_9 : decode cX12_setMemory 9 = .ok (.if_icmp .le 7, 3) := by decide +kernel
theorem dX12_setMemory_12 : decode cX12_setMemory 12 = .ok (.iconst 1, 1) := by decide +kernel
theorem dX12_setMemory_13 : decode cX12_setMemory 13 = .ok (.goto 4, 3) := by decide +kernel
theorem dX12_setMemory_16 : decode cX12_setMemory 16 = .ok (.iconst 0, 1) := by decide +kernel
theorem dX12_setMemory_17 : decode cX12_setMemory 17 = .ok (.invokevirtual 130, 3) := by decide +kernel
theorem dX12_setMemory_20 : decode cX12_setMemory 20 = .ok (.ifCond .eq 5, 3) := by decide +kernel
theorem dX12_setMemory_23 : decode cX12_setMemory 23 = .ok (.iconst 0, 1) := by decide +kernel
theorem dX12_setMemory_24 : decode cX12_setMemory 24 = .ok (.ireturn, 1) := by decide +kernel
theorem dX12_setMemory_25 : decode cX12_setMemory 25 = .ok (.aload_n 0, 1) := by decide +kernel
theorem dX12_setMemory_26 : decode cX12_setMemory 26 = .ok (.getfield 62, 3) := by decide +kernel
theorem dX12_setMemory_29 : decode cX12_setMemory 29 = .ok (.istore_n 2, 1) := by decide +kernel
theorem dX12_setMemory_30 : decode cX12_setMemory 30 = .ok (.aload_n 0, 1) := by decide +kernel
theorem dX12_setMemory_31 : decode cX12_setMemory 31 = .ok (.iload_n 1, 1) := by decide +kernel
theorem dX12_setMemory_32 : decode cX12_setMemory 32 = .ok (.putfield 62, 3) := by decide +kernel
theorem dX12_setMemory_35 : decode cX12_setMemory 35 = .ok (.iload_n 2, 1) := by decide +kernel
theorem dX12_setMemory_36 : decode cX12_setMemory 36 = .ok (.ireturn, 1) := by decide +kernel
theorem dX12_setLimit_0 : decode cX12_setLimit 0 = .ok (.aload_n 0, 1) := by decide +kernel
theorem dX12_setLimit_1 : decode cX12_setLimit 1 = .ok (.iload_n 1, 1) := by decide +kernel
theorem dX12_setLimit_2 : decode cX12_setLimit 2 = .ok (.ifCond .lt 10, 3) := by decide +kernel
theorem dX12_setLimit_5 : decode cX12_setLimit 5 = .ok (.iload_n 1, 1) := by decide +kernel
theorem dX12_setLimit_6 : decode cX12_setLimit 6 = .ok (.sipush 1000, 3) := by decide +kernel
theorem dX12_setLimit_9 : decode cX12_setLimit 9 = .ok (.if_icmp .le 7, 3) := by decide +kernel
theorem dX12_setLimit_12 : decode cX12_setLimit 12 = .ok (.iconst 1, 1) := by decide +kernel
theorem dX12_setLimit_13 : decode cX12_setLimit 13 = .ok (.goto 4, 3) := by decide +kernel
theorem dX12_setLimit_16 : decode cX12_setLimit 16 = .ok (.iconst 0, 1) := by decide +kernel
theorem dX12_setLimit_17 : decode cX12_setLimit 17 = .ok (.invokevirtual 130, 3) := by decide +kernel
theorem dX12_setLimit_20 : decode cX12_setLimit 20 = .ok (.ifCond .eq 5, 3) := by decide +kernel
theorem dX12_setLimit_23 : decode cX12_setLimit 23 = .ok (.iconst 0, 1) := by decide +kernel
theorem dX12_setLimit_24 : decode cX12_setLimit 24 = .ok (.ireturn, 1) := by decide +kernel
theorem dX12_setLimit_25 : decode cX12_setLimit 25 = .ok (.aload_n 0, 1) := by decide +kernel
theorem dX12_setLimit_26 : decode cX12_setLimit 26 = .ok (.getfield 58, 3) := by decide +kernel
theorem dX12_setLimit_29 : decode cX12_setLimit 29 = .ok (.istore_n 2, 1) := by decide +kernel
theorem dX12_setLimit_30 : decode cX12_setLimit 30 = .ok (.aload_n 0, 1) := by decide +kernel
theorem dX12_setLimit_31 : decode cX12_setLimit 31 = .ok (.iload_n 1, 1) := by decide +kernel
theorem dX12_setLimit_32 : decode cX12_setLimit 32 = .ok (.putfield 58, 3) := by decide +kernel
theorem dX12_setLimit_35 : decode cX12_setLimit 35 = .ok (.aload_n 0, 1) := by decide +kernel
theorem dX12_setLimit_36 : decode cX12_setLimit 36 = .ok (.invokevirtual 141, 3) := by decide +kernel
theorem dX12_setLimit_39 : decode cX12_setLimit 39 = .ok (.iload_n 2, 1) := by decide +kernel
theorem dX12_setLimit_40 : decode cX12_setLimit 40 = .ok (.ireturn, 1) := by decide +kernel
theorem dX12_cached_0 : decode cX12_cached 0 = .ok (.iconst 0, 1) := by decide +kernel
theorem dX12_cached_1 : decode cX12_cached 1 = .ok (.istore_n 1, 1) := by decide +kernel
theorem dX12_cached_2 : decode cX12_cached 2 = .ok (.iconst 0, 1) := by decide +kernel
theorem dX12_cached_3 : decode cX12_cached 3 = .ok (.istore_n 2, 1) := by decide +kernel
theorem dX12_cached_4 : decode cX12_cached 4 = .ok (.iload_n 2, 1) := by decide +kernel
theorem dX12_cached_5 : decode cX12_cached 5 = .ok (.aload_n 0, 1) := by decide +kernel
theorem dX12_cached_6 : decode cX12_cached 6 = .ok (.getfield 123, 3) := by decide +kernel
theorem dX12_cached_9 : decode cX12_cached 9 = .ok (.if_icmp .ge 30, 3) := by decide +kernel
theorem dX12_cached_12 : decode cX12_cached 12 = .ok (.iload_n 1, 1) := by decide +kernel
theorem dX12_cached_13 : decode cX12_cached 13 = .ok (.aload_n 0, 1) := by decide +kernel
theorem dX12_cached_14 : decode cX12_cached 14 = .ok (.getfield 75, 3) := by decide +kernel
theorem dX12_cached_17 : decode cX12_cached 17 = .ok (.iload_n 2, 1) := by decide +kernel
theorem dX12_cached_18 : decode cX12_cached 18 = .ok (.baload, 1) := by decide +kernel
theorem dX12_cached_19 : decode cX12_cached 19 = .ok (.ifCond .eq 11, 3) := by decide +kernel
theorem dX12_cached_22 : decode cX12_cached 22 = .ok (.aload_n 0, 1) := by decide +kernel
theorem dX12_cached_23 : decode cX12_cached 23 = .ok (.iload_n 2, 1) := by decide +kernel
theorem dX12_cached_24 : decode cX12_cached 24 = .ok (.invokevirtual 152, 3) := by decide +kernel
theorem dX12_cached_27 : decode cX12_cached 27 = .ok (.goto 4, 3) := by decide +kernel
theorem dX12_cached_30 : decode cX12_cached 30 = .ok (.iconst 0, 1) := by decide +kernel
theorem dX12_cached_31 : decode cX12_cached 31 = .ok (.iadd, 1) := by decide +kernel
theorem dX12_cached_32 : decode cX12_cached 32 = .ok (.istore_n 1, 1) := by decide +kernel
theorem dX12_cached_33 : decode cX12_cached 33 = .ok (.iinc 2 1, 3) := by decide +kernel
theorem dX12_cached_36 : decode cX12_cached 36 = .ok (.goto (-32), 3) := by decide +kernel
theorem dX12_cached_39 : decode cX12_cached 39 = .ok (.iload_n 1, 1) := by decide +kernel
theorem dX12_cached_40 : decode cX12_cached 40 = .ok (.ireturn, 1) := by decide +kernel
theorem dX12_leaves_0 : decode cX12_leaves 0 = .ok (.iconst 0, 1) := by decide +kernel
theorem dX12_leaves_1 : decode cX12_leaves 1 = .ok (.istore_n 2, 1) := by decide +kernel
theorem dX12_leaves_2 : decode cX12_leaves 2 = .ok (.aload_n 0, 1) := by decide +kernel
theorem dX12_leaves_3 : decode cX12_leaves 3 = .ok (.invokevirtual 216, 3) := by decide +kernel
theorem dX12_leaves_6 : decode cX12_leaves 6 = .ok (.iload_n 1, 1) := by decide +kernel
theorem dX12_leaves_7 : decode cX12_leaves 7 = .ok (.iadd, 1) := by decide +kernel
theorem dX12_leaves_8 : decode cX12_leaves 8 = .ok (.aload_n 0, 1) := by decide +kernel
theorem dX12_leaves_9 : decode cX12_leaves 9 = .ok (.getfield 220, 3) := by decide +kernel
theorem dX12_leaves_12 : decode cX12_leaves 12 = .ok (.if_icmp .le 74, 3) := by decide +kernel
theorem dX12_leaves_15 : decode cX12_leaves 15 = .ok (.iconst (-1), 1) := by decide +kernel
theorem dX12_leaves_16 : decode cX12_leaves 16 = .ok (.istore_n 3, 1) := by decide +kernel
theorem dX12_leaves_17 : decode cX12_leaves 17 = .ok (.iconst 0, 1) := by decide +kernel
theorem dX12_leaves_18 : decode cX12_leaves 18 = .ok (.istore 4, 2) := by decide +kernel
theorem dX12_leaves_20 : decode cX12_leaves 20 = .ok (.iload 4, 2) := by decide +kernel
theorem dX12_leaves_22 : decode cX12_leaves 22 = .ok (.aload_n 0, 1) := by decide +kernel
theorem dX12_leaves_23 : decode cX12_leaves 23 = .ok (.getfield 123, 3) := by decide +kernel
theorem dX12_leaves_26 : decode cX12_leaves 26 = .ok (.if_icmp .ge 47, 3) := by decide +kernel
theorem dX12_leaves_29 : decode cX12_leaves 29 = .ok (.aload_n 0, 1) := by decide +kernel
theorem dX12_leaves_30 : decode cX12_leaves 30 = .ok (.getfield 75, 3) := by decide +kernel
theorem dX12_leaves_33 : decode cX12_leaves 33 = .ok (.iload 4, 2) := by decide +kernel
theorem dX12_leaves_35 : decode cX12_leaves 35 = .ok (.baload, 1) := by decide +kernel
theorem dX12_leaves_36 : decode cX12_leaves 36 = .ok (.ifCond .eq 29, 3) := by decide +kernel
theorem dX12_leaves_39 : decode cX12_leaves 39 = .ok (.iload_n 3, 1) := by decide +kernel
theorem dX12_leaves_40 : decode cX12_leaves 40 = .ok (.iconst (-1), 1) := by decide +kernel
theorem dX12_leaves_41 : decode cX12_leaves 41 = .ok (.if_icmp .eq 19, 3) := by decide +kernel
theorem dX12_leaves_44 : decode cX12_leaves 44 = .ok (.aload_n 0, 1) := by decide +kernel
theorem dX12_leaves_45 : decode cX12_leaves 45 = .ok (.getfield 78, 3) := by decide +kernel
theorem dX12_leaves_48 : decode cX12_leaves 48 = .ok (.iload 4, 2) := by decide +kernel
theorem dX12_leaves_50 : decode cX12_leaves 50 = .ok (.iaload, 1) := by decide +kernel
theorem dX12_leaves_51 : decode cX12_leaves 51 = .ok (.aload_n 0, 1) := by decide +kernel
theorem dX12_leaves_52 : decode cX12_leaves 52 = .ok (.getfield 78, 3) := by decide +kernel
theorem dX12_leaves_55 : decode cX12_leaves 55 = .ok (.iload_n 3, 1) := by decide +kernel
theorem dX12_leaves_56 : decode cX12_leaves 56 = .ok (.iaload, 1) := by decide +kernel
theorem dX12_leaves_57 : decode cX12_leaves 57 = .ok (.if_icmp .ge 8, 3) := by decide +kernel
theorem dX12_leaves_60 : decode cX12_leaves 60 = .ok (.iload 4, 2) := by decide +kernel
theorem dX12_leaves_62 : decode cX12_leaves 62 = .ok (.goto 4, 3) := by decide +kernel
theorem dX12_leaves_65 : decode cX12_leaves 65 = .ok (.iload_n 3, 1) := by decide +kernel
theorem dX12_leaves_66 : decode cX12_leaves 66 = .ok (.istore_n 3, 1) := by decide +kernel
theorem dX12_leaves_67 : decode cX12_leaves 67 = .ok (.iinc 4 1, 3) := by decide +kernel
theorem dX12_leaves_70 : decode cX12_leaves 70 = .ok (.goto (-50), 3) := by decide +kernel
theorem dX12_leaves_73 : decode cX12_leaves 73 = .ok (.aload_n 0, 1) := by decide +kernel
theorem dX12_leaves_74 : decode cX12_leaves 74 = .ok (.getfield 75, 3) := by decide +kernel
theorem dX12_leaves_77 : decode cX12_leaves 77 = .ok (.iload_n 3, 1) := by decide +kernel
theorem dX12_leaves_78 : decode cX12_leaves 78 = .ok (.iconst 0, 1) := by decide +kernel
theorem dX12_leaves_79 : decode cX12_leaves 79 = .ok (.bastore, 1) := by decide +kernel
theorem dX12_leaves_80 : decode cX12_leaves 80 = .ok (.iinc 2 1, 3) := by decide +kernel
theorem dX12_leaves_83 : decode cX12_leaves 83 = .ok (.goto (-81), 3) := by decide +kernel
theorem dX12_leaves_86 : decode cX12_leaves 86 = .ok (.iload_n 2, 1) := by decide +kernel
theorem dX12_leaves_87 : decode cX12_leaves 87 = .ok (.ireturn, 1) := by decide +kernel
theorem dX12_setRoom_0 : decode cX12_setRoom 0 = .ok (.aload_n 0, 1) := by decide +kernel
theorem dX12_setRoom_1 : decode cX12_setRoom 1 = .ok (.invokevirtual 196, 3) := by decide +kernel
theorem dX12_setRoom_4 : decode cX12_setRoom 4 = .ok (.aload_n 0, 1) := by decide +kernel
theorem dX12_setRoom_5 : decode cX12_setRoom 5 = .ok (.iload_n 1, 1) := by decide +kernel
theorem dX12_setRoom_6 : decode cX12_setRoom 6 = .ok (.ifCond .lt 10, 3) := by decide +kernel
theorem dX12_setRoom_9 : decode cX12_setRoom 9 = .ok (.iload_n 1, 1) := by decide +kernel
theorem dX12_setRoom_10 : decode cX12_setRoom 10 = .ok (.sipush 1000, 3) := by decide +kernel
theorem dX12_setRoom_13 : decode cX12_setRoom 13 = .ok (.if_icmp .le 7, 3) := by decide +kernel
theorem dX12_setRoom_16 : decode cX12_setRoom 16 = .ok (.iconst 1, 1) := by decide +kernel
theorem dX12_setRoom_17 : decode cX12_setRoom 17 = .ok (.goto 4, 3) := by decide +kernel
theorem dX12_setRoom_20 : decode cX12_setRoom 20 = .ok (.iconst 0, 1) := by decide +kernel
theorem dX12_setRoom_21 : decode cX12_setRoom 21 = .ok (.invokevirtual 130, 3) := by decide +kernel
theorem dX12_setRoom_24 : decode cX12_setRoom 24 = .ok (.ifCond .eq 5, 3) := by decide +kernel
theorem dX12_setRoom_27 : decode cX12_setRoom 27 = .ok (.iconst 0, 1) := by decide +kernel
theorem dX12_setRoom_28 : decode cX12_setRoom 28 = .ok (.ireturn, 1) := by decide +kernel
theorem dX12_setRoom_29 : decode cX12_setRoom 29 = .ok (.aload_n 0, 1) := by decide +kernel
theorem dX12_setRoom_30 : decode cX12_setRoom 30 = .ok (.iload_n 1, 1) := by decide +kernel
theorem dX12_setRoom_31 : decode cX12_setRoom 31 = .ok (.putfield 220, 3) := by decide +kernel
theorem dX12_setRoom_34 : decode cX12_setRoom 34 = .ok (.aload_n 0, 1) := by decide +kernel
theorem dX12_setRoom_35 : decode cX12_setRoom 35 = .ok (.iconst 0, 1) := by decide +kernel
theorem dX12_setRoom_36 : decode cX12_setRoom 36 = .ok (.invokevirtual 223, 3) := by decide +kernel
theorem dX12_setRoom_39 : decode cX12_setRoom 39 = .ok (.ireturn, 1) := by decide +kernel
theorem dX12_mark_0 : decode cX12_mark 0 = .ok (.aload_n 0, 1) := by decide +kernel
theorem dX12_mark_1 : decode cX12_mark 1 = .ok (.aload_n 0, 1) := by decide +kernel
theorem dX12_mark_2 : decode cX12_mark 2 = .ok (.iload_n 1, 1) := by decide +kernel
theorem dX12_mark_3 : decode cX12_mark 3 = .ok (.invokevirtual 138, 3) := by decide +kernel
theorem dX12_mark_6 : decode cX12_mark 6 = .ok (.ifCond .eq 7, 3) := by decide +kernel
theorem dX12_mark_9 : decode cX12_mark 9 = .ok (.iconst 0, 1) := by decide +kernel
theorem dX12_mark_10 : decode cX12_mark 10 = .ok (.goto 4, 3) := by decide +kernel
theorem dX12_mark_13 : decode cX12_mark 13 = .ok (.iconst 1, 1) := by decide +kernel
theorem dX12_mark_14 : decode cX12_mark 14 = .ok (.invokevirtual 130, 3) := by decide +kernel
theorem dX12_mark_17 : decode cX12_mark 17 = .ok (.ifCond .eq 5, 3) := by decide +kernel
theorem dX12_mark_20 : decode cX12_mark 20 = .ok (.iconst 0, 1) := by decide +kernel
theorem dX12_mark_21 : decode cX12_mark 21 = .ok (.ireturn, 1) := by decide +kernel
theorem dX12_mark_22 : decode cX12_mark 22 = .ok (.aload_n 0, 1) := by decide +kernel
theorem dX12_mark_23 : decode cX12_mark 23 = .ok (.getfield 71, 3) := by decide +kernel
theorem dX12_mark_26 : decode cX12_mark 26 = .ok (.iload_n 1, 1) := by decide +kernel
theorem dX12_mark_27 : decode cX12_mark 27 = .ok (.baload, 1) := by decide +kernel
theorem dX12_mark_28 : decode cX12_mark 28 = .ok (.istore_n 3, 1) := by decide +kernel
theorem dX12_mark_29 : decode cX12_mark 29 = .ok (.aload_n 0, 1) := by decide +kernel
theorem dX12_mark_30 : decode cX12_mark 30 = .ok (.getfield 71, 3) := by decide +kernel
theorem dX12_mark_33 : decode cX12_mark 33 = .ok (.iload_n 1, 1) := by decide +kernel
theorem dX12_mark_34 : decode cX12_mark 34 = .ok (.iload_n 2, 1) := by decide +kernel
theorem dX12_mark_35 : decode cX12_mark 35 = .ok (.bastore, 1) := by decide +kernel
theorem dX12_mark_36 : decode cX12_mark 36 = .ok (.iload_n 3, 1) := by decide +kernel
theorem dX12_mark_37 : decode cX12_mark 37 = .ok (.ireturn, 1) := by decide +kernel
theorem dX12_isCached_0 : decode cX12_isCached 0 = .ok (.aload_n 0, 1) := by decide +kernel
theorem dX12_isCached_1 : decode cX12_isCached 1 = .ok (.aload_n 0, 1) := by decide +kernel
theorem dX12_isCached_2 : decode cX12_isCached 2 = .ok (.iload_n 1, 1) := by decide +kernel
theorem dX12_isCached_3 : decode cX12_isCached 3 = .ok (.invokevirtual 138, 3) := by decide +kernel
theorem dX12_isCached_6 : decode cX12_isCached 6 = .ok (.ifCond .eq 7, 3) := by decide +kernel
theorem dX12_isCached_9 : decode cX12_isCached 9 = .ok (.iconst 0, 1) := by decide +kernel
theorem dX12_isCached_10 : decode cX12_isCached 10 = .ok (.goto 4, 3) := by decide +kernel
theorem dX12_isCached_13 : decode cX12_isCached 13 = .ok (.iconst 1, 1) := by decide +kernel
theorem dX12_isCached_14 : decode cX12_isCached 14 = .ok (.invokevirtual 130, 3) := by decide +kernel
theorem dX12_isCached_17 : decode cX12_isCached 17 = .ok (.ifCond .ne 16, 3) := by decide +kernel
theorem dX12_isCached_20 : decode cX12_isCached 20 = .ok (.aload_n 0, 1) := by decide +kernel
theorem dX12_isCached_21 : decode cX12_isCached 21 = .ok (.getfield 75, 3) := by decide +kernel
theorem dX12_isCached_24 : decode cX12_isCached 24 = .ok (.iload_n 1, 1) := by decide +kernel
theorem dX12_isCached_25 : decode cX12_isCached 25 = .ok (.baload, 1) := by decide +kernel
theorem dX12_isCached_26 : decode cX12_isCached 26 = .ok (.ifCond .eq 7, 3) := by decide +kernel
theorem dX12_isCached_29 : decode cX12_isCached 29 = .ok (.iconst 1, 1) := by decide +kernel
theorem dX12_isCached_30 : decode cX12_isCached 30 = .ok (.goto 4, 3) := by decide +kernel
theorem dX12_isCached_33 : decode cX12_isCached 33 = .ok (.iconst 0, 1) := by decide +kernel
theorem dX12_isCached_34 : decode cX12_isCached 34 = .ok (.ireturn, 1) := by decide +kernel
theorem dX12_shared_0 : decode cX12_shared 0 = .ok (.iconst 0, 1) := by decide +kernel
theorem dX12_shared_1 : decode cX12_shared 1 = .ok (.istore 4, 2) := by decide +kernel
theorem dX12_shared_3 : decode cX12_shared 3 = .ok (.sipush 300, 3) := by decide +kernel
theorem dX12_shared_6 : decode cX12_shared 6 = .ok (.iload_n 1, 1) := by decide +kernel
theorem dX12_shared_7 : decode cX12_shared 7 = .ok (.imul, 1) := by decide +kernel
theorem dX12_shared_8 : decode cX12_shared 8 = .ok (.istore 5, 2) := by decide +kernel
theorem dX12_shared_10 : decode cX12_shared 10 = .ok (.iload 5, 2) := by decide +kernel
theorem dX12_shared_12 : decode cX12_shared 12 = .ok (.sipush 300, 3) := by decide +kernel
theorem dX12_shared_15 : decode cX12_shared 15 = .ok (.iload_n 1, 1) := by decide +kernel
theorem dX12_shared_16 : decode cX12_shared 16 = .ok (.imul, 1) := by decide +kernel
theorem dX12_shared_17 : decode cX12_shared 17 = .ok (.aload_n 0, 1) := by decide +kernel
theorem dX12_shared_18 : decode cX12_shared 18 = .ok (.iload_n 1, 1) := by decide +kernel
theorem dX12_shared_19 : decode cX12_shared 19 = .ok (.invokevirtual 152, 3) := by decide +kernel
theorem dX12_shared_22 : decode cX12_shared 22 = .ok (.iadd, 1) := by decide +kernel
theorem dX12_shared_23 : decode cX12_shared 23 = .ok (.if_icmp .ge 34, 3) := by decide +kernel
theorem dX12_shared_26 : decode cX12_shared 26 = .ok (.iload 4, 2) := by decide +kernel
theorem dX12_shared_28 : decode cX12_shared 28 = .ok (.aload_n 0, 1) := by decide +kernel
theorem dX12_shared_29 : decode cX12_shared 29 = .ok (.getfield 52, 3) := by decide +kernel
theorem dX12_shared_32 : decode cX12_shared 32 = .ok (.iload 5, 2) := by decide +kernel
theorem dX12_shared_34 : decode cX12_shared 34 = .ok (.iaload, 1) := by decide +kernel
theorem dX12_shared_35 : decode cX12_shared 35 = .ok (.iload_n 3, 1) := by decide +kernel
theorem dX12_shared_36 : decode cX12_shared 36 = .ok (.invokestatic 159, 3) := by decide +kernel
theorem dX12_shared_39 : decode cX12_shared 39 = .ok (.iload_n 2, 1) := by decide +kernel
theorem dX12_shared_40 : decode cX12_shared 40 = .ok (.if_icmp .ne 7, 3) := by decide +kernel
theorem dX12_shared_43 : decode cX12_shared 43 = .ok (.iconst 1, 1) := by decide +kernel
theorem dX12_shared_44 : decode cX12_shared 44 = .ok (.goto 4, 3) := by decide +kernel
theorem dX12_shared_47 : decode cX12_shared 47 = .ok (.iconst 0, 1) := by decide +kernel
theorem dX12_shared_48 : decode cX12_shared 48 = .ok (.iadd, 1) := by decide +kernel
theorem dX12_shared_49 : decode cX12_shared 49 = .ok (.istore 4, 2) := by decide +kernel
theorem dX12_shared_51 : decode cX12_shared 51 = .ok (.iinc 5 1, 3) := by decide +kernel
theorem dX12_shared_54 : decode cX12_shared 54 = .ok (.goto (-44), 3) := by decide +kernel
theorem dX12_shared_57 : decode cX12_shared 57 = .ok (.iload 4, 2) := by decide +kernel
theorem dX12_shared_59 : decode cX12_shared 59 = .ok (.ireturn, 1) := by decide +kernel
theorem dX12_needs_0 : decode cX12_needs 0 = .ok (.aload_n 0, 1) := by decide +kernel
theorem dX12_needs_1 : decode cX12_needs 1 = .ok (.getfield 87, 3) := by decide +kernel
theorem dX12_needs_4 : decode cX12_needs 4 = .ok (.iload_n 1, 1) := by decide +kernel
theorem dX12_needs_5 : decode cX12_needs 5 = .ok (.aload_n 0, 1) := by decide +kernel
theorem dX12_needs_6 : decode cX12_needs 6 = .ok (.getfield 87, 3) := by decide +kernel
theorem dX12_needs_9 : decode cX12_needs 9 = .ok (.iload_n 1, 1) := by decide +kernel
theorem dX12_needs_10 : decode cX12_needs 10 = .ok (.baload, 1) := by decide +kernel
theorem dX12_needs_11 : decode cX12_needs 11 = .ok (.ifCond .ne 12, 3) := by decide +kernel
theorem dX12_needs_14 : decode cX12_needs 14 = .ok (.aload_n 0, 1) := by decide +kernel
theorem dX12_needs_15 : decode cX12_needs 15 = .ok (.getfield 75, 3) := by decide +kernel
theorem dX12_needs_18 : decode cX12_needs 18 = .ok (.iload_n 1, 1) := by decide +kernel
theorem dX12_needs_19 : decode cX12_needs 19 = .ok (.baload, 1) := by decide +kernel
theorem dX12_needs_20 : decode cX12_needs 20 = .ok (.ifCond .eq 7, 3) := by decide +kernel
theorem dX12_needs_23 : decode cX12_needs 23 = .ok (.iconst 1, 1) := by decide +kernel
theorem dX12_needs_24 : decode cX12_needs 24 = .ok (.goto 4, 3) := by decide +kernel
theorem dX12_needs_27 : decode cX12_needs 27 = .ok (.iconst 0, 1) := by decide +kernel
theorem dX12_needs_28 : decode cX12_needs 28 = .ok (.bastore, 1) := by decide +kernel
theorem dX12_needs_29 : decode cX12_needs 29 = .ok (.aload_n 0, 1) := by decide +kernel
theorem dX12_needs_30 : decode cX12_needs 30 = .ok (.getfield 81, 3) := by decide +kernel
theorem dX12_needs_33 : decode cX12_needs 33 = .ok (.iload_n 1, 1) := by decide +kernel
theorem dX12_needs_34 : decode cX12_needs 34 = .ok (.aload_n 0, 1) := by decide +kernel
theorem dX12_needs_35 : decode cX12_needs 35 = .ok (.getfield 81, 3) := by decide +kernel
theorem dX12_needs_38 : decode cX12_needs 38 = .ok (.iload_n 1, 1) := by decide +kernel
theorem dX12_needs_39 : decode cX12_needs 39 = .ok (.baload, 1) := by decide +kernel
theorem dX12_needs_40 : decode cX12_needs 40 = .ok (.ifCond .ne 12, 3) := by decide +kernel
theorem dX12_needs_43 : decode cX12_needs 43 = .ok (.aload_n 0, 1) := by decide +kernel
theorem dX12_needs_44 : decode cX12_needs 44 = .ok (.getfield 75, 3) := by decide +kernel
theorem dX12_needs_47 : decode cX12_needs 47 = .ok (.iload_n 1, 1) := by decide +kernel
theorem dX12_needs_48 : decode cX12_needs 48 = .ok (.baload, 1) := by decide +kernel
theorem dX12_needs_49 : decode cX12_needs 49 = .ok (.ifCond .ne 7, 3) := by decide +kernel
theorem dX12_needs_52 : decode cX12_needs 52 = .ok (.iconst 1, 1) := by decide +kernel
theorem dX12_needs_53 : decode cX12_needs 53 = .ok (.goto 4, 3) := by decide +kernel
theorem dX12_needs_56 : decode cX12_needs 56 = .ok (.iconst 0, 1) := by decide +kernel
theorem dX12_needs_57 : decode cX12_needs 57 = .ok (.bastore, 1) := by decide +kernel
theorem dX12_needs_58 : decode cX12_needs 58 = .ok (.return_, 1) := by decide +kernel
theorem dX12_reads_0 : decode cX12_reads 0 = .ok (.iload_n 1, 1) := by decide +kernel
theorem dX12_reads_1 : decode cX12_reads 1 = .ok (.istore_n 3, 1) := by decide +kernel
theorem dX12_reads_2 : decode cX12_reads 2 = .ok (.iload_n 2, 1) := by decide +kernel
theorem dX12_reads_3 : decode cX12_reads 3 = .ok (.istore 4, 2) := by decide +kernel
theorem dX12_reads_5 : decode cX12_reads 5 = .ok (.iconst 0, 1) := by decide +kernel
theorem dX12_reads_6 : decode cX12_reads 6 = .ok (.istore 5, 2) := by decide +kernel
theorem dX12_reads_8 : decode cX12_reads 8 = .ok (.iload_n 3, 1) := by decide +kernel
theorem dX12_reads_9 : decode cX12_reads 9 = .ok (.iconst (-1), 1) := by decide +kernel
theorem dX12_reads_10 : decode cX12_reads 10 = .ok (.if_icmp .eq 331, 3) := by decide +kernel
theorem dX12_reads_13 : decode cX12_reads 13 = .ok (.iload_n 3, 1) := by decide +kernel
theorem dX12_reads_14 : decode cX12_reads 14 = .ok (.istore 6, 2) := by decide +kernel
theorem dX12_reads_16 : decode cX12_reads 16 = .ok (.iconst (-1), 1) := by decide +kernel
theorem dX12_reads_17 : decode cX12_reads 17 = .ok (.istore_n 3, 1) := by decide +kernel
theorem dX12_reads_18 : decode cX12_reads 18 = .ok (.aload_n 0, 1) := by decide +kernel
theorem dX12_reads_19 : decode cX12_reads 19 = .ok (.getfield 75, 3) := by decide +kernel
theorem dX12_reads_22 : decode cX12_reads 22 = .ok (.iload 6, 2) := by decide +kernel
theorem dX12_reads_24 : decode cX12_reads 24 = .ok (.baload, 1) := by decide +kernel
theorem dX12_reads_25 : decode cX12_reads 25 = .ok (.ifCond .eq 29, 3) := by decide +kernel
theorem dX12_reads_28 : decode cX12_reads 28 = .ok (.iload 6, 2) := by decide +kernel
theorem dX12_reads_30 : decode cX12_reads 30 = .ok (.iload_n 1, 1) := by decide +kernel
theorem dX12_reads_31 : decode cX12_reads 31 = .ok (.if_icmp .eq 23, 3) := by decide +kernel
theorem dX12_reads_34 : decode cX12_reads 34 = .ok (.aload_n 0, 1) := by decide +kernel
theorem dX12_reads_35 : decode cX12_reads 35 = .ok (.getfield 87, 3) := by decide +kernel
theorem dX12_reads_38 : decode cX12_reads 38 = .ok (.iload 6, 2) := by decide +kernel
theorem dX12_reads_40 : decode cX12_reads 40 = .ok (.iconst 1, 1) := by decide +kernel
theorem dX12_reads_41 : decode cX12_reads 41 = .ok (.bastore, 1) := by decide +kernel
theorem dX12_reads_42 : decode cX12_reads 42 = .ok (.iload 5, 2) := by decide +kernel
theorem dX12_reads_44 : decode cX12_reads 44 = .ok (.aload_n 0, 1) := by decide +kernel
theorem dX12_reads_45 : decode cX12_reads 45 = .ok (.iload 6, 2) := by decide +kernel
theorem dX12_reads_47 : decode cX12_reads 47 = .ok (.iload 4, 2) := by decide +kernel
theorem dX12_reads_49 : decode cX12_reads 49 = .ok (.invokevirtual 206, 3) := by decide +kernel
theorem dX12_reads_52 : decode cX12_reads 52 = .ok (.iadd, 1) := by decide +kernel
theorem dX12_reads_53 : decode cX12_reads 53 = .ok (.ireturn, 1) := by decide +kernel
theorem dX12_reads_54 : decode cX12_reads 54 = .ok (.aload_n 0, 1) := by decide +kernel
theorem dX12_reads_55 : decode cX12_reads 55 = .ok (.getfield 84, 3) := by decide +kernel
theorem dX12_reads_58 : decode cX12_reads 58 = .ok (.iload 6, 2) := by decide +kernel
theorem dX12_reads_60 : decode cX12_reads 60 = .ok (.iconst 1, 1) := by decide +kernel
theorem dX12_reads_61 : decode cX12_reads 61 = .ok (.bastore, 1) := by decide +kernel
theorem dX12_reads_62 : decode cX12_reads 62 = .ok (.aload_n 0, 1) := by decide +kernel
theorem dX12_reads_63 : decode cX12_reads 63 = .ok (.getfield 7, 3) := by decide +kernel
theorem dX12_reads_66 : decode cX12_reads 66 = .ok (.iload 6, 2) := by decide +kernel
theorem dX12_reads_68 : decode cX12_reads 68 = .ok (.iaload, 1) := by decide +kernel
theorem dX12_reads_69 : decode cX12_reads 69 = .ok (.ifCond .ne 19, 3) := by decide +kernel
theorem dX12_reads_72 : decode cX12_reads 72 = .ok (.iload 5, 2) := by decide +kernel
theorem dX12_reads_74 : decode cX12_reads 74 = .ok (.aload_n 0, 1) := by decide +kernel
theorem dX12_reads_75 : decode cX12_reads 75 = .ok (.iload 6, 2) := by decide +kernel
theorem dX12_reads_77 : decode cX12_reads 77 = .ok (.iload 4, 2) := by decide +kernel
theorem dX12_reads_79 : decode cX12_reads 79 = .ok (.invokevirtual 206, 3) := by decide +kernel
theorem dX12_reads_82 : decode cX12_reads 82 = .ok (.iadd, 1) := by decide +kernel
theorem dX12_reads_83 : decode cX12_reads 83 = .ok (.istore 5, 2) := by decide +kernel
theorem dX12_reads_85 : decode cX12_reads 85 = .ok (.goto 253, 3) := by decide +kernel
theorem dX12_reads_88 : decode cX12_reads 88 = .ok (.aload_n 0, 1) := by decide +kernel
theorem dX12_reads_89 : decode cX12_reads 89 = .ok (.getfield 7, 3) := by decide +kernel
theorem dX12_reads_92 : decode cX12_reads 92 = .ok (.iload 6, 2) := by decide +kernel
theorem dX12_reads_94 : decode cX12_reads 94 = .ok (.iaload, 1) := by decide +kernel
theorem dX12_reads_95 : decode cX12_reads 95 = .ok (.iconst 3, 1) := by decide +kernel
theorem dX12_reads_96 : decode cX12_reads 96 = .ok (.if_icmp .ge 14, 3) := by decide +kernel
theorem dX12_reads_99 : decode cX12_reads 99 = .ok (.aload_n 0, 1) := by decide +kernel
theorem dX12_reads_100 : decode cX12_reads 100 = .ok (.getfield 13, 3) := by decide +kernel
theorem dX12_reads_103 : decode cX12_reads 103 = .ok (.iload 6, 2) := by decide +kernel
theorem dX12_reads_105 : decode cX12_reads 105 = .ok (.iaload, 1) := by decide +kernel
theorem dX12_reads_106 : decode cX12_reads 106 = .ok (.istore_n 3, 1) := by decide +kernel
theorem dX12_reads_107 : decode cX12_reads 107 = .ok (.goto 231, 3) := by decide +kernel
theorem dX12_reads_110 : decode cX12_reads 110 = .ok (.aload_n 0, 1) := by decide +kernel
theorem dX12_reads_111 : decode cX12_reads 111 = .ok (.getfield 7, 3) := by decide +kernel
theorem dX12_reads_114 : decode cX12_reads 114 = .ok (.iload 6, 2) := by decide +kernel
theorem dX12_reads_116 : decode cX12_reads 116 = .ok (.iaload, 1) := by decide +kernel
theorem dX12_reads_117 : decode cX12_reads 117 = .ok (.iconst 3, 1) := by decide +kernel
theorem dX12_reads_118 : decode cX12_reads 118 = .ok (.if_icmp .ne 79, 3) := by decide +kernel
theorem dX12_reads_121 : decode cX12_reads 121 = .ok (.iload 4, 2) := by decide +kernel
theorem dX12_reads_123 : decode cX12_reads 123 = .ok (.aload_n 0, 1) := by decide +kernel
theorem dX12_reads_124 : decode cX12_reads 124 = .ok (.getfield 46, 3) := by decide +kernel
theorem dX12_reads_127 : decode cX12_reads 127 = .ok (.aload_n 0, 1) := by decide +kernel
theorem dX12_reads_128 : decode cX12_reads 128 = .ok (.getfield 13, 3) := by decide +kernel
theorem dX12_reads_131 : decode cX12_reads 131 = .ok (.iload 6, 2) := by decide +kernel
theorem dX12_reads_133 : decode cX12_reads 133 = .ok (.iaload, 1) := by decide +kernel
theorem dX12_reads_134 : decode cX12_reads 134 = .ok (.iaload, 1) := by decide +kernel
theorem dX12_reads_135 : decode cX12_reads 135 = .ok (.if_icmp .ge 7, 3) := by decide +kernel
theorem dX12_reads_138 : decode cX12_reads 138 = .ok (.iconst 1, 1) := by decide +kernel
theorem dX12_reads_139 : decode cX12_reads 139 = .ok (.goto 4, 3) := by decide +kernel
theorem dX12_reads_142 : decode cX12_reads 142 = .ok (.iconst 0, 1) := by decide +kernel
theorem dX12_reads_143 : decode cX12_reads 143 = .ok (.istore 7, 2) := by decide +kernel
theorem dX12_reads_145 : decode cX12_reads 145 = .ok (.iload 7, 2) := by decide +kernel
theorem dX12_reads_147 : decode cX12_reads 147 = .ok (.ifCond .eq 13, 3) := by decide +kernel
theorem dX12_reads_150 : decode cX12_reads 150 = .ok (.aload_n 0, 1) := by decide +kernel
theorem dX12_reads_151 : decode cX12_reads 151 = .ok (.getfield 13, 3) := by decide +kernel
theorem dX12_reads_154 : decode cX12_reads 154 = .ok (.iload 6, 2) := by decide +kernel
theorem dX12_reads_156 : decode cX12_reads 156 = .ok (.iaload, 1) := by decide +kernel
theorem dX12_reads_157 : decode cX12_reads 157 = .ok (.goto 10, 3) := by decide +kernel
theorem dX12_reads_160 : decode cX12_reads 160 = .ok (.aload_n 0, 1) := by decide +kernel
theorem dX12_reads_161 : decode cX12_reads 161 = .ok (.getfield 16, 3) := by decide +kernel
theorem dX12_reads_164 : decode cX12_reads 164 = .ok (.iload 6, 2) := by decide +kernel
theorem dX12_reads_166 : decode cX12_reads 166 = .ok (.iaload, 1) := by decide +kernel
theorem dX12_reads_167 : decode cX12_reads 167 = .ok (.istore_n 3, 1) := by decide +kernel
theorem dX12_reads_168 : decode cX12_reads 168 = .ok (.iload 4, 2) := by decide +kernel
theorem dX12_reads_170 : decode cX12_reads 170 = .ok (.iload 7, 2) := by decide +kernel
theorem dX12_reads_172 : decode cX12_reads 172 = .ok (.ifCond .eq 7, 3) := by decide +kernel
theorem dX12_reads_175 : decode cX12_reads 175 = .ok (.iconst 0, 1) := by decide +kernel
theorem dX12_reads_176 : decode cX12_reads 176 = .ok (.goto 15, 3) := by decide +kernel
theorem dX12_reads_179 : decode cX12_reads 179 = .ok (.aload_n 0, 1) := by decide +kernel
theorem dX12_reads_180 : decode cX12_reads 180 = .ok (.getfield 46, 3) := by decide +kernel
theorem dX12_reads_183 : decode cX12_reads 183 = .ok (.aload_n 0, 1) := by decide +kernel
theorem dX12_reads_184 : decode cX12_reads 184 = .ok (.getfield 13, 3) := by decide +kernel
theorem dX12_reads_187 : decode cX12_reads 187 = .ok (.iload 6, 2) := by decide +kernel
theorem dX12_reads_189 : decode cX12_reads 189 = .ok (.iaload, 1) := by decide +kernel
theorem dX12_reads_190 : decode cX12_reads 190 = .ok (.iaload, 1) := by decide +kernel
theorem dX12_reads_191 : decode cX12_reads 191 = .ok (.isub, 1) := by decide +kernel
theorem dX12_reads_192 : decode cX12_reads 192 = .ok (.istore 4, 2) := by decide +kernel
theorem dX12_reads_194 : decode cX12_reads 194 = .ok (.goto 144, 3) := by decide +kernel
theorem dX12_reads_197 : decode cX12_reads 197 = .ok (.aload_n 0, 1) := by decide +kernel
theorem dX12_reads_198 : decode cX12_reads 198 = .ok (.getfield 7, 3) := by decide +kernel
theorem dX12_reads_201 : decode cX12_reads 201 = .ok (.iload 6, 2) := by decide +kernel
theorem dX12_reads_203 : decode cX12_reads 203 = .ok (.iaload, 1) := by decide +kernel
theorem dX12_reads_204 : decode cX12_reads 204 = .ok (.iconst 5, 1) := by decide +kernel
theorem dX12_reads_205 : decode cX12_reads 205 = .ok (.if_icmp .ne 50, 3) := by decide +kernel
theorem dX12_reads_208 : decode cX12_reads 208 = .ok (.aload_n 0, 1) := by decide +kernel
theorem dX12_reads_209 : decode cX12_reads 209 = .ok (.iload 6, 2) := by decide +kernel
theorem dX12_reads_211 : decode cX12_reads 211 = .ok (.invokevirtual 187, 3) := by decide +kernel
theorem dX12_reads_214 : decode cX12_reads 214 = .ok (.ifCond .eq 41, 3) := by decide +kernel
theorem dX12_reads_217 : decode cX12_reads 217 = .ok (.iload 5, 2) := by decide +kernel
theorem dX12_reads_219 : decode cX12_reads 219 = .ok (.aload_n 0, 1) := by decide +kernel
theorem dX12_reads_220 : decode cX12_reads 220 = .ok (.aload_n 0, 1) := by decide +kernel
theorem dX12_reads_221 : decode cX12_reads 221 = .ok (.getfield 16, 3) := by decide +kernel
theorem dX12_reads_224 : decode cX12_reads 224 = .ok (.iload 6, 2) := by decide +kernel
theorem dX12_reads_226 : decode cX12_reads 226 = .ok (.iaload, 1) := by decide +kernel
theorem dX12_reads_227 : decode cX12_reads 227 = .ok (.invokevirtual 152, 3) := by decide +kernel
theorem dX12_reads_230 : decode cX12_reads 230 = .ok (.iadd, 1) := by decide +kernel
theorem dX12_reads_231 : decode cX12_reads 231 = .ok (.istore 5, 2) := by decide +kernel
theorem dX12_reads_233 : decode cX12_reads 233 = .ok (.aload_n 0, 1) := by decide +kernel
theorem dX12_reads_234 : decode cX12_reads 234 = .ok (.aload_n 0, 1) := by decide +kernel
theorem dX12_reads_235 : decode cX12_reads 235 = .ok (.getfield 16, 3) := by decide +kernel
theorem dX12_reads_238 : decode cX12_reads 238 = .ok (.iload 6, 2) := by decide +kernel
theorem dX12_reads_240 : decode cX12_reads 240 = .ok (.iaload, 1) := by decide +kernel
theorem dX12_reads_241 : decode cX12_reads 241 = .ok (.invokevirtual 226, 3) := by decide +kernel
theorem dX12_reads_244 : decode cX12_reads 244 = .ok (.aload_n 0, 1) := by decide +kernel
theorem dX12_reads_245 : decode cX12_reads 245 = .ok (.getfield 13, 3) := by decide +kernel
theorem dX12_reads_248 : decode cX12_reads 248 = .ok (.iload 6, 2) := by decide +kernel
theorem dX12_reads_250 : decode cX12_reads 250 = .ok (.iaload, 1) := by decide +kernel
theorem dX12_reads_251 : decode cX12_reads 251 = .ok (.istore_n 3, 1) := by decide +kernel
theorem dX12_reads_252 : decode cX12_reads 252 = .ok (.goto 86, 3) := by decide +kernel
theorem dX12_reads_255 : decode cX12_reads 255 = .ok (.iload 5, 2) := by decide +kernel
theorem dX12_reads_257 : decode cX12_reads 257 = .ok (.aload_n 0, 1) := by decide +kernel
theorem dX12_reads_258 : decode cX12_reads 258 = .ok (.aload_n 0, 1) := by decide +kernel
theorem dX12_reads_259 : decode cX12_reads 259 = .ok (.getfield 13, 3) := by decide +kernel
theorem dX12_reads_262 : decode cX12_reads 262 = .ok (.iload 6, 2) := by decide +kernel
theorem dX12_reads_264 : decode cX12_reads 264 = .ok (.iaload, 1) := by decide +kernel
theorem dX12_reads_265 : decode cX12_reads 265 = .ok (.iload 4, 2) := by decide +kernel
theorem dX12_reads_267 : decode cX12_reads 267 = .ok (.aload_n 0, 1) := by decide +kernel
theorem dX12_reads_268 : decode cX12_reads 268 = .ok (.getfield 28, 3) := by decide +kernel
theorem dX12_reads_271 : decode cX12_reads 271 = .ok (.iload 6, 2) := by decide +kernel
theorem dX12_reads_273 : decode cX12_reads 273 = .ok (.iaload, 1) := by decide +kernel
theorem dX12_reads_274 : decode cX12_reads 274 = .ok (.invokevirtual 229, 3) := by decide +kernel
theorem dX12_reads_277 : decode cX12_reads 277 = .ok (.iadd, 1) := by decide +kernel
theorem dX12_reads_278 : decode cX12_reads 278 = .ok (.istore 5, 2) := by decide +kernel
theorem dX12_reads_280 : decode cX12_reads 280 = .ok (.aload_n 0, 1) := by decide +kernel
theorem dX12_reads_281 : decode cX12_reads 281 = .ok (.aload_n 0, 1) := by decide +kernel
theorem dX12_reads_282 : decode cX12_reads 282 = .ok (.getfield 13, 3) := by decide +kernel
theorem dX12_reads_285 : decode cX12_reads 285 = .ok (.iload 6, 2) := by decide +kernel
theorem dX12_reads_287 : decode cX12_reads 287 = .ok (.iaload, 1) := by decide +kernel
theorem dX12_reads_288 : decode cX12_reads 288 = .ok (.invokevirtual 226, 3) := by decide +kernel
theorem dX12_reads_291 : decode cX12_reads 291 = .ok (.aload_n 0, 1) := by decide +kernel
theorem dX12_reads_292 : decode cX12_reads 292 = .ok (.getfield 7, 3) := by decide +kernel
theorem dX12_reads_295 : decode cX12_reads 295 = .ok (.iload 6, 2) := by decide +kernel
theorem dX12_reads_297 : decode cX12_reads 297 = .ok (.iaload, 1) := by decide +kernel
theorem dX12_reads_298 : decode cX12_reads 298 = .ok (.iconst 5, 1) := by decide +kernel
theorem dX12_reads_299 : decode cX12_reads 299 = .ok (.if_icmp .ne 39, 3) := by decide +kernel
theorem dX12_reads_302 : decode cX12_reads 302 = .ok (.iload 5, 2) := by decide +kernel
theorem dX12_reads_304 : decode cX12_reads 304 = .ok (.aload_n 0, 1) := by decide +kernel
theorem dX12_reads_305 : decode cX12_reads 305 = .ok (.aload_n 0, 1) := by decide +kernel
theorem dX12_reads_306 : decode cX12_reads 306 = .ok (.getfield 16, 3) := by decide +kernel
theorem dX12_reads_309 : decode cX12_reads 309 = .ok (.iload 6, 2) := by decide +kernel
theorem dX12_reads_311 : decode cX12_reads 311 = .ok (.iaload, 1) := by decide +kernel
theorem dX12_reads_312 : decode cX12_reads 312 = .ok (.iload 4, 2) := by decide +kernel
theorem dX12_reads_314 : decode cX12_reads 314 = .ok (.aload_n 0, 1) := by decide +kernel
theorem dX12_reads_315 : decode cX12_reads 315 = .ok (.getfield 28, 3) := by decide +kernel
theorem dX12_reads_318 : decode cX12_reads 318 = .ok (.iload 6, 2) := by decide +kernel
theorem dX12_reads_320 : decode cX12_reads 320 = .ok (.iaload, 1) := by decide +kernel
theorem dX12_reads_321 : decode cX12_reads 321 = .ok (.invokevirtual 229, 3) := by decide +kernel
theorem dX12_reads_324 : decode cX12_reads 324 = .ok (.iadd, 1) := by decide +kernel
theorem dX12_reads_325 : decode cX12_reads 325 = .ok (.istore 5, 2) := by decide +kernel
theorem dX12_reads_327 : decode cX12_reads 327 = .ok (.aload_n 0, 1) := by decide +kernel
theorem dX12_reads_328 : decode cX12_reads 328 = .ok (.aload_n 0, 1) := by decide +kernel
theorem dX12_reads_329 : decode cX12_reads 329 = .ok (.getfield 16, 3) := by decide +kernel
theorem dX12_reads_332 : decode cX12_reads 332 = .ok (.iload 6, 2) := by decide +kernel
theorem dX12_reads_334 : decode cX12_reads 334 = .ok (.iaload, 1) := by decide +kernel
theorem dX12_reads_335 : decode cX12_reads 335 = .ok (.invokevirtual 226, 3) := by decide +kernel
theorem dX12_reads_338 : decode cX12_reads 338 = .ok (.goto (-330), 3) := by decide +kernel
theorem dX12_reads_341 : decode cX12_reads 341 = .ok (.iload 5, 2) := by decide +kernel
theorem dX12_reads_343 : decode cX12_reads 343 = .ok (.ireturn, 1) := by decide +kernel
theorem dX12_finds_0 : decode cX12_finds 0 = .ok (.aload_n 0, 1) := by decide +kernel
theorem dX12_finds_1 : decode cX12_finds 1 = .ok (.invokevirtual 196, 3) := by decide +kernel
theorem dX12_finds_4 : decode cX12_finds 4 = .ok (.iconst 0, 1) := by decide +kernel
theorem dX12_finds_5 : decode cX12_finds 5 = .ok (.istore_n 2, 1) := by decide +kernel
theorem dX12_finds_6 : decode cX12_finds 6 = .ok (.iload_n 2, 1) := by decide +kernel
theorem dX12_finds_7 : decode cX12_finds 7 = .ok (.bipush 14, 2) := by decide +kernel
theorem dX12_finds_9 : decode cX12_finds 9 = .ok (.if_icmp .ge 66, 3) := by decide +kernel
theorem dX12_finds_12 : decode cX12_finds 12 = .ok (.aload_n 0, 1) := by decide +kernel
theorem dX12_finds_13 : decode cX12_finds 13 = .ok (.getfield 81, 3) := by decide +kernel
theorem dX12_finds_16 : decode cX12_finds 16 = .ok (.iload_n 2, 1) := by decide +kernel
theorem dX12_finds_17 : decode cX12_finds 17 = .ok (.iload_n 2, 1) := by decide +kernel
theorem dX12_finds_18 : decode cX12_finds 18 = .ok (.iload_n 1, 1) := by decide +kernel
theorem dX12_finds_19 : decode cX12_finds 19 = .ok (.if_icmp .ne 16, 3) := by decide +kernel
theorem dX12_finds_22 : decode cX12_finds 22 = .ok (.aload_n 0, 1) := by decide +kernel
theorem dX12_finds_23 : decode cX12_finds 23 = .ok (.getfield 75, 3) := by decide +kernel
theorem dX12_finds_26 : decode cX12_finds 26 = .ok (.iload_n 2, 1) := by decide +kernel
theorem dX12_finds_27 : decode cX12_finds 27 = .ok (.baload, 1) := by decide +kernel
theorem dX12_finds_28 : decode cX12_finds 28 = .ok (.ifCond .ne 7, 3) := by decide +kernel
theorem dX12_finds_31 : decode cX12_finds 31 = .ok (.iconst 1, 1) := by decide +kernel
theorem dX12_finds_32 : decode cX12_finds 32 = .ok (.goto 4, 3) := by decide +kernel
theorem dX12_finds_35 : decode cX12_finds 35 = .ok (.iconst 0, 1) := by decide +kernel
theorem dX12_finds_36 : decode cX12_finds 36 = .ok (.bastore, 1) := by decide +kernel
theorem dX12_finds_37 : decode cX12_finds 37 = .ok (.aload_n 0, 1) := by decide +kernel
theorem dX12_finds_38 : decode cX12_finds 38 = .ok (.getfield 84, 3) := by decide +kernel
theorem dX12_finds_41 : decode cX12_finds 41 = .ok (.iload_n 2, 1) := by decide +kernel
theorem dX12_finds_42 : decode cX12_finds 42 = .ok (.iconst 0, 1) := by decide +kernel
theorem dX12_finds_43 : decode cX12_finds 43 = .ok (.bastore, 1) := by decide +kernel
theorem dX12_finds_44 : decode cX12_finds 44 = .ok (.aload_n 0, 1) := by decide +kernel
theorem dX12_finds_45 : decode cX12_finds 45 = .ok (.getfield 87, 3) := by decide +kernel
theorem dX12_finds_48 : decode cX12_finds 48 = .ok (.iload_n 2, 1) := by decide +kernel
theorem dX12_finds_49 : decode cX12_finds 49 = .ok (.iload_n 2, 1) := by decide +kernel
theorem dX12_finds_50 : decode cX12_finds 50 = .ok (.iload_n 1, 1) := by decide +kernel
theorem dX12_finds_51 : decode cX12_finds 51 = .ok (.if_icmp .ne 16, 3) := by decide +kernel
theorem dX12_finds_54 : decode cX12_finds 54 = .ok (.aload_n 0, 1) := by decide +kernel
theorem dX12_finds_55 : decode cX12_finds 55 = .ok (.getfield 75, 3) := by decide +kernel
theorem dX12_finds_58 : decode cX12_finds 58 = .ok (.iload_n 2, 1) := by decide +kernel
theorem dX12_finds_59 : decode cX12_finds 59 = .ok (.baload, 1) := by decide +kernel
theorem dX12_finds_60 : decode cX12_finds 60 = .ok (.ifCond .eq 7, 3) := by decide +kernel
theorem dX12_finds_63 : decode cX12_finds 63 = .ok (.iconst 1, 1) := by decide +kernel
theorem dX12_finds_64 : decode cX12_finds 64 = .ok (.goto 4, 3) := by decide +kernel
theorem dX12_finds_67 : decode cX12_finds 67 = .ok (.iconst 0, 1) := by decide +kernel
theorem dX12_finds_68 : decode cX12_finds 68 = .ok (.bastore, 1) := by decide +kernel
theorem dX12_finds_69 : decode cX12_finds 69 = .ok (.iinc 2 1, 3) := by decide +kernel
theorem dX12_finds_72 : decode cX12_finds 72 = .ok (.goto (-66), 3) := by decide +kernel
theorem dX12_finds_75 : decode cX12_finds 75 = .ok (.iconst 0, 1) := by decide +kernel
theorem dX12_finds_76 : decode cX12_finds 76 = .ok (.istore_n 2, 1) := by decide +kernel
theorem dX12_finds_77 : decode cX12_finds 77 = .ok (.iload_n 1, 1) := by decide +kernel
theorem dX12_finds_78 : decode cX12_finds 78 = .ok (.istore_n 3, 1) := by decide +kernel
theorem dX12_finds_79 : decode cX12_finds 79 = .ok (.iload_n 3, 1) := by decide +kernel
theorem dX12_finds_80 : decode cX12_finds 80 = .ok (.ifCond .lt 63, 3) := by decide +kernel
theorem dX12_finds_83 : decode cX12_finds 83 = .ok (.iconst 0, 1) := by decide +kernel
theorem dX12_finds_84 : decode cX12_finds 84 = .ok (.istore 4, 2) := by decide +kernel
theorem dX12_finds_86 : decode cX12_finds 86 = .ok (.iload 4, 2) := by decide +kernel
theorem dX12_finds_88 : decode cX12_finds 88 = .ok (.aload_n 0, 1) := by decide +kernel
theorem dX12_finds_89 : decode cX12_finds 89 = .ok (.getfield 46, 3) := by decide +kernel
theorem dX12_finds_92 : decode cX12_finds 92 = .ok (.iload_n 3, 1) := by decide +kernel
theorem dX12_finds_93 : decode cX12_finds 93 = .ok (.iaload, 1) := by decide +kernel
theorem dX12_finds_94 : decode cX12_finds 94 = .ok (.if_icmp .ge 26, 3) := by decide +kernel
theorem dX12_finds_97 : decode cX12_finds 97 = .ok (.aload_n 0, 1) := by decide +kernel
theorem dX12_finds_98 : decode cX12_finds 98 = .ok (.getfield 81, 3) := by decide +kernel
theorem dX12_finds_101 : decode cX12_finds 101 = .ok (.iload_n 3, 1) := by decide +kernel
theorem dX12_finds_102 : decode cX12_finds 102 = .ok (.baload, 1) := by decide +kernel
theorem dX12_finds_103 : decode cX12_finds 103 = .ok (.ifCond .eq 17, 3) := by decide +kernel
theorem dX12_finds_106 : decode cX12_finds 106 = .ok (.aload_n 0, 1) := by decide +kernel
theorem dX12_finds_107 : decode cX12_finds 107 = .ok (.iload_n 3, 1) := by decide +kernel
theorem dX12_finds_108 : decode cX12_finds 108 = .ok (.iload 4, 2) := by decide +kernel
theorem dX12_finds_110 : decode cX12_finds 110 = .ok (.invokevirtual 232, 3) := by decide +kernel
theorem dX12_finds_113 : decode cX12_finds 113 = .ok (.pop, 1) := by decide +kernel
theorem dX12_finds_114 : decode cX12_finds 114 = .ok (.iinc 4 1, 3) := by decide +kernel
theorem dX12_finds_117 : decode cX12_finds 117 = .ok (.goto (-31), 3) := by decide +kernel
theorem dX12_finds_120 : decode cX12_finds 120 = .ok (.iload_n 2, 1) := by decide +kernel
theorem dX12_finds_121 : decode cX12_finds 121 = .ok (.aload_n 0, 1) := by decide +kernel
theorem dX12_finds_122 : decode cX12_finds 122 = .ok (.getfield 81, 3) := by decide +kernel
theorem dX12_finds_125 : decode cX12_finds 125 = .ok (.iload_n 3, 1) := by decide +kernel
theorem dX12_finds_126 : decode cX12_finds 126 = .ok (.baload, 1) := by decide +kernel
theorem dX12_finds_127 : decode cX12_finds 127 = .ok (.ifCond .eq 7, 3) := by decide +kernel
theorem dX12_finds_130 : decode cX12_finds 130 = .ok (.iconst 1, 1) := by decide +kernel
theorem dX12_finds_131 : decode cX12_finds 131 = .ok (.goto 4, 3) := by decide +kernel
theorem dX12_finds_134 : decode cX12_finds 134 = .ok (.iconst 0, 1) := by decide +kernel
theorem dX12_finds_135 : decode cX12_finds 135 = .ok (.iadd, 1) := by decide +kernel
theorem dX12_finds_136 : decode cX12_finds 136 = .ok (.istore_n 2, 1) := by decide +kernel
theorem dX12_finds_137 : decode cX12_finds 137 = .ok (.iinc 3 (-1), 3) := by decide +kernel
theorem dX12_finds_140 : decode cX12_finds 140 = .ok (.goto (-61), 3) := by decide +kernel
theorem dX12_finds_143 : decode cX12_finds 143 = .ok (.iload_n 2, 1) := by decide +kernel
theorem dX12_finds_144 : decode cX12_finds 144 = .ok (.ireturn, 1) := by decide +kernel
theorem dX12_stages_0 : decode cX12_stages 0 = .ok (.aload_n 0, 1) := by decide +kernel
theorem dX12_stages_1 : decode cX12_stages 1 = .ok (.aload_n 0, 1) := by decide +kernel
theorem dX12_stages_2 : decode cX12_stages 2 = .ok (.iload_n 1, 1) := by decide +kernel
theorem dX12_stages_3 : decode cX12_stages 3 = .ok (.invokevirtual 138, 3) := by decide +kernel
theorem dX12_stages_6 : decode cX12_stages 6 = .ok (.ifCond .eq 7, 3) := by decide +kernel
theorem dX12_stages_9 : decode cX12_stages 9 = .ok (.iconst 0, 1) := by decide +kernel
theorem dX12_stages_10 : decode cX12_stages 10 = .ok (.goto 4, 3) := by decide +kernel
theorem dX12_stages_13 : decode cX12_stages 13 = .ok (.iconst 1, 1) := by decide +kernel
theorem dX12_stages_14 : decode cX12_stages 14 = .ok (.invokevirtual 130, 3) := by decide +kernel
theorem dX12_stages_17 : decode cX12_stages 17 = .ok (.ifCond .eq 7, 3) := by decide +kernel
theorem dX12_stages_20 : decode cX12_stages 20 = .ok (.iconst 0, 1) := by decide +kernel
theorem dX12_stages_21 : decode cX12_stages 21 = .ok (.goto 8, 3) := by decide +kernel
theorem dX12_stages_24 : decode cX12_stages 24 = .ok (.aload_n 0, 1) := by decide +kernel
theorem dX12_stages_25 : decode cX12_stages 25 = .ok (.iload_n 1, 1) := by decide +kernel
theorem dX12_stages_26 : decode cX12_stages 26 = .ok (.invokevirtual 235, 3) := by decide +kernel
theorem dX12_stages_29 : decode cX12_stages 29 = .ok (.ireturn, 1) := by decide +kernel
theorem dX12_outputOf_0 : decode cX12_outputOf 0 = .ok (.aload_n 0, 1) := by decide +kernel
theorem dX12_outputOf_1 : decode cX12_outputOf 1 = .ok (.iload_n 1, 1) := by decide +kernel
theorem dX12_outputOf_2 : decode cX12_outputOf 2 = .ok (.invokevirtual 138, 3) := by decide +kernel
theorem dX12_outputOf_5 : decode cX12_outputOf 5 = .ok (.ifCond .eq 11, 3) := by decide +kernel
theorem dX12_outputOf_8 : decode cX12_outputOf 8 = .ok (.aload_n 0, 1) := by decide +kernel
theorem dX12_outputOf_9 : decode cX12_outputOf 9 = .ok (.iload_n 1, 1) := by decide +kernel
theorem dX12_outputOf_10 : decode cX12_outputOf 10 = .ok (.invokevirtual 235, 3) := by decide +kernel
theorem dX12_outputOf_13 : decode cX12_outputOf 13 = .ok (.goto 4, 3) := by decide +kernel
theorem dX12_outputOf_16 : decode cX12_outputOf 16 = .ok (.iconst 0, 1) := by decide +kernel
theorem dX12_outputOf_17 : decode cX12_outputOf 17 = .ok (.istore_n 3, 1) := by decide +kernel
theorem dX12_outputOf_18 : decode cX12_outputOf 18 = .ok (.aload_n 0, 1) := by decide +kernel
theorem dX12_outputOf_19 : decode cX12_outputOf 19 = .ok (.iload_n 2, 1) := by decide +kernel
theorem dX12_outputOf_20 : decode cX12_outputOf 20 = .ok (.ifCond .lt 12, 3) := by decide +kernel
theorem dX12_outputOf_23 : decode cX12_outputOf 23 = .ok (.iload_n 2, 1) := by decide +kernel
theorem dX12_outputOf_24 : decode cX12_outputOf 24 = .ok (.iload_n 3, 1) := by decide +kernel
theorem dX12_outputOf_25 : decode cX12_outputOf 25 = .ok (.if_icmp .ge 7, 3) := by decide +kernel
theorem dX12_outputOf_28 : decode cX12_outputOf 28 = .ok (.iconst 0, 1) := by decide +kernel
theorem dX12_outputOf_29 : decode cX12_outputOf 29 = .ok (.goto 4, 3) := by decide +kernel
theorem dX12_outputOf_32 : decode cX12_outputOf 32 = .ok (.iconst 1, 1) := by decide +kernel
theorem dX12_outputOf_33 : decode cX12_outputOf 33 = .ok (.invokevirtual 130, 3) := by decide +kernel
theorem dX12_outputOf_36 : decode cX12_outputOf 36 = .ok (.ifCond .eq 5, 3) := by decide +kernel
theorem dX12_outputOf_39 : decode cX12_outputOf 39 = .ok (.iconst 0, 1) := by decide +kernel
theorem dX12_outputOf_40 : decode cX12_outputOf 40 = .ok (.ireturn, 1) := by decide +kernel
theorem dX12_outputOf_41 : decode cX12_outputOf 41 = .ok (.iload_n 2, 1) := by decide +kernel
theorem dX12_outputOf_42 : decode cX12_outputOf 42 = .ok (.istore 4, 2) := by decide +kernel
theorem dX12_outputOf_44 : decode cX12_outputOf 44 = .ok (.iconst 0, 1) := by decide +kernel
theorem dX12_outputOf_45 : decode cX12_outputOf 45 = .ok (.istore 5, 2) := by decide +kernel
theorem dX12_outputOf_47 : decode cX12_outputOf 47 = .ok (.iload 4, 2) := by decide +kernel
theorem dX12_outputOf_49 : decode cX12_outputOf 49 = .ok (.ifCond .gt 13, 3) := by decide +kernel
theorem dX12_outputOf_52 : decode cX12_outputOf 52 = .ok (.aload_n 0, 1) := by decide +kernel
theorem dX12_outputOf_53 : decode cX12_outputOf 53 = .ok (.getfield 81, 3) := by decide +kernel
theorem dX12_outputOf_56 : decode cX12_outputOf 56 = .ok (.iload 5, 2) := by decide +kernel
theorem dX12_outputOf_58 : decode cX12_outputOf 58 = .ok (.baload, 1) := by decide +kernel
theorem dX12_outputOf_59 : decode cX12_outputOf 59 = .ok (.ifCond .ne 29, 3) := by decide +kernel
theorem dX12_outputOf_62 : decode cX12_outputOf 62 = .ok (.iload 4, 2) := by decide +kernel
theorem dX12_outputOf_64 : decode cX12_outputOf 64 = .ok (.aload_n 0, 1) := by decide +kernel
theorem dX12_outputOf_65 : decode cX12_outputOf 65 = .ok (.getfield 81, 3) := by decide +kernel
theorem dX12_outputOf_68 : decode cX12_outputOf 68 = .ok (.iload 5, 2) := by decide +kernel
theorem dX12_outputOf_70 : decode cX12_outputOf 70 = .ok (.baload, 1) := by decide +kernel
theorem dX12_outputOf_71 : decode cX12_outputOf 71 = .ok (.ifCond .eq 7, 3) := by decide +kernel
theorem dX12_outputOf_74 : decode cX12_outputOf 74 = .ok (.iconst 1, 1) := by decide +kernel
theorem dX12_outputOf_75 : decode cX12_outputOf 75 = .ok (.goto 4, 3) := by decide +kernel
theorem dX12_outputOf_78 : decode cX12_outputOf 78 = .ok (.iconst 0, 1) := by decide +kernel
theorem dX12_outputOf_79 : decode cX12_outputOf 79 = .ok (.isub, 1) := by decide +kernel
theorem dX12_outputOf_80 : decode cX12_outputOf 80 = .ok (.istore 4, 2) := by decide +kernel
theorem dX12_outputOf_82 : decode cX12_outputOf 82 = .ok (.iinc 5 1, 3) := by decide +kernel
theorem dX12_outputOf_85 : decode cX12_outputOf 85 = .ok (.goto (-38), 3) := by decide +kernel
theorem dX12_outputOf_88 : decode cX12_outputOf 88 = .ok (.iload 5, 2) := by decide +kernel
theorem dX12_outputOf_90 : decode cX12_outputOf 90 = .ok (.ireturn, 1) := by decide +kernel
theorem dX12_takes_0 : decode cX12_takes 0 = .ok (.aload_n 0, 1) := by decide +kernel
theorem dX12_takes_1 : decode cX12_takes 1 = .ok (.getfield 90, 3) := by decide +kernel
theorem dX12_takes_4 : decode cX12_takes 4 = .ok (.aload_n 0, 1) := by decide +kernel
theorem dX12_takes_5 : decode cX12_takes 5 = .ok (.getfield 238, 3) := by decide +kernel
theorem dX12_takes_8 : decode cX12_takes 8 = .ok (.iload_n 1, 1) := by decide +kernel
theorem dX12_takes_9 : decode cX12_takes 9 = .ok (.iastore, 1) := by decide +kernel
theorem dX12_takes_10 : decode cX12_takes 10 = .ok (.aload_n 0, 1) := by decide +kernel
theorem dX12_takes_11 : decode cX12_takes 11 = .ok (.getfield 93, 3) := by decide +kernel
theorem dX12_takes_14 : decode cX12_takes 14 = .ok (.aload_n 0, 1) := by decide +kernel
theorem dX12_takes_15 : decode cX12_takes 15 = .ok (.getfield 238, 3) := by decide +kernel
theorem dX12_takes_18 : decode cX12_takes 18 = .ok (.iload_n 2, 1) := by decide +kernel
theorem dX12_takes_19 : decode cX12_takes 19 = .ok (.iastore, 1) := by decide +kernel
theorem dX12_takes_20 : decode cX12_takes 20 = .ok (.aload_n 0, 1) := by decide +kernel
theorem dX12_takes_21 : decode cX12_takes 21 = .ok (.getfield 96, 3) := by decide +kernel
theorem dX12_takes_24 : decode cX12_takes 24 = .ok (.aload_n 0, 1) := by decide +kernel
theorem dX12_takes_25 : decode cX12_takes 25 = .ok (.getfield 238, 3) := by decide +kernel
theorem dX12_takes_28 : decode cX12_takes 28 = .ok (.iload_n 3, 1) := by decide +kernel
theorem dX12_takes_29 : decode cX12_takes 29 = .ok (.iastore, 1) := by decide +kernel
theorem dX12_takes_30 : decode cX12_takes 30 = .ok (.aload_n 0, 1) := by decide +kernel
theorem dX12_takes_31 : decode cX12_takes 31 = .ok (.getfield 99, 3) := by decide +kernel
theorem dX12_takes_34 : decode cX12_takes 34 = .ok (.aload_n 0, 1) := by decide +kernel
theorem dX12_takes_35 : decode cX12_takes 35 = .ok (.getfield 238, 3) := by decide +kernel
theorem dX12_takes_38 : decode cX12_takes 38 = .ok (.iload 4, 2) := by decide +kernel
theorem dX12_takes_40 : decode cX12_takes 40 = .ok (.iastore, 1) := by decide +kernel
theorem dX12_takes_41 : decode cX12_takes 41 = .ok (.aload_n 0, 1) := by decide +kernel
theorem dX12_takes_42 : decode cX12_takes 42 = .ok (.getfield 105, 3) := by decide +kernel
theorem dX12_takes_45 : decode cX12_takes 45 = .ok (.aload_n 0, 1) := by decide +kernel
theorem dX12_takes_46 : decode cX12_takes 46 = .ok (.getfield 238, 3) := by decide +kernel
theorem dX12_takes_49 : decode cX12_takes 49 = .ok (.iload 5, 2) := by decide +kernel
theorem dX12_takes_51 : decode cX12_takes 51 = .ok (.bastore, 1) := by decide +kernel
theorem dX12_takes_52 : decode cX12_takes 52 = .ok (.aload_n 0, 1) := by decide +kernel
theorem dX12_takes_53 : decode cX12_takes 53 = .ok (.dup, 1) := by decide +kernel
theorem dX12_takes_54 : decode cX12_takes 54 = .ok (.getfield 238, 3) := by decide +kernel
theorem dX12_takes_57 : decode cX12_takes 57 = .ok (.iconst 1, 1) := by decide +kernel
theorem dX12_takes_58 : decode cX12_takes 58 = .ok (.iadd, 1) := by decide +kernel
theorem dX12_takes_59 : decode cX12_takes 59 = .ok (.putfield 238, 3) := by decide +kernel
theorem dX12_takes_62 : decode cX12_takes 62 = .ok (.aload_n 0, 1) := by decide +kernel
theorem dX12_takes_63 : decode cX12_takes 63 = .ok (.getfield 111, 3) := by decide +kernel
theorem dX12_takes_66 : decode cX12_takes 66 = .ok (.iload_n 2, 1) := by decide +kernel
theorem dX12_takes_67 : decode cX12_takes 67 = .ok (.iload 4, 2) := by decide +kernel
theorem dX12_takes_69 : decode cX12_takes 69 = .ok (.aload_n 0, 1) := by decide +kernel
theorem dX12_takes_70 : decode cX12_takes 70 = .ok (.getfield 108, 3) := by decide +kernel
theorem dX12_takes_73 : decode cX12_takes 73 = .ok (.iload_n 2, 1) := by decide +kernel
theorem dX12_takes_74 : decode cX12_takes 74 = .ok (.iaload, 1) := by decide +kernel
theorem dX12_takes_75 : decode cX12_takes 75 = .ok (.aload_n 0, 1) := by decide +kernel
theorem dX12_takes_76 : decode cX12_takes 76 = .ok (.getfield 68, 3) := by decide +kernel
theorem dX12_takes_79 : decode cX12_takes 79 = .ok (.iload_n 3, 1) := by decide +kernel
theorem dX12_takes_80 : decode cX12_takes 80 = .ok (.iaload, 1) := by decide +kernel
theorem dX12_takes_81 : decode cX12_takes 81 = .ok (.imul, 1) := by decide +kernel
theorem dX12_takes_82 : decode cX12_takes 82 = .ok (.iadd, 1) := by decide +kernel
theorem dX12_takes_83 : decode cX12_takes 83 = .ok (.iastore, 1) := by decide +kernel
theorem dX12_takes_84 : decode cX12_takes 84 = .ok (.aload_n 0, 1) := by decide +kernel
theorem dX12_takes_85 : decode cX12_takes 85 = .ok (.getfield 114, 3) := by decide +kernel
theorem dX12_takes_88 : decode cX12_takes 88 = .ok (.iload_n 2, 1) := by decide +kernel
theorem dX12_takes_89 : decode cX12_takes 89 = .ok (.iload 5, 2) := by decide +kernel
theorem dX12_takes_91 : decode cX12_takes 91 = .ok (.bastore, 1) := by decide +kernel
theorem dX12_takes_92 : decode cX12_takes 92 = .ok (.aload_n 0, 1) := by decide +kernel
theorem dX12_takes_93 : decode cX12_takes 93 = .ok (.getfield 117, 3) := by decide +kernel
theorem dX12_takes_96 : decode cX12_takes 96 = .ok (.iload_n 3, 1) := by decide +kernel
theorem dX12_takes_97 : decode cX12_takes 97 = .ok (.aload_n 0, 1) := by decide +kernel
theorem dX12_takes_98 : decode cX12_takes 98 = .ok (.getfield 111, 3) := by decide +kernel
theorem dX12_takes_101 : decode cX12_takes 101 = .ok (.iload_n 2, 1) := by decide +kernel
theorem dX12_takes_102 : decode cX12_takes 102 = .ok (.iaload, 1) := by decide +kernel
theorem dX12_takes_103 : decode cX12_takes 103 = .ok (.iastore, 1) := by decide +kernel
theorem dX12_takes_104 : decode cX12_takes 104 = .ok (.return_, 1) := by decide +kernel
theorem dX12_latest_0 : decode cX12_latest 0 = .ok (.iconst (-1), 1) := by decide +kernel
theorem dX12_latest_1 : decode cX12_latest 1 = .ok (.istore_n 3, 1) := by decide +kernel
theorem dX12_latest_2 : decode cX12_latest 2 = .ok (.iconst 0, 1) := by decide +kernel
theorem dX12_latest_3 : decode cX12_latest 3 = .ok (.istore 4, 2) := by decide +kernel
theorem dX12_latest_5 : decode cX12_latest 5 = .ok (.iload 4, 2) := by decide +kernel
theorem dX12_latest_7 : decode cX12_latest 7 = .ok (.iload_n 1, 1) := by decide +kernel
theorem dX12_latest_8 : decode cX12_latest 8 = .ok (.if_icmp .ge 58, 3) := by decide +kernel
theorem dX12_latest_11 : decode cX12_latest 11 = .ok (.aload_n 0, 1) := by decide +kernel
theorem dX12_latest_12 : decode cX12_latest 12 = .ok (.getfield 111, 3) := by decide +kernel
theorem dX12_latest_15 : decode cX12_latest 15 = .ok (.iload 4, 2) := by decide +kernel
theorem dX12_latest_17 : decode cX12_latest 17 = .ok (.iaload, 1) := by decide +kernel
theorem dX12_latest_18 : decode cX12_latest 18 = .ok (.iload_n 2, 1) := by decide +kernel
theorem dX12_latest_19 : decode cX12_latest 19 = .ok (.if_icmp .le 39, 3) := by decide +kernel
theorem dX12_latest_22 : decode cX12_latest 22 = .ok (.aload_n 0, 1) := by decide +kernel
theorem dX12_latest_23 : decode cX12_latest 23 = .ok (.getfield 114, 3) := by decide +kernel
theorem dX12_latest_26 : decode cX12_latest 26 = .ok (.iload 4, 2) := by decide +kernel
theorem dX12_latest_28 : decode cX12_latest 28 = .ok (.baload, 1) := by decide +kernel
theorem dX12_latest_29 : decode cX12_latest 29 = .ok (.ifCond .ne 29, 3) := by decide +kernel
theorem dX12_latest_32 : decode cX12_latest 32 = .ok (.iload_n 3, 1) := by decide +kernel
theorem dX12_latest_33 : decode cX12_latest 33 = .ok (.iconst (-1), 1) := by decide +kernel
theorem dX12_latest_34 : decode cX12_latest 34 = .ok (.if_icmp .eq 19, 3) := by decide +kernel
theorem dX12_latest_37 : decode cX12_latest 37 = .ok (.aload_n 0, 1) := by decide +kernel
theorem dX12_latest_38 : decode cX12_latest 38 = .ok (.getfield 111, 3) := by decide +kernel
theorem dX12_latest_41 : decode cX12_latest 41 = .ok (.iload 4, 2) := by decide +kernel
theorem dX12_latest_43 : decode cX12_latest 43 = .ok (.iaload, 1) := by decide +kernel
theorem dX12_latest_44 : decode cX12_latest 44 = .ok (.aload_n 0, 1) := by decide +kernel
theorem dX12_latest_45 : decode cX12_latest 45 = .ok (.getfield 111, 3) := by decide +kernel
theorem dX12_latest_48 : decode cX12_latest 48 = .ok (.iload_n 3, 1) := by decide +kernel
theorem dX12_latest_49 : decode cX12_latest 49 = .ok (.iaload, 1) := by decide +kernel
theorem dX12_latest_50 : decode cX12_latest 50 = .ok (.if_icmp .le 8, 3) := by decide +kernel
theorem dX12_latest_53 : decode cX12_latest 53 = .ok (.iload 4, 2) := by decide +kernel
theorem dX12_latest_55 : decode cX12_latest 55 = .ok (.goto 4, 3) := by decide +kernel
theorem dX12_latest_58 : decode cX12_latest 58 = .ok (.iload_n 3, 1) := by decide +kernel
theorem dX12_latest_59 : decode cX12_latest 59 = .ok (.istore_n 3, 1) := by decide +kernel
theorem dX12_latest_60 : decode cX12_latest 60 = .ok (.iinc 4 1, 3) := by decide +kernel
theorem dX12_latest_63 : decode cX12_latest 63 = .ok (.goto (-58), 3) := by decide +kernel
theorem dX12_latest_66 : decode cX12_latest 66 = .ok (.iload_n 3, 1) := by decide +kernel
theorem dX12_latest_67 : decode cX12_latest 67 = .ok (.ireturn, 1) := by decide +kernel
theorem dX12_copies_0 : decode cX12_copies 0 = .ok (.iconst 0, 1) := by decide +kernel
theorem dX12_copies_1 : decode cX12_copies 1 = .ok (.istore 5, 2) := by decide +kernel
theorem dX12_copies_3 : decode cX12_copies 3 = .ok (.iconst 0, 1) := by decide +kernel
theorem dX12_copies_4 : decode cX12_copies 4 = .ok (.istore 6, 2) := by decide +kernel
theorem dX12_copies_6 : decode cX12_copies 6 = .ok (.iload 6, 2) := by decide +kernel
theorem dX12_copies_8 : decode cX12_copies 8 = .ok (.iload_n 2, 1) := by decide +kernel
theorem dX12_copies_9 : decode cX12_copies 9 = .ok (.if_icmp .ge 31, 3) := by decide +kernel
theorem dX12_copies_12 : decode cX12_copies 12 = .ok (.iload 5, 2) := by decide +kernel
theorem dX12_copies_14 : decode cX12_copies 14 = .ok (.aload_n 0, 1) := by decide +kernel
theorem dX12_copies_15 : decode cX12_copies 15 = .ok (.getfield 111, 3) := by decide +kernel
theorem dX12_copies_18 : decode cX12_copies 18 = .ok (.iload 6, 2) := by decide +kernel
theorem dX12_copies_20 : decode cX12_copies 20 = .ok (.iaload, 1) := by decide +kernel
theorem dX12_copies_21 : decode cX12_copies 21 = .ok (.iload 4, 2) := by decide +kernel
theorem dX12_copies_23 : decode cX12_copies 23 = .ok (.if_icmp .gt 7, 3) := by decide +kernel
theorem dX12_copies_26 : decode cX12_copies 26 = .ok (.iconst 1, 1) := by decide +kernel
theorem dX12_copies_27 : decode cX12_copies 27 = .ok (.goto 4, 3) := by decide +kernel
theorem dX12_copies_30 : decode cX12_copies 30 = .ok (.iconst 0, 1) := by decide +kernel
theorem dX12_copies_31 : decode cX12_copies 31 = .ok (.iadd, 1) := by decide +kernel
theorem dX12_copies_32 : decode cX12_copies 32 = .ok (.istore 5, 2) := by decide +kernel
theorem dX12_copies_34 : decode cX12_copies 34 = .ok (.iinc 6 1, 3) := by decide +kernel
theorem dX12_copies_37 : decode cX12_copies 37 = .ok (.goto (-31), 3) := by decide +kernel
theorem dX12_copies_40 : decode cX12_copies 40 = .ok (.aload_n 0, 1) := by decide +kernel
theorem dX12_copies_41 : decode cX12_copies 41 = .ok (.iload_n 2, 1) := by decide +kernel
theorem dX12_copies_42 : decode cX12_copies 42 = .ok (.iload 4, 2) := by decide +kernel
theorem dX12_copies_44 : decode cX12_copies 44 = .ok (.invokevirtual 241, 3) := by decide +kernel
theorem dX12_copies_47 : decode cX12_copies 47 = .ok (.istore 6, 2) := by decide +kernel
theorem dX12_copies_49 : decode cX12_copies 49 = .ok (.iconst 2, 1) := by decide +kernel
theorem dX12_copies_50 : decode cX12_copies 50 = .ok (.iload 5, 2) := by decide +kernel
theorem dX12_copies_52 : decode cX12_copies 52 = .ok (.imul, 1) := by decide +kernel
theorem dX12_copies_53 : decode cX12_copies 53 = .ok (.iload_n 2, 1) := by decide +kernel
theorem dX12_copies_54 : decode cX12_copies 54 = .ok (.if_icmp .lt 36, 3) := by decide +kernel
theorem dX12_copies_57 : decode cX12_copies 57 = .ok (.iload 6, 2) := by decide +kernel
theorem dX12_copies_59 : decode cX12_copies 59 = .ok (.iconst (-1), 1) := by decide +kernel
theorem dX12_copies_60 : decode cX12_copies 60 = .ok (.if_icmp .eq 30, 3) := by decide +kernel
theorem dX12_copies_63 : decode cX12_copies 63 = .ok (.iload 4, 2) := by decide +kernel
theorem dX12_copies_65 : decode cX12_copies 65 = .ok (.aload_n 0, 1) := by decide +kernel
theorem dX12_copies_66 : decode cX12_copies 66 = .ok (.getfield 108, 3) := by decide +kernel
theorem dX12_copies_69 : decode cX12_copies 69 = .ok (.iload 6, 2) := by decide +kernel
theorem dX12_copies_71 : decode cX12_copies 71 = .ok (.iaload, 1) := by decide +kernel
theorem dX12_copies_72 : decode cX12_copies 72 = .ok (.aload_n 0, 1) := by decide +kernel
theorem dX12_copies_73 : decode cX12_copies 73 = .ok (.getfield 68, 3) := by decide +kernel
theorem dX12_copies_76 : decode cX12_copies 76 = .ok (.iload_n 3, 1) := by decide +kernel
theorem dX12_copies_77 : decode cX12_copies 77 = .ok (.iaload, 1) := by decide +kernel
theorem dX12_copies_78 : decode cX12_copies 78 = .ok (.imul, 1) := by decide +kernel
theorem dX12_copies_79 : decode cX12_copies 79 = .ok (.iadd, 1) := by decide +kernel
theorem dX12_copies_80 : decode cX12_copies 80 = .ok (.aload_n 0, 1) := by decide +kernel
theorem dX12_copies_81 : decode cX12_copies 81 = .ok (.getfield 111, 3) := by decide +kernel
theorem dX12_copies_84 : decode cX12_copies 84 = .ok (.iload 6, 2) := by decide +kernel
theorem dX12_copies_86 : decode cX12_copies 86 = .ok (.iaload, 1) := by decide +kernel
theorem dX12_copies_87 : decode cX12_copies 87 = .ok (.if_icmp .lt 5, 3) := by decide +kernel
theorem dX12_copies_90 : decode cX12_copies 90 = .ok (.iconst 0, 1) := by decide +kernel
theorem dX12_copies_91 : decode cX12_copies 91 = .ok (.ireturn, 1) := by decide +kernel
theorem dX12_copies_92 : decode cX12_copies 92 = .ok (.iconst (-1), 1) := by decide +kernel
theorem dX12_copies_93 : decode cX12_copies 93 = .ok (.istore 7, 2) := by decide +kernel
theorem dX12_copies_95 : decode cX12_copies 95 = .ok (.iconst 0, 1) := by decide +kernel
theorem dX12_copies_96 : decode cX12_copies 96 = .ok (.istore 8, 2) := by decide +kernel
theorem dX12_copies_98 : decode cX12_copies 98 = .ok (.iload 8, 2) := by decide +kernel
theorem dX12_copies_100 : decode cX12_copies 100 = .ok (.aload_n 0, 1) := by decide +kernel
theorem dX12_copies_101 : decode cX12_copies 101 = .ok (.getfield 238, 3) := by decide +kernel
theorem dX12_copies_104 : decode cX12_copies 104 = .ok (.if_icmp .ge 46, 3) := by decide +kernel
theorem dX12_copies_107 : decode cX12_copies 107 = .ok (.aload_n 0, 1) := by decide +kernel
theorem dX12_copies_108 : decode cX12_copies 108 = .ok (.getfield 90, 3) := by decide +kernel
theorem dX12_copies_111 : decode cX12_copies 111 = .ok (.iload 8, 2) := by decide +kernel
theorem dX12_copies_113 : decode cX12_copies 113 = .ok (.iaload, 1) := by decide +kernel
theorem dX12_copies_114 : decode cX12_copies 114 = .ok (.iload_n 1, 1) := by decide +kernel
theorem dX12_copies_115 : decode cX12_copies 115 = .ok (.if_icmp .ne 25, 3) := by decide +kernel
theorem dX12_copies_118 : decode cX12_copies 118 = .ok (.aload_n 0, 1) := by decide +kernel
theorem dX12_copies_119 : decode cX12_copies 119 = .ok (.getfield 93, 3) := by decide +kernel
theorem dX12_copies_122 : decode cX12_copies 122 = .ok (.iload 8, 2) := by decide +kernel
theorem dX12_copies_124 : decode cX12_copies 124 = .ok (.iaload, 1) := by decide +kernel
theorem dX12_copies_125 : decode cX12_copies 125 = .ok (.iload 6, 2) := by decide +kernel
theorem dX12_copies_127 : decode cX12_copies 127 = .ok (.if_icmp .ne 13, 3) := by decide +kernel
theorem dX12_copies_130 : decode cX12_copies 130 = .ok (.aload_n 0, 1) := by decide +kernel
theorem dX12_copies_131 : decode cX12_copies 131 = .ok (.getfield 96, 3) := by decide +kernel
theorem dX12_copies_134 : decode cX12_copies 134 = .ok (.iload 8, 2) := by decide +kernel
theorem dX12_copies_136 : decode cX12_copies 136 = .ok (.iaload, 1) := by decide +kernel
theorem dX12_copies_137 : decode cX12_copies 137 = .ok (.goto 5, 3) := by decide +kernel
theorem dX12_copies_140 : decode cX12_copies 140 = .ok (.iload 7, 2) := by decide +kernel
theorem dX12_copies_142 : decode cX12_copies 142 = .ok (.istore 7, 2) := by decide +kernel
theorem dX12_copies_144 : decode cX12_copies 144 = .ok (.iinc 8 1, 3) := by decide +kernel
theorem dX12_copies_147 : decode cX12_copies 147 = .ok (.goto (-49), 3) := by decide +kernel
theorem dX12_copies_150 : decode cX12_copies 150 = .ok (.aload_n 0, 1) := by decide +kernel
theorem dX12_copies_151 : decode cX12_copies 151 = .ok (.iload_n 1, 1) := by decide +kernel
theorem dX12_copies_152 : decode cX12_copies 152 = .ok (.iload 6, 2) := by decide +kernel
theorem dX12_copies_154 : decode cX12_copies 154 = .ok (.iload_n 3, 1) := by decide +kernel
theorem dX12_copies_155 : decode cX12_copies 155 = .ok (.iload 4, 2) := by decide +kernel
theorem dX12_copies_157 : decode cX12_copies 157 = .ok (.iconst 1, 1) := by decide +kernel
theorem dX12_copies_158 : decode cX12_copies 158 = .ok (.invokevirtual 244, 3) := by decide +kernel
theorem dX12_copies_161 : decode cX12_copies 161 = .ok (.aload_n 0, 1) := by decide +kernel
theorem dX12_copies_162 : decode cX12_copies 162 = .ok (.getfield 117, 3) := by decide +kernel
theorem dX12_copies_165 : decode cX12_copies 165 = .ok (.iload 7, 2) := by decide +kernel
theorem dX12_copies_167 : decode cX12_copies 167 = .ok (.aload_n 0, 1) := by decide +kernel
theorem dX12_copies_168 : decode cX12_copies 168 = .ok (.getfield 111, 3) := by decide +kernel
theorem dX12_copies_171 : decode cX12_copies 171 = .ok (.iload 6, 2) := by decide +kernel
theorem dX12_copies_173 : decode cX12_copies 173 = .ok (.iaload, 1) := by decide +kernel
theorem dX12_copies_174 : decode cX12_copies 174 = .ok (.iastore, 1) := by decide +kernel
theorem dX12_copies_175 : decode cX12_copies 175 = .ok (.iconst 1, 1) := by decide +kernel
theorem dX12_copies_176 : decode cX12_copies 176 = .ok (.ireturn, 1) := by decide +kernel
theorem dX12_stage_0 : decode cX12_stage 0 = .ok (.aload_n 0, 1) := by decide +kernel
theorem dX12_stage_1 : decode cX12_stage 1 = .ok (.getfield 46, 3) := by decide +kernel
theorem dX12_stage_4 : decode cX12_stage 4 = .ok (.iload_n 1, 1) := by decide +kernel
theorem dX12_stage_5 : decode cX12_stage 5 = .ok (.iaload, 1) := by decide +kernel
theorem dX12_stage_6 : decode cX12_stage 6 = .ok (.istore_n 3, 1) := by decide +kernel
theorem dX12_stage_7 : decode cX12_stage 7 = .ok (.aload_n 0, 1) := by decide +kernel
theorem dX12_stage_8 : decode cX12_stage 8 = .ok (.getfield 238, 3) := by decide +kernel
theorem dX12_stage_11 : decode cX12_stage 11 = .ok (.istore 4, 2) := by decide +kernel
theorem dX12_stage_13 : decode cX12_stage 13 = .ok (.iconst 0, 1) := by decide +kernel
theorem dX12_stage_14 : decode cX12_stage 14 = .ok (.istore 5, 2) := by decide +kernel
theorem dX12_stage_16 : decode cX12_stage 16 = .ok (.iload 5, 2) := by decide +kernel
theorem dX12_stage_18 : decode cX12_stage 18 = .ok (.iload_n 3, 1) := by decide +kernel
theorem dX12_stage_19 : decode cX12_stage 19 = .ok (.if_icmp .ge 81, 3) := by decide +kernel
theorem dX12_stage_22 : decode cX12_stage 22 = .ok (.aload_n 0, 1) := by decide +kernel
theorem dX12_stage_23 : decode cX12_stage 23 = .ok (.iload_n 1, 1) := by decide +kernel
theorem dX12_stage_24 : decode cX12_stage 24 = .ok (.iload 5, 2) := by decide +kernel
theorem dX12_stage_26 : decode cX12_stage 26 = .ok (.invokevirtual 232, 3) := by decide +kernel
theorem dX12_stage_29 : decode cX12_stage 29 = .ok (.istore 6, 2) := by decide +kernel
theorem dX12_stage_31 : decode cX12_stage 31 = .ok (.iload 6, 2) := by decide +kernel
theorem dX12_stage_33 : decode cX12_stage 33 = .ok (.aload_n 0, 1) := by decide +kernel
theorem dX12_stage_34 : decode cX12_stage 34 = .ok (.getfield 62, 3) := by decide +kernel
theorem dX12_stage_37 : decode cX12_stage 37 = .ok (.if_icmp .le 13, 3) := by decide +kernel
theorem dX12_stage_40 : decode cX12_stage 40 = .ok (.iload 6, 2) := by decide +kernel
theorem dX12_stage_42 : decode cX12_stage 42 = .ok (.aload_n 0, 1) := by decide +kernel
theorem dX12_stage_43 : decode cX12_stage 43 = .ok (.getfield 62, 3) := by decide +kernel
theorem dX12_stage_46 : decode cX12_stage 46 = .ok (.isub, 1) := by decide +kernel
theorem dX12_stage_47 : decode cX12_stage 47 = .ok (.goto 4, 3) := by decide +kernel
theorem dX12_stage_50 : decode cX12_stage 50 = .ok (.iconst 0, 1) := by decide +kernel
theorem dX12_stage_51 : decode cX12_stage 51 = .ok (.istore 7, 2) := by decide +kernel
theorem dX12_stage_53 : decode cX12_stage 53 = .ok (.aload_n 0, 1) := by decide +kernel
theorem dX12_stage_54 : decode cX12_stage 54 = .ok (.getfield 108, 3) := by decide +kernel
theorem dX12_stage_57 : decode cX12_stage 57 = .ok (.iload 5, 2) := by decide +kernel
theorem dX12_stage_59 : decode cX12_stage 59 = .ok (.iconst 1, 1) := by decide +kernel
theorem dX12_stage_60 : decode cX12_stage 60 = .ok (.iload 6, 2) := by decide +kernel
theorem dX12_stage_62 : decode cX12_stage 62 = .ok (.iadd, 1) := by decide +kernel
theorem dX12_stage_63 : decode cX12_stage 63 = .ok (.iload 7, 2) := by decide +kernel
theorem dX12_stage_65 : decode cX12_stage 65 = .ok (.iadd, 1) := by decide +kernel
theorem dX12_stage_66 : decode cX12_stage 66 = .ok (.iastore, 1) := by decide +kernel
theorem dX12_stage_67 : decode cX12_stage 67 = .ok (.aload_n 0, 1) := by decide +kernel
theorem dX12_stage_68 : decode cX12_stage 68 = .ok (.dup, 1) := by decide +kernel
theorem dX12_stage_69 : decode cX12_stage 69 = .ok (.getfield 248, 3) := by decide +kernel
theorem dX12_stage_72 : decode cX12_stage 72 = .ok (.iload 7, 2) := by decide +kernel
theorem dX12_stage_74 : decode cX12_stage 74 = .ok (.iadd, 1) := by decide +kernel
theorem dX12_stage_75 : decode cX12_stage 75 = .ok (.putfield 248, 3) := by decide +kernel
theorem dX12_stage_78 : decode cX12_stage 78 = .ok (.aload_n 0, 1) := by decide +kernel
theorem dX12_stage_79 : decode cX12_stage 79 = .ok (.getfield 114, 3) := by decide +kernel
theorem dX12_stage_82 : decode cX12_stage 82 = .ok (.iload 5, 2) := by decide +kernel
theorem dX12_stage_84 : decode cX12_stage 84 = .ok (.iconst 0, 1) := by decide +kernel
theorem dX12_stage_85 : decode cX12_stage 85 = .ok (.bastore, 1) := by decide +kernel
theorem dX12_stage_86 : decode cX12_stage 86 = .ok (.aload_n 0, 1) := by decide +kernel
theorem dX12_stage_87 : decode cX12_stage 87 = .ok (.getfield 111, 3) := by decide +kernel
theorem dX12_stage_90 : decode cX12_stage 90 = .ok (.iload 5, 2) := by decide +kernel
theorem dX12_stage_92 : decode cX12_stage 92 = .ok (.iconst 0, 1) := by decide +kernel
theorem dX12_stage_93 : decode cX12_stage 93 = .ok (.iastore, 1) := by decide +kernel
theorem dX12_stage_94 : decode cX12_stage 94 = .ok (.iinc 5 1, 3) := by decide +kernel
theorem dX12_stage_97 : decode cX12_stage 97 = .ok (.goto (-81), 3) := by decide +kernel
theorem dX12_stage_100 : decode cX12_stage 100 = .ok (.iconst 0, 1) := by decide +kernel
theorem dX12_stage_101 : decode cX12_stage 101 = .ok (.istore 5, 2) := by decide +kernel
theorem dX12_stage_103 : decode cX12_stage 103 = .ok (.iload 5, 2) := by decide +kernel
theorem dX12_stage_105 : decode cX12_stage 105 = .ok (.aload_n 0, 1) := by decide +kernel
theorem dX12_stage_106 : decode cX12_stage 106 = .ok (.getfield 65, 3) := by decide +kernel
theorem dX12_stage_109 : decode cX12_stage 109 = .ok (.if_icmp .ge 17, 3) := by decide +kernel
theorem dX12_stage_112 : decode cX12_stage 112 = .ok (.aload_n 0, 1) := by decide +kernel
theorem dX12_stage_113 : decode cX12_stage 113 = .ok (.getfield 117, 3) := by decide +kernel
theorem dX12_stage_116 : decode cX12_stage 116 = .ok (.iload 5, 2) := by decide +kernel
theorem dX12_stage_118 : decode cX12_stage 118 = .ok (.iload_n 2, 1) := by decide +kernel
theorem dX12_stage_119 : decode cX12_stage 119 = .ok (.iastore, 1) := by decide +kernel
theorem dX12_stage_120 : decode cX12_stage 120 = .ok (.iinc 5 1, 3) := by decide +kernel
theorem dX12_stage_123 : decode cX12_stage 123 = .ok (.goto (-20), 3) := by decide +kernel
theorem dX12_stage_126 : decode cX12_stage 126 = .ok (.iconst 0, 1) := by decide +kernel
theorem dX12_stage_127 : decode cX12_stage 127 = .ok (.istore 5, 2) := by decide +kernel
theorem dX12_stage_129 : decode cX12_stage 129 = .ok (.iload_n 2, 1) := by decide +kernel
theorem dX12_stage_130 : decode cX12_stage 130 = .ok (.istore 6, 2) := by decide +kernel
theorem dX12_stage_132 : decode cX12_stage 132 = .ok (.iload_n 2, 1) := by decide +kernel
theorem dX12_stage_133 : decode cX12_stage 133 = .ok (.istore 7, 2) := by decide +kernel
theorem dX12_stage_135 : decode cX12_stage 135 = .ok (.iconst 1, 1) := by decide +kernel
theorem dX12_stage_136 : decode cX12_stage 136 = .ok (.istore 8, 2) := by decide +kernel
theorem dX12_stage_138 : decode cX12_stage 138 = .ok (.iload 8, 2) := by decide +kernel
theorem dX12_stage_140 : decode cX12_stage 140 = .ok (.ifCond .eq 224, 3) := by decide +kernel
theorem dX12_stage_143 : decode cX12_stage 143 = .ok (.iconst 0, 1) := by decide +kernel
theorem dX12_stage_144 : decode cX12_stage 144 = .ok (.istore 9, 2) := by decide +kernel
theorem dX12_stage_146 : decode cX12_stage 146 = .ok (.iconst 0, 1) := by decide +kernel
theorem dX12_stage_147 : decode cX12_stage 147 = .ok (.istore 10, 2) := by decide +kernel
theorem dX12_stage_149 : decode cX12_stage 149 = .ok (.iload 10, 2) := by decide +kernel
theorem dX12_stage_151 : decode cX12_stage 151 = .ok (.aload_n 0, 1) := by decide +kernel
theorem dX12_stage_152 : decode cX12_stage 152 = .ok (.getfield 65, 3) := by decide +kernel
theorem dX12_stage_155 : decode cX12_stage 155 = .ok (.if_icmp .ge 85, 3) := by decide +kernel
theorem dX12_stage_158 : decode cX12_stage 158 = .ok (.aload_n 0, 1) := by decide +kernel
theorem dX12_stage_159 : decode cX12_stage 159 = .ok (.getfield 117, 3) := by decide +kernel
theorem dX12_stage_162 : decode cX12_stage 162 = .ok (.iload 10, 2) := by decide +kernel
theorem dX12_stage_164 : decode cX12_stage 164 = .ok (.iaload, 1) := by decide +kernel
theorem dX12_stage_165 : decode cX12_stage 165 = .ok (.iload 6, 2) := by decide +kernel
theorem dX12_stage_167 : decode cX12_stage 167 = .ok (.if_icmp .gt 30, 3) := by decide +kernel
theorem dX12_stage_170 : decode cX12_stage 170 = .ok (.iload 5, 2) := by decide +kernel
theorem dX12_stage_172 : decode cX12_stage 172 = .ok (.iload_n 3, 1) := by decide +kernel
theorem dX12_stage_173 : decode cX12_stage 173 = .ok (.if_icmp .ge 24, 3) := by decide +kernel
theorem dX12_stage_176 : decode cX12_stage 176 = .ok (.aload_n 0, 1) := by decide +kernel
theorem dX12_stage_177 : decode cX12_stage 177 = .ok (.iload_n 1, 1) := by decide +kernel
theorem dX12_stage_178 : decode cX12_stage 178 = .ok (.iload 5, 2) := by decide +kernel
theorem dX12_stage_180 : decode cX12_stage 180 = .ok (.iload 10, 2) := by decide +kernel
theorem dX12_stage_182 : decode cX12_stage 182 = .ok (.iload 6, 2) := by decide +kernel
theorem dX12_stage_184 : decode cX12_stage 184 = .ok (.iconst 0, 1) := by decide +kernel
theorem dX12_stage_185 : decode cX12_stage 185 = .ok (.invokevirtual 244, 3) := by decide +kernel
theorem dX12_stage_188 : decode cX12_stage 188 = .ok (.iinc 5 1, 3) := by decide +kernel
theorem dX12_stage_191 : decode cX12_stage 191 = .ok (.iconst 1, 1) := by decide +kernel
theorem dX12_stage_192 : decode cX12_stage 192 = .ok (.istore 9, 2) := by decide +kernel
theorem dX12_stage_194 : decode cX12_stage 194 = .ok (.goto 40, 3) := by decide +kernel
theorem dX12_stage_197 : decode cX12_stage 197 = .ok (.aload_n 0, 1) := by decide +kernel
theorem dX12_stage_198 : decode cX12_stage 198 = .ok (.getfield 117, 3) := by decide +kernel
theorem dX12_stage_201 : decode cX12_stage 201 = .ok (.iload 10, 2) := by decide +kernel
theorem dX12_stage_203 : decode cX12_stage 203 = .ok (.iaload, 1) := by decide +kernel
theorem dX12_stage_204 : decode cX12_stage 204 = .ok (.iload 6, 2) := by decide +kernel
theorem dX12_stage_206 : decode cX12_stage 206 = .ok (.if_icmp .gt 28, 3) := by decide +kernel
theorem dX12_stage_209 : decode cX12_stage 209 = .ok (.aload_n 0, 1) := by decide +kernel
theorem dX12_stage_210 : decode cX12_stage 210 = .ok (.iload_n 1, 1) := by decide +kernel
theorem dX12_stage_211 : decode cX12_stage 211 = .ok (.iload_n 3, 1) := by decide +kernel
theorem dX12_stage_212 : decode cX12_stage 212 = .ok (.iload 10, 2) := by decide +kernel
theorem dX12_stage_214 : decode cX12_stage 214 = .ok (.iload 6, 2) := by decide +kernel
theorem dX12_stage_216 : decode cX12_stage 216 = .ok (.invokevirtual 251, 3) := by decide +kernel
theorem dX12_stage_219 : decode cX12_stage 219 = .ok (.ifCond .ne 8, 3) := by decide +kernel
theorem dX12_stage_222 : decode cX12_stage 222 = .ok (.iload 9, 2) := by decide +kernel
theorem dX12_stage_224 : decode cX12_stage 224 = .ok (.ifCond .eq 7, 3) := by decide +kernel
theorem dX12_stage_227 : decode cX12_stage 227 = .ok (.iconst 1, 1) := by decide +kernel
theorem dX12_stage_228 : decode cX12_stage 228 = .ok (.goto 4, 3) := by decide +kernel
theorem dX12_stage_231 : decode cX12_stage 231 = .ok (.iconst 0, 1) := by decide +kernel
theorem dX12_stage_232 : decode cX12_stage 232 = .ok (.istore 9, 2) := by decide +kernel
theorem dX12_stage_234 : decode cX12_stage 234 = .ok (.iinc 10 1, 3) := by decide +kernel
theorem dX12_stage_237 : decode cX12_stage 237 = .ok (.goto (-88), 3) := by decide +kernel
theorem dX12_stage_240 : decode cX12_stage 240 = .ok (.iconst (-1), 1) := by decide +kernel
theorem dX12_stage_241 : decode cX12_stage 241 = .ok (.istore 10, 2) := by decide +kernel
theorem dX12_stage_243 : decode cX12_stage 243 = .ok (.iload_n 2, 1) := by decide +kernel
theorem dX12_stage_244 : decode cX12_stage 244 = .ok (.istore 7, 2) := by decide +kernel
theorem dX12_stage_246 : decode cX12_stage 246 = .ok (.iconst 0, 1) := by decide +kernel
theorem dX12_stage_247 : decode cX12_stage 247 = .ok (.istore 11, 2) := by decide +kernel
theorem dX12_stage_249 : decode cX12_stage 249 = .ok (.iload 11, 2) := by decide +kernel
theorem dX12_stage_251 : decode cX12_stage 251 = .ok (.iload 5, 2) := by decide +kernel
theorem dX12_stage_253 : decode cX12_stage 253 = .ok (.if_icmp .ge 79, 3) := by decide +kernel
theorem dX12_stage_256 : decode cX12_stage 256 = .ok (.aload_n 0, 1) := by decide +kernel
theorem dX12_stage_257 : decode cX12_stage 257 = .ok (.getfield 111, 3) := by decide +kernel
theorem dX12_stage_260 : decode cX12_stage 260 = .ok (.iload 11, 2) := by decide +kernel
theorem dX12_stage_262 : decode cX12_stage 262 = .ok (.iaload, 1) := by decide +kernel
theorem dX12_stage_263 : decode cX12_stage 263 = .ok (.iload 6, 2) := by decide +kernel
theorem dX12_stage_265 : decode cX12_stage 265 = .ok (.if_icmp .le 31, 3) := by decide +kernel
theorem dX12_stage_268 : decode cX12_stage 268 = .ok (.iload 10, 2) := by decide +kernel
theorem dX12_stage_270 : decode cX12_stage 270 = .ok (.iconst (-1), 1) := by decide +kernel
theorem dX12_stage_271 : decode cX12_stage 271 = .ok (.if_icmp .eq 15, 3) := by decide +kernel
theorem dX12_stage_274 : decode cX12_stage 274 = .ok (.aload_n 0, 1) := by decide +kernel
theorem dX12_stage_275 : decode cX12_stage 275 = .ok (.getfield 111, 3) := by decide +kernel
theorem dX12_stage_278 : decode cX12_stage 278 = .ok (.iload 11, 2) := by decide +kernel
theorem dX12_stage_280 : decode cX12_stage 280 = .ok (.iaload, 1) := by decide +kernel
theorem dX12_stage_281 : decode cX12_stage 281 = .ok (.iload 10, 2) := by decide +kernel
theorem dX12_stage_283 : decode cX12_stage 283 = .ok (.if_icmp .ge 13, 3) := by decide +kernel
theorem dX12_stage_286 : decode cX12_stage 286 = .ok (.aload_n 0, 1) := by decide +kernel
theorem dX12_stage_287 : decode cX12_stage 287 = .ok (.getfield 111, 3) := by decide +kernel
theorem dX12_stage_290 : decode cX12_stage 290 = .ok (.iload 11, 2) := by decide +kernel
theorem dX12_stage_292 : decode cX12_stage 292 = .ok (.iaload, 1) := by decide +kernel
theorem dX12_stage_293 : decode cX12_stage 293 = .ok (.goto 5, 3) := by decide +kernel
theorem dX12_stage_296 : decode cX12_stage 296 = .ok (.iload 10, 2) := by decide +kernel
theorem dX12_stage_298 : decode cX12_stage 298 = .ok (.istore 10, 2) := by decide +kernel
theorem dX12_stage_300 : decode cX12_stage 300 = .ok (.aload_n 0, 1) := by decide +kernel
theorem dX12_stage_301 : decode cX12_stage 301 = .ok (.getfield 111, 3) := by decide +kernel
theorem dX12_stage_304 : decode cX12_stage 304 = .ok (.iload 11, 2) := by decide +kernel
theorem dX12_stage_306 : decode cX12_stage 306 = .ok (.iaload, 1) := by decide +kernel
theorem dX12_stage_307 : decode cX12_stage 307 = .ok (.iload 7, 2) := by decide +kernel
theorem dX12_stage_309 : decode cX12_stage 309 = .ok (.if_icmp .le 13, 3) := by decide +kernel
theorem dX12_stage_312 : decode cX12_stage 312 = .ok (.aload_n 0, 1) := by decide +kernel
theorem dX12_stage_313 : decode cX12_stage 313 = .ok (.getfield 111, 3) := by decide +kernel
theorem dX12_stage_316 : decode cX12_stage 316 = .ok (.iload 11, 2) := by decide +kernel
theorem dX12_stage_318 : decode cX12_stage 318 = .ok (.iaload, 1) := by decide +kernel
theorem dX12_stage_319 : decode cX12_stage 319 = .ok (.goto 5, 3) := by decide +kernel
theorem dX12_stage_322 : decode cX12_stage 322 = .ok (.iload 7, 2) := by decide +kernel
theorem dX12_stage_324 : decode cX12_stage 324 = .ok (.istore 7, 2) := by decide +kernel
theorem dX12_stage_326 : decode cX12_stage 326 = .ok (.iinc 11 1, 3) := by decide +kernel
theorem dX12_stage_329 : decode cX12_stage 329 = .ok (.goto (-80), 3) := by decide +kernel
theorem dX12_stage_332 : decode cX12_stage 332 = .ok (.iload 10, 2) := by decide +kernel
theorem dX12_stage_334 : decode cX12_stage 334 = .ok (.iconst (-1), 1) := by decide +kernel
theorem dX12_stage_335 : decode cX12_stage 335 = .ok (.if_icmp .eq 7, 3) := by decide +kernel
theorem dX12_stage_338 : decode cX12_stage 338 = .ok (.iconst 1, 1) := by decide +kernel
theorem dX12_stage_339 : decode cX12_stage 339 = .ok (.goto 4, 3) := by decide +kernel
theorem dX12_stage_342 : decode cX12_stage 342 = .ok (.iconst 0, 1) := by decide +kernel
theorem dX12_stage_343 : decode cX12_stage 343 = .ok (.istore 8, 2) := by decide +kernel
theorem dX12_stage_345 : decode cX12_stage 345 = .ok (.iload 9, 2) := by decide +kernel
theorem dX12_stage_347 : decode cX12_stage 347 = .ok (.ifCond .eq 10, 3) := by decide +kernel
theorem dX12_stage_350 : decode cX12_stage 350 = .ok (.iload 6, 2) := by decide +kernel
theorem dX12_stage_352 : decode cX12_stage 352 = .ok (.iconst 1, 1) := by decide +kernel
theorem dX12_stage_353 : decode cX12_stage 353 = .ok (.iadd, 1) := by decide +kernel
theorem dX12_stage_354 : decode cX12_stage 354 = .ok (.goto 5, 3) := by decide +kernel
theorem dX12_stage_357 : decode cX12_stage 357 = .ok (.iload 10, 2) := by decide +kernel
theorem dX12_stage_359 : decode cX12_stage 359 = .ok (.istore 6, 2) := by decide +kernel
theorem dX12_stage_361 : decode cX12_stage 361 = .ok (.goto (-223), 3) := by decide +kernel
theorem dX12_stage_364 : decode cX12_stage 364 = .ok (.iload 4, 2) := by decide +kernel
theorem dX12_stage_366 : decode cX12_stage 366 = .ok (.istore 9, 2) := by decide +kernel
theorem dX12_stage_368 : decode cX12_stage 368 = .ok (.iload 9, 2) := by decide +kernel
theorem dX12_stage_370 : decode cX12_stage 370 = .ok (.aload_n 0, 1) := by decide +kernel
theorem dX12_stage_371 : decode cX12_stage 371 = .ok (.getfield 238, 3) := by decide +kernel
theorem dX12_stage_374 : decode cX12_stage 374 = .ok (.if_icmp .ge 28, 3) := by decide +kernel
theorem dX12_stage_377 : decode cX12_stage 377 = .ok (.aload_n 0, 1) := by decide +kernel
theorem dX12_stage_378 : decode cX12_stage 378 = .ok (.getfield 102, 3) := by decide +kernel
theorem dX12_stage_381 : decode cX12_stage 381 = .ok (.iload 9, 2) := by decide +kernel
theorem dX12_stage_383 : decode cX12_stage 383 = .ok (.aload_n 0, 1) := by decide +kernel
theorem dX12_stage_384 : decode cX12_stage 384 = .ok (.getfield 111, 3) := by decide +kernel
theorem dX12_stage_387 : decode cX12_stage 387 = .ok (.aload_n 0, 1) := by decide +kernel
theorem dX12_stage_388 : decode cX12_stage 388 = .ok (.getfield 93, 3) := by decide +kernel
theorem dX12_stage_391 : decode cX12_stage 391 = .ok (.iload 9, 2) := by decide +kernel
theorem dX12_stage_393 : decode cX12_stage 393 = .ok (.iaload, 1) := by decide +kernel
theorem dX12_stage_394 : decode cX12_stage 394 = .ok (.iaload, 1) := by decide +kernel
theorem dX12_stage_395 : decode cX12_stage 395 = .ok (.iastore, 1) := by decide +kernel
theorem dX12_stage_396 : decode cX12_stage 396 = .ok (.iinc 9 1, 3) := by decide +kernel
theorem dX12_stage_399 : decode cX12_stage 399 = .ok (.goto (-31), 3) := by decide +kernel
theorem dX12_stage_402 : decode cX12_stage 402 = .ok (.iload 7, 2) := by decide +kernel
theorem dX12_stage_404 : decode cX12_stage 404 = .ok (.ireturn, 1) := by decide +kernel
theorem dX12_keeps_0 : decode cX12_keeps 0 = .ok (.iconst 0, 1) := by decide +kernel
theorem dX12_keeps_1 : decode cX12_keeps 1 = .ok (.istore_n 1, 1) := by decide +kernel
theorem dX12_keeps_2 : decode cX12_keeps 2 = .ok (.iload_n 1, 1) := by decide +kernel
theorem dX12_keeps_3 : decode cX12_keeps 3 = .ok (.aload_n 0, 1) := by decide +kernel
theorem dX12_keeps_4 : decode cX12_keeps 4 = .ok (.getfield 123, 3) := by decide +kernel
theorem dX12_keeps_7 : decode cX12_keeps 7 = .ok (.if_icmp .ge 38, 3) := by decide +kernel
theorem dX12_keeps_10 : decode cX12_keeps 10 = .ok (.aload_n 0, 1) := by decide +kernel
theorem dX12_keeps_11 : decode cX12_keeps 11 = .ok (.getfield 87, 3) := by decide +kernel
theorem dX12_keeps_14 : decode cX12_keeps 14 = .ok (.iload_n 1, 1) := by decide +kernel
theorem dX12_keeps_15 : decode cX12_keeps 15 = .ok (.baload, 1) := by decide +kernel
theorem dX12_keeps_16 : decode cX12_keeps 16 = .ok (.ifCond .eq 23, 3) := by decide +kernel
theorem dX12_keeps_19 : decode cX12_keeps 19 = .ok (.aload_n 0, 1) := by decide +kernel
theorem dX12_keeps_20 : decode cX12_keeps 20 = .ok (.dup, 1) := by decide +kernel
theorem dX12_keeps_21 : decode cX12_keeps 21 = .ok (.getfield 255, 3) := by decide +kernel
theorem dX12_keeps_24 : decode cX12_keeps 24 = .ok (.iconst 1, 1) := by decide +kernel
theorem dX12_keeps_25 : decode cX12_keeps 25 = .ok (.iadd, 1) := by decide +kernel
theorem dX12_keeps_26 : decode cX12_keeps 26 = .ok (.putfield 255, 3) := by decide +kernel
theorem dX12_keeps_29 : decode cX12_keeps 29 = .ok (.aload_n 0, 1) := by decide +kernel
theorem dX12_keeps_30 : decode cX12_keeps 30 = .ok (.getfield 78, 3) := by decide +kernel
theorem dX12_keeps_33 : decode cX12_keeps 33 = .ok (.iload_n 1, 1) := by decide +kernel
theorem dX12_keeps_34 : decode cX12_keeps 34 = .ok (.aload_n 0, 1) := by decide +kernel
theorem dX12_keeps_35 : decode cX12_keeps 35 = .ok (.getfield 255, 3) := by decide +kernel
theorem dX12_keeps_38 : decode cX12_keeps 38 = .ok (.iastore, 1) := by decide +kernel
theorem dX12_keeps_39 : decode cX12_keeps 39 = .ok (.iinc 1 1, 3) := by decide +kernel
theorem dX12_keeps_42 : decode cX12_keeps 42 = .ok (.goto (-40), 3) := by decide +kernel
theorem dX12_keeps_45 : decode cX12_keeps 45 = .ok (.iconst 0, 1) := by decide +kernel
theorem dX12_keeps_46 : decode cX12_keeps 46 = .ok (.istore_n 1, 1) := by decide +kernel
theorem dX12_keeps_47 : decode cX12_keeps 47 = .ok (.iload_n 1, 1) := by decide +kernel
theorem dX12_keeps_48 : decode cX12_keeps 48 = .ok (.aload_n 0, 1) := by decide +kernel
theorem dX12_keeps_49 : decode cX12_keeps 49 = .ok (.getfield 123, 3) := by decide +kernel
theorem dX12_keeps_52 : decode cX12_keeps 52 = .ok (.if_icmp .ge 85, 3) := by decide +kernel
theorem dX12_keeps_55 : decode cX12_keeps 55 = .ok (.aload_n 0, 1) := by decide +kernel
theorem dX12_keeps_56 : decode cX12_keeps 56 = .ok (.getfield 71, 3) := by decide +kernel
theorem dX12_keeps_59 : decode cX12_keeps 59 = .ok (.iload_n 1, 1) := by decide +kernel
theorem dX12_keeps_60 : decode cX12_keeps 60 = .ok (.baload, 1) := by decide +kernel
theorem dX12_keeps_61 : decode cX12_keeps 61 = .ok (.ifCond .eq 70, 3) := by decide +kernel
theorem dX12_keeps_64 : decode cX12_keeps 64 = .ok (.aload_n 0, 1) := by decide +kernel
theorem dX12_keeps_65 : decode cX12_keeps 65 = .ok (.getfield 84, 3) := by decide +kernel
theorem dX12_keeps_68 : decode cX12_keeps 68 = .ok (.iload_n 1, 1) := by decide +kernel
theorem dX12_keeps_69 : decode cX12_keeps 69 = .ok (.baload, 1) := by decide +kernel
theorem dX12_keeps_70 : decode cX12_keeps 70 = .ok (.ifCond .eq 61, 3) := by decide +kernel
theorem dX12_keeps_73 : decode cX12_keeps 73 = .ok (.aload_n 0, 1) := by decide +kernel
theorem dX12_keeps_74 : decode cX12_keeps 74 = .ok (.getfield 75, 3) := by decide +kernel
theorem dX12_keeps_77 : decode cX12_keeps 77 = .ok (.iload_n 1, 1) := by decide +kernel
theorem dX12_keeps_78 : decode cX12_keeps 78 = .ok (.baload, 1) := by decide +kernel
theorem dX12_keeps_79 : decode cX12_keeps 79 = .ok (.ifCond .ne 52, 3) := by decide +kernel
theorem dX12_keeps_82 : decode cX12_keeps 82 = .ok (.aload_n 0, 1) := by decide +kernel
theorem dX12_keeps_83 : decode cX12_keeps 83 = .ok (.iload_n 1, 1) := by decide +kernel
theorem dX12_keeps_84 : decode cX12_keeps 84 = .ok (.invokevirtual 152, 3) := by decide +kernel
theorem dX12_keeps_87 : decode cX12_keeps 87 = .ok (.aload_n 0, 1) := by decide +kernel
theorem dX12_keeps_88 : decode cX12_keeps 88 = .ok (.getfield 220, 3) := by decide +kernel
theorem dX12_keeps_91 : decode cX12_keeps 91 = .ok (.if_icmp .gt 40, 3) := by decide +kernel
theorem dX12_keeps_94 : decode cX12_keeps 94 = .ok (.aload_n 0, 1) := by decide +kernel
theorem dX12_keeps_95 : decode cX12_keeps 95 = .ok (.aload_n 0, 1) := by decide +kernel
theorem dX12_keeps_96 : decode cX12_keeps 96 = .ok (.iload_n 1, 1) := by decide +kernel
theorem dX12_keeps_97 : decode cX12_keeps 97 = .ok (.invokevirtual 152, 3) := by decide +kernel
theorem dX12_keeps_100 : decode cX12_keeps 100 = .ok (.invokevirtual 223, 3) := by decide +kernel
theorem dX12_keeps_103 : decode cX12_keeps 103 = .ok (.pop, 1) := by decide +kernel
theorem dX12_keeps_104 : decode cX12_keeps 104 = .ok (.aload_n 0, 1) := by decide +kernel
theorem dX12_keeps_105 : decode cX12_keeps 105 = .ok (.getfield 75, 3) := by decide +kernel
theorem dX12_keeps_108 : decode cX12_keeps 108 = .ok (.iload_n 1, 1) := by decide +kernel
theorem dX12_keeps_109 : decode cX12_keeps 109 = .ok (.iconst 1, 1) := by decide +kernel
theorem dX12_keeps_110 : decode cX12_keeps 110 = .ok (.bastore, 1) := by decide +kernel
theorem dX12_keeps_111 : decode cX12_keeps 111 = .ok (.aload_n 0, 1) := by decide +kernel
theorem dX12_keeps_112 : decode cX12_keeps 112 = .ok (.dup, 1) := by decide +kernel
theorem dX12_keeps_113 : decode cX12_keeps 113 = .ok (.getfield 255, 3) := by decide +kernel
theorem dX12_keeps_116 : decode cX12_keeps 116 = .ok (.iconst 1, 1) := by decide +kernel
theorem dX12_keeps_117 : decode cX12_keeps 117 = .ok (.iadd, 1) := by decide +kernel
theorem dX12_keeps_118 : decode cX12_keeps 118 = .ok (.putfield 255, 3) := by decide +kernel
theorem dX12_keeps_121 : decode cX12_keeps 121 = .ok (.aload_n 0, 1) := by decide +kernel
theorem dX12_keeps_122 : decode cX12_keeps 122 = .ok (.getfield 78, 3) := by decide +kernel
theorem dX12_keeps_125 : decode cX12_keeps 125 = .ok (.iload_n 1, 1) := by decide +kernel
theorem dX12_keeps_126 : decode cX12_keeps 126 = .ok (.aload_n 0, 1) := by decide +kernel
theorem dX12_keeps_127 : decode cX12_keeps 127 = .ok (.getfield 255, 3) := by decide +kernel
theorem dX12_keeps_130 : decode cX12_keeps 130 = .ok (.iastore, 1) := by decide +kernel
theorem dX12_keeps_131 : decode cX12_keeps 131 = .ok (.iinc 1 1, 3) := by decide +kernel
theorem dX12_keeps_134 : decode cX12_keeps 134 = .ok (.goto (-87), 3) := by decide +kernel
theorem dX12_keeps_137 : decode cX12_keeps 137 = .ok (.return_, 1) := by decide +kernel
theorem dX12_run_0 : decode cX12_run 0 = .ok (.aload_n 0, 1) := by decide +kernel
theorem dX12_run_1 : decode cX12_run 1 = .ok (.aload_n 0, 1) := by decide +kernel
theorem dX12_run_2 : decode cX12_run 2 = .ok (.iload_n 1, 1) := by decide +kernel
theorem dX12_run_3 : decode cX12_run 3 = .ok (.invokevirtual 138, 3) := by decide +kernel
theorem dX12_run_6 : decode cX12_run 6 = .ok (.ifCond .eq 7, 3) := by decide +kernel
theorem dX12_run_9 : decode cX12_run 9 = .ok (.iconst 0, 1) := by decide +kernel
theorem dX12_run_10 : decode cX12_run 10 = .ok (.goto 4, 3) := by decide +kernel
theorem dX12_run_13 : decode cX12_run 13 = .ok (.iconst 1, 1) := by decide +kernel
theorem dX12_run_14 : decode cX12_run 14 = .ok (.invokevirtual 130, 3) := by decide +kernel
theorem dX12_run_17 : decode cX12_run 17 = .ok (.ifCond .eq 5, 3) := by decide +kernel
theorem dX12_run_20 : decode cX12_run 20 = .ok (.iconst 0, 1) := by decide +kernel
theorem dX12_run_21 : decode cX12_run 21 = .ok (.ireturn, 1) := by decide +kernel
theorem dX12_run_22 : decode cX12_run 22 = .ok (.aload_n 0, 1) := by decide +kernel
theorem dX12_run_23 : decode cX12_run 23 = .ok (.iload_n 1, 1) := by decide +kernel
theorem dX12_run_24 : decode cX12_run 24 = .ok (.invokevirtual 235, 3) := by decide +kernel
theorem dX12_run_27 : decode cX12_run 27 = .ok (.pop, 1) := by decide +kernel
theorem dX12_run_28 : decode cX12_run 28 = .ok (.aload_n 0, 1) := by decide +kernel
theorem dX12_run_29 : decode cX12_run 29 = .ok (.iconst 0, 1) := by decide +kernel
theorem dX12_run_30 : decode cX12_run 30 = .ok (.putfield 258, 3) := by decide +kernel
theorem dX12_run_33 : decode cX12_run 33 = .ok (.aload_n 0, 1) := by decide +kernel
theorem dX12_run_34 : decode cX12_run 34 = .ok (.iconst 0, 1) := by decide +kernel
theorem dX12_run_35 : decode cX12_run 35 = .ok (.putfield 248, 3) := by decide +kernel
theorem dX12_run_38 : decode cX12_run 38 = .ok (.aload_n 0, 1) := by decide +kernel
theorem dX12_run_39 : decode cX12_run 39 = .ok (.iconst 0, 1) := by decide +kernel
theorem dX12_run_40 : decode cX12_run 40 = .ok (.putfield 238, 3) := by decide +kernel
theorem dX12_run_43 : decode cX12_run 43 = .ok (.aload_n 0, 1) := by decide +kernel
theorem dX12_run_44 : decode cX12_run 44 = .ok (.aload_n 0, 1) := by decide +kernel
theorem dX12_run_45 : decode cX12_run 45 = .ok (.getfield 65, 3) := by decide +kernel
theorem dX12_run_48 : decode cX12_run 48 = .ok (.putfield 261, 3) := by decide +kernel
theorem dX12_run_51 : decode cX12_run 51 = .ok (.iconst 0, 1) := by decide +kernel
theorem dX12_run_52 : decode cX12_run 52 = .ok (.istore_n 2, 1) := by decide +kernel
theorem dX12_run_53 : decode cX12_run 53 = .ok (.iload_n 2, 1) := by decide +kernel
theorem dX12_run_54 : decode cX12_run 54 = .ok (.iload_n 1, 1) := by decide +kernel
theorem dX12_run_55 : decode cX12_run 55 = .ok (.if_icmp .gt 38, 3) := by decide +kernel
theorem dX12_run_58 : decode cX12_run 58 = .ok (.aload_n 0, 1) := by decide +kernel
theorem dX12_run_59 : decode cX12_run 59 = .ok (.aload_n 0, 1) := by decide +kernel
theorem dX12_run_60 : decode cX12_run 60 = .ok (.getfield 81, 3) := by decide +kernel
theorem dX12_run_63 : decode cX12_run 63 = .ok (.iload_n 2, 1) := by decide +kernel
theorem dX12_run_64 : decode cX12_run 64 = .ok (.baload, 1) := by decide +kernel
theorem dX12_run_65 : decode cX12_run 65 = .ok (.ifCond .eq 15, 3) := by decide +kernel
theorem dX12_run_68 : decode cX12_run 68 = .ok (.aload_n 0, 1) := by decide +kernel
theorem dX12_run_69 : decode cX12_run 69 = .ok (.iload_n 2, 1) := by decide +kernel
theorem dX12_run_70 : decode cX12_run 70 = .ok (.aload_n 0, 1) := by decide +kernel
theorem dX12_run_71 : decode cX12_run 71 = .ok (.getfield 258, 3) := by decide +kernel
theorem dX12_run_74 : decode cX12_run 74 = .ok (.invokevirtual 264, 3) := by decide +kernel
theorem dX12_run_77 : decode cX12_run 77 = .ok (.goto 7, 3) := by decide +kernel
theorem dX12_run_80 : decode cX12_run 80 = .ok (.aload_n 0, 1) := by decide +kernel
theorem dX12_run_81 : decode cX12_run 81 = .ok (.getfield 258, 3) := by decide +kernel
theorem dX12_run_84 : decode cX12_run 84 = .ok (.putfield 258, 3) := by decide +kernel
theorem dX12_run_87 : decode cX12_run 87 = .ok (.iinc 2 1, 3) := by decide +kernel
theorem dX12_run_90 : decode cX12_run 90 = .ok (.goto (-37), 3) := by decide +kernel
theorem dX12_run_93 : decode cX12_run 93 = .ok (.aload_n 0, 1) := by decide +kernel
theorem dX12_run_94 : decode cX12_run 94 = .ok (.invokevirtual 267, 3) := by decide +kernel
theorem dX12_run_97 : decode cX12_run 97 = .ok (.aload_n 0, 1) := by decide +kernel
theorem dX12_run_98 : decode cX12_run 98 = .ok (.getfield 258, 3) := by decide +kernel
theorem dX12_run_101 : decode cX12_run 101 = .ok (.ireturn, 1) := by decide +kernel
theorem dX12_ticks_0 : decode cX12_ticks 0 = .ok (.aload_n 0, 1) := by decide +kernel
theorem dX12_ticks_1 : decode cX12_ticks 1 = .ok (.aload_n 0, 1) := by decide +kernel
theorem dX12_ticks_2 : decode cX12_ticks 2 = .ok (.getfield 258, 3) := by decide +kernel
theorem dX12_ticks_5 : decode cX12_ticks 5 = .ok (.invokevirtual 144, 3) := by decide +kernel
theorem dX12_ticks_8 : decode cX12_ticks 8 = .ok (.ireturn, 1) := by decide +kernel
theorem dX12_spilled_0 : decode cX12_spilled 0 = .ok (.aload_n 0, 1) := by decide +kernel
theorem dX12_spilled_1 : decode cX12_spilled 1 = .ok (.aload_n 0, 1) := by decide +kernel
theorem dX12_spilled_2 : decode cX12_spilled 2 = .ok (.getfield 248, 3) := by decide +kernel
theorem dX12_spilled_5 : decode cX12_spilled 5 = .ok (.invokevirtual 144, 3) := by decide +kernel
theorem dX12_spilled_8 : decode cX12_spilled 8 = .ok (.ireturn, 1) := by decide +kernel
theorem dX12_attempts_0 : decode cX12_attempts 0 = .ok (.aload_n 0, 1) := by decide +kernel
theorem dX12_attempts_1 : decode cX12_attempts 1 = .ok (.aload_n 0, 1) := by decide +kernel
theorem dX12_attempts_2 : decode cX12_attempts 2 = .ok (.getfield 238, 3) := by decide +kernel
theorem dX12_attempts_5 : decode cX12_attempts 5 = .ok (.invokevirtual 144, 3) := by decide +kernel
theorem dX12_attempts_8 : decode cX12_attempts 8 = .ok (.ireturn, 1) := by decide +kernel
theorem dX12_ofAttempt_0 : decode cX12_ofAttempt 0 = .ok (.aload_n 0, 1) := by decide +kernel
theorem dX12_ofAttempt_1 : decode cX12_ofAttempt 1 = .ok (.iload_n 2, 1) := by decide +kernel
theorem dX12_ofAttempt_2 : decode cX12_ofAttempt 2 = .ok (.ifCond .lt 15, 3) := by decide +kernel
theorem dX12_ofAttempt_5 : decode cX12_ofAttempt 5 = .ok (.iload_n 2, 1) := by decide +kernel
theorem dX12_ofAttempt_6 : decode cX12_ofAttempt 6 = .ok (.aload_n 0, 1) := by decide +kernel
theorem dX12_ofAttempt_7 : decode cX12_ofAttempt 7 = .ok (.getfield 238, 3) := by decide +kernel
theorem dX12_ofAttempt_10 : decode cX12_ofAttempt 10 = .ok (.if_icmp .ge 7, 3) := by decide +kernel
theorem dX12_ofAttempt_13 : decode cX12_ofAttempt 13 = .ok (.iconst 0, 1) := by decide +kernel
theorem dX12_ofAttempt_14 : decode cX12_ofAttempt 14 = .ok (.goto 4, 3) := by decide +kernel
theorem dX12_ofAttempt_17 : decode cX12_ofAttempt 17 = .ok (.iconst 1, 1) := by decide +kernel
theorem dX12_ofAttempt_18 : decode cX12_ofAttempt 18 = .ok (.invokevirtual 130, 3) := by decide +kernel
theorem dX12_ofAttempt_21 : decode cX12_ofAttempt 21 = .ok (.ifCond .eq 7, 3) := by decide +kernel
theorem dX12_ofAttempt_24 : decode cX12_ofAttempt 24 = .ok (.iconst 0, 1) := by decide +kernel
theorem dX12_ofAttempt_25 : decode cX12_ofAttempt 25 = .ok (.goto 6, 3) := by decide +kernel
theorem dX12_ofAttempt_28 : decode cX12_ofAttempt 28 = .ok (.aload_n 1, 1) := by decide +kernel
theorem dX12_ofAttempt_29 : decode cX12_ofAttempt 29 = .ok (.iload_n 2, 1) := by decide +kernel
theorem dX12_ofAttempt_30 : decode cX12_ofAttempt 30 = .ok (.iaload, 1) := by decide +kernel
theorem dX12_ofAttempt_31 : decode cX12_ofAttempt 31 = .ok (.ireturn, 1) := by decide +kernel
theorem dX12_nodeOf_0 : decode cX12_nodeOf 0 = .ok (.aload_n 0, 1) := by decide +kernel
theorem dX12_nodeOf_1 : decode cX12_nodeOf 1 = .ok (.aload_n 0, 1) := by decide +kernel
theorem dX12_nodeOf_2 : decode cX12_nodeOf 2 = .ok (.getfield 90, 3) := by decide +kernel
theorem dX12_nodeOf_5 : decode cX12_nodeOf 5 = .ok (.iload_n 1, 1) := by decide +kernel
theorem dX12_nodeOf_6 : decode cX12_nodeOf 6 = .ok (.invokevirtual 270, 3) := by decide +kernel
theorem dX12_nodeOf_9 : decode cX12_nodeOf 9 = .ok (.ireturn, 1) := by decide +kernel
theorem dX12_partitionOf_0 : decode cX12_partitionOf 0 = .ok (.aload_n 0, 1) := by decide +kernel
theorem dX12_partitionOf_1 : decode cX12_partitionOf 1 = .ok (.aload_n 0, 1) := by decide +kernel
theorem dX12_partitionOf_2 : decode cX12_partitionOf 2 = .ok (.getfield 93, 3) := by decide +kernel
theorem dX12_partitionOf_5 : decode cX12_partitionOf 5 = .ok (.iload_n 1, 1) := by decide +kernel
theorem dX12_partitionOf_6 : decode cX12_partitionOf 6 = .ok (.invokevirtual 270, 3) := by decide +kernel
theorem dX12_partitionOf_9 : decode cX12_partitionOf 9 = .ok (.ireturn, 1) := by decide +kernel
theorem dX12_workerOf_0 : decode cX12_workerOf 0 = .ok (.aload_n 0, 1) := by decide +kernel
theorem dX12_workerOf_1 : decode cX12_workerOf 1 = .ok (.aload_n 0, 1) := by decide +kernel
theorem dX12_workerOf_2 : decode cX12_workerOf 2 = .ok (.getfield 96, 3) := by decide +kernel
theorem dX12_workerOf_5 : decode cX12_workerOf 5 = .ok (.iload_n 1, 1) := by decide +kernel
theorem dX12_workerOf_6 : decode cX12_workerOf 6 = .ok (.invokevirtual 270, 3) := by decide +kernel
theorem dX12_workerOf_9 : decode cX12_workerOf 9 = .ok (.ireturn, 1) := by decide +kernel
theorem dX12_startOf_0 : decode cX12_startOf 0 = .ok (.aload_n 0, 1) := by decide +kernel
theorem dX12_startOf_1 : decode cX12_startOf 1 = .ok (.aload_n 0, 1) := by decide +kernel
theorem dX12_startOf_2 : decode cX12_startOf 2 = .ok (.getfield 99, 3) := by decide +kernel
theorem dX12_startOf_5 : decode cX12_startOf 5 = .ok (.iload_n 1, 1) := by decide +kernel
theorem dX12_startOf_6 : decode cX12_startOf 6 = .ok (.invokevirtual 270, 3) := by decide +kernel
theorem dX12_startOf_9 : decode cX12_startOf 9 = .ok (.ireturn, 1) := by decide +kernel
theorem dX12_endOf_0 : decode cX12_endOf 0 = .ok (.aload_n 0, 1) := by decide +kernel
theorem dX12_endOf_1 : decode cX12_endOf 1 = .ok (.aload_n 0, 1) := by decide +kernel
theorem dX12_endOf_2 : decode cX12_endOf 2 = .ok (.getfield 102, 3) := by decide +kernel
theorem dX12_endOf_5 : decode cX12_endOf 5 = .ok (.iload_n 1, 1) := by decide +kernel
theorem dX12_endOf_6 : decode cX12_endOf 6 = .ok (.invokevirtual 270, 3) := by decide +kernel
theorem dX12_endOf_9 : decode cX12_endOf 9 = .ok (.ireturn, 1) := by decide +kernel
theorem dX12_isCopy_0 : decode cX12_isCopy 0 = .ok (.aload_n 0, 1) := by decide +kernel
theorem dX12_isCopy_1 : decode cX12_isCopy 1 = .ok (.iload_n 1, 1) := by decide +kernel
theorem dX12_isCopy_2 : decode cX12_isCopy 2 = .ok (.ifCond .lt 15, 3) := by decide +kernel
theorem dX12_isCopy_5 : decode cX12_isCopy 5 = .ok (.iload_n 1, 1) := by decide +kernel
theorem dX12_isCopy_6 : decode cX12_isCopy 6 = .ok (.aload_n 0, 1) := by decide +kernel
theorem dX12_isCopy_7 : decode cX12_isCopy 7 = .ok (.getfield 238, 3) := by decide +kernel
theorem dX12_isCopy_10 : decode cX12_isCopy 10 = .ok (.if_icmp .ge 7, 3) := by decide +kernel
theorem dX12_isCopy_13 : decode cX12_isCopy 13 = .ok (.iconst 0, 1) := by decide +kernel
theorem dX12_isCopy_14 : decode cX12_isCopy 14 = .ok (.goto 4, 3) := by decide +kernel
theorem dX12_isCopy_17 : decode cX12_isCopy 17 = .ok (.iconst 1, 1) := by decide +kernel
theorem dX12_isCopy_18 : decode cX12_isCopy 18 = .ok (.invokevirtual 130, 3) := by decide +kernel
theorem dX12_isCopy_21 : decode cX12_isCopy 21 = .ok (.ifCond .ne 16, 3) := by decide +kernel
theorem dX12_isCopy_24 : decode cX12_isCopy 24 = .ok (.aload_n 0, 1) := by decide +kernel
theorem dX12_isCopy_25 : decode cX12_isCopy 25 = .ok (.getfield 105, 3) := by decide +kernel
theorem dX12_isCopy_28 : decode cX12_isCopy 28 = .ok (.iload_n 1, 1) := by decide +kernel
theorem dX12_isCopy_29 : decode cX12_isCopy 29 = .ok (.baload, 1) := by decide +kernel
theorem dX12_isCopy_30 : decode cX12_isCopy 30 = .ok (.ifCond .eq 7, 3) := by decide +kernel
theorem dX12_isCopy_33 : decode cX12_isCopy 33 = .ok (.iconst 1, 1) := by decide +kernel
theorem dX12_isCopy_34 : decode cX12_isCopy 34 = .ok (.goto 4, 3) := by decide +kernel
theorem dX12_isCopy_37 : decode cX12_isCopy 37 = .ok (.iconst 0, 1) := by decide +kernel
theorem dX12_isCopy_38 : decode cX12_isCopy 38 = .ok (.ireturn, 1) := by decide +kernel
theorem dX12_share__0 : decode cX12_share_ 0 = .ok (.aload_n 0, 1) := by decide +kernel
theorem dX12_share__1 : decode cX12_share_ 1 = .ok (.iconst 0, 1) := by decide +kernel
theorem dX12_share__2 : decode cX12_share_ 2 = .ok (.putfield 120, 3) := by decide +kernel
theorem dX12_share__5 : decode cX12_share_ 5 = .ok (.iconst 0, 1) := by decide +kernel
theorem dX12_share__6 : decode cX12_share_ 6 = .ok (.istore_n 1, 1) := by decide +kernel
theorem dX12_share__7 : decode cX12_share_ 7 = .ok (.iconst 0, 1) := by decide +kernel
theorem dX12_share__8 : decode cX12_share_ 8 = .ok (.istore_n 2, 1) := by decide +kernel
theorem dX12_share__9 : decode cX12_share_ 9 = .ok (.iload_n 2, 1) := by decide +kernel
theorem dX12_share__10 : decode cX12_share_ 10 = .ok (.aload_n 0, 1) := by decide +kernel
theorem dX12_share__11 : decode cX12_share_ 11 = .ok (.getfield 238, 3) := by decide +kernel
theorem dX12_share__14 : decode cX12_share_ 14 = .ok (.if_icmp .ge 25, 3) := by decide +kernel
theorem dX12_share__17 : decode cX12_share_ 17 = .ok (.iload_n 1, 1) := by decide +kernel
theorem dX12_share__18 : decode cX12_share_ 18 = .ok (.aload_n 0, 1) := by decide +kernel
theorem dX12_share__19 : decode cX12_share_ 19 = .ok (.getfield 102, 3) := by decide +kernel
theorem dX12_share__22 : decode cX12_share_ 22 = .ok (.iload_n 2, 1) := by decide +kernel
theorem dX12_share__23 : decode cX12_share_ 23 = .ok (.iaload, 1) := by decide +kernel
theorem dX12_share__24 : decode cX12_share_ 24 = .ok (.aload_n 0, 1) := by decide +kernel
theorem dX12_share__25 : decode cX12_share_ 25 = .ok (.getfield 99, 3) := by decide +kernel
theorem dX12_share__28 : decode cX12_share_ 28 = .ok (.iload_n 2, 1) := by decide +kernel
theorem dX12_share__29 : decode cX12_share_ 29 = .ok (.iaload, 1) := by decide +kernel
theorem dX12_share__30 : decode cX12_share_ 30 = .ok (.isub, 1) := by decide +kernel
theorem dX12_share__31 : decode cX12_share_ 31 = .ok (.iadd, 1) := by decide +kernel
theorem dX12_share__32 : decode cX12_share_ 32 = .ok (.istore_n 1, 1) := by decide +kernel
theorem dX12_share__33 : decode cX12_share_ 33 = .ok (.iinc 2 1, 3) := by decide +kernel
theorem dX12_share__36 : decode cX12_share_ 36 = .ok (.goto (-27), 3) := by decide +kernel
theorem dX12_share__39 : decode cX12_share_ 39 = .ok (.aload_n 0, 1) := by decide +kernel
theorem dX12_share__40 : decode cX12_share_ 40 = .ok (.getfield 258, 3) := by decide +kernel
theorem dX12_share__43 : decode cX12_share_ 43 = .ok (.ifCond .ne 7, 3) := by decide +kernel
theorem dX12_share__46 : decode cX12_share_ 46 = .ok (.fconst 0, 1) := by decide +kernel
theorem dX12_share__47 : decode cX12_share_ 47 = .ok (.goto 16, 3) := by decide +kernel
theorem dX12_share__50 : decode cX12_share_ 50 = .ok (.iload_n 1, 1) := by decide +kernel
theorem dX12_share__51 : decode cX12_share_ 51 = .ok (.i2f, 1) := by decide +kernel
theorem dX12_share__52 : decode cX12_share_ 52 = .ok (.aload_n 0, 1) := by decide +kernel
theorem dX12_share__53 : decode cX12_share_ 53 = .ok (.getfield 258, 3) := by decide +kernel
theorem dX12_share__56 : decode cX12_share_ 56 = .ok (.aload_n 0, 1) := by decide +kernel
theorem dX12_share__57 : decode cX12_share_ 57 = .ok (.getfield 261, 3) := by decide +kernel
theorem dX12_share__60 : decode cX12_share_ 60 = .ok (.imul, 1) := by decide +kernel
theorem dX12_share__61 : decode cX12_share_ 61 = .ok (.i2f, 1) := by decide +kernel
theorem dX12_share__62 : decode cX12_share_ 62 = .ok (.fdiv, 1) := by decide +kernel
theorem dX12_share__63 : decode cX12_share_ 63 = .ok (.freturn, 1) := by decide +kernel
