theorem dL_law_0 : decode cL_law 0 = .ok (.new 9, 3) := by decide +kernel
theorem dL_law_3 : decode cL_law 3 = .ok (.dup, 1) := by decide +kernel
theorem dL_law_4 : decode cL_law 4 = .ok (.invokespecial 200, 3) := by decide +kernel
theorem dL_law_7 : decode cL_law 7 = .ok (.astore_n 1, 1) := by decide +kernel
theorem dL_law_8 : decode cL_law 8 = .ok (.bipush 14, 2) := by decide +kernel
theorem dL_law_10 : decode cL_law 10 = .ok (.newarray .int, 2) := by decide +kernel
theorem dL_law_12 : decode cL_law 12 = .ok (.astore_n 2, 1) := by decide +kernel
theorem dL_law_13 : decode cL_law 13 = .ok (.bipush 14, 2) := by decide +kernel
theorem dL_law_15 : decode cL_law 15 = .ok (.newarray .int, 2) := by decide +kernel
theorem dL_law_17 : decode cL_law 17 = .ok (.astore_n 3, 1) := by decide +kernel
theorem dL_law_18 : decode cL_law 18 = .ok (.bipush 14, 2) := by decide +kernel
theorem dL_law_20 : decode cL_law 20 = .ok (.newarray .int, 2) := by decide +kernel
theorem dL_law_22 : decode cL_law 22 = .ok (.astore 4, 2) := by decide +kernel
theorem dL_law_24 : decode cL_law 24 = .ok (.bipush 14, 2) := by decide +kernel
theorem dL_law_26 : decode cL_law 26 = .ok (.newarray .int, 2) := by decide +kernel
theorem dL_law_28 : decode cL_law 28 = .ok (.astore 5, 2) := by decide +kernel
theorem dL_law_30 : decode cL_law 30 = .ok (.bipush 14, 2) := by decide +kernel
theorem dL_law_32 : decode cL_law 32 = .ok (.newarray .int, 2) := by decide +kernel
theorem dL_law_34 : decode cL_law 34 = .ok (.astore 6, 2) := by decide +kernel
theorem dL_law_36 : decode cL_law 36 = .ok (.bipush 14, 2) := by decide +kernel
theorem dL_law_38 : decode cL_law 38 = .ok (.newarray .int, 2) := by decide +kernel
theorem dL_law_40 : decode cL_law 40 = .ok (.astore 7, 2) := by decide +kernel
theorem dL_law_42 : decode cL_law 42 = .ok (.bipush 14, 2) := by decide +kernel
theorem dL_law_44 : decode cL_law 44 = .ok (.newarray .int, 2) := by decide +kernel
theorem dL_law_46 : decode cL_law 46 = .ok (.astore 8, 2) := by decide +kernel
theorem dL_law_48 : decode cL_law 48 = .ok (.iconst 5, 1) := by decide +kernel
theorem dL_law_49 : decode cL_law 49 = .ok (.newarray .int, 2) := by decide +kernel
theorem dL_law_51 : decode cL_law 51 = .ok (.astore 9, 2) := by decide +kernel
theorem dL_law_53 : decode cL_law 53 = .ok (.aload 9, 2) := by decide +kernel
theorem dL_law_55 : decode cL_law 55 = .ok (.iconst 1, 1) := by decide +kernel
theorem dL_law_56 : decode cL_law 56 = .ok (.iconst 4, 1) := by decide +kernel
theorem dL_law_57 : decode cL_law 57 = .ok (.iastore, 1) := by decide +kernel
theorem dL_law_58 : decode cL_law 58 = .ok (.aload 9, 2) := by decide +kernel
theorem dL_law_60 : decode cL_law 60 = .ok (.iconst 2, 1) := by decide +kernel
theorem dL_law_61 : decode cL_law 61 = .ok (.iconst 2, 1) := by decide +kernel
theorem dL_law_62 : decode cL_law 62 = .ok (.iastore, 1) := by decide +kernel
theorem dL_law_63 : decode cL_law 63 = .ok (.aload 9, 2) := by decide +kernel
theorem dL_law_65 : decode cL_law 65 = .ok (.iconst 3, 1) := by decide +kernel
theorem dL_law_66 : decode cL_law 66 = .ok (.bipush 20, 2) := by decide +kernel
theorem dL_law_68 : decode cL_law 68 = .ok (.iastore, 1) := by decide +kernel
theorem dL_law_69 : decode cL_law 69 = .ok (.aload_n 1, 1) := by decide +kernel
theorem dL_law_70 : decode cL_law 70 = .ok (.invokevirtual 139, 3) := by decide +kernel
theorem dL_law_73 : decode cL_law 73 = .ok (.ifCond .ne 30, 3) := by decide +kernel
theorem dL_law_76 : decode cL_law 76 = .ok (.aload_n 1, 1) := by decide +kernel
theorem dL_law_77 : decode cL_law 77 = .ok (.invokevirtual 150, 3) := by decide +kernel
theorem dL_law_80 : decode cL_law 80 = .ok (.ifCond .ne 23, 3) := by decide +kernel
theorem dL_law_83 : decode cL_law 83 = .ok (.aload_n 1, 1) := by decide +kernel
theorem dL_law_84 : decode cL_law 84 = .ok (.invokevirtual 147, 3) := by decide +kernel
theorem dL_law_87 : decode cL_law 87 = .ok (.ifCond .ne 16, 3) := by decide +kernel
theorem dL_law_90 : decode cL_law 90 = .ok (.aload_n 1, 1) := by decide +kernel
theorem dL_law_91 : decode cL_law 91 = .ok (.invokevirtual 168, 3) := by decide +kernel
theorem dL_law_94 : decode cL_law 94 = .ok (.fconst 0, 1) := by decide +kernel
theorem dL_law_95 : decode cL_law 95 = .ok (.fcmp .l, 1) := by decide +kernel
theorem dL_law_96 : decode cL_law 96 = .ok (.ifCond .ne 7, 3) := by decide +kernel
theorem dL_law_99 : decode cL_law 99 = .ok (.iconst 1, 1) := by decide +kernel
theorem dL_law_100 : decode cL_law 100 = .ok (.goto 4, 3) := by decide +kernel
theorem dL_law_103 : decode cL_law 103 = .ok (.iconst 0, 1) := by decide +kernel
theorem dL_law_104 : decode cL_law 104 = .ok (.istore 10, 2) := by decide +kernel
theorem dL_law_106 : decode cL_law 106 = .ok (.iconst 0, 1) := by decide +kernel
theorem dL_law_107 : decode cL_law 107 = .ok (.istore 11, 2) := by decide +kernel
theorem dL_law_109 : decode cL_law 109 = .ok (.iload 11, 2) := by decide +kernel
theorem dL_law_111 : decode cL_law 111 = .ok (.bipush 60, 2) := by decide +kernel
theorem dL_law_113 : decode cL_law 113 = .ok (.if_icmp .ge 76, 3) := by decide +kernel
theorem dL_law_116 : decode cL_law 116 = .ok (.iload 10, 2) := by decide +kernel
theorem dL_law_118 : decode cL_law 118 = .ok (.ifCond .eq 71, 3) := by decide +kernel
theorem dL_law_121 : decode cL_law 121 = .ok (.aload_n 1, 1) := by decide +kernel
theorem dL_law_122 : decode cL_law 122 = .ok (.aload_n 0, 1) := by decide +kernel
theorem dL_law_123 : decode cL_law 123 = .ok (.iconst 4, 1) := by decide +kernel
theorem dL_law_124 : decode cL_law 124 = .ok (.iload 11, 2) := by decide +kernel
theorem dL_law_126 : decode cL_law 126 = .ok (.imul, 1) := by decide +kernel
theorem dL_law_127 : decode cL_law 127 = .ok (.aload_n 2, 1) := by decide +kernel
theorem dL_law_128 : decode cL_law 128 = .ok (.aload_n 3, 1) := by decide +kernel
theorem dL_law_129 : decode cL_law 129 = .ok (.aload 4, 2) := by decide +kernel
theorem dL_law_131 : decode cL_law 131 = .ok (.aload 5, 2) := by decide +kernel
theorem dL_law_133 : decode cL_law 133 = .ok (.aload 6, 2) := by decide +kernel
theorem dL_law_135 : decode cL_law 135 = .ok (.aload 7, 2) := by decide +kernel
theorem dL_law_137 : decode cL_law 137 = .ok (.aload 8, 2) := by decide +kernel
theorem dL_law_139 : decode cL_law 139 = .ok (.aload 9, 2) := by decide +kernel
theorem dL_law_141 : decode cL_law 141 = .ok (.invokestatic 201, 3) := by decide +kernel
theorem dL_law_144 : decode cL_law 144 = .ok (.ifCond .eq 36, 3) := by decide +kernel
theorem dL_law_147 : decode cL_law 147 = .ok (.iload 11, 2) := by decide +kernel
theorem dL_law_149 : decode cL_law 149 = .ok (.bipush 12, 2) := by decide +kernel
theorem dL_law_151 : decode cL_law 151 = .ok (.irem, 1) := by decide +kernel
theorem dL_law_152 : decode cL_law 152 = .ok (.bipush 11, 2) := by decide +kernel
theorem dL_law_154 : decode cL_law 154 = .ok (.if_icmp .lt 22, 3) := by decide +kernel
theorem dL_law_157 : decode cL_law 157 = .ok (.aload_n 1, 1) := by decide +kernel
theorem dL_law_158 : decode cL_law 158 = .ok (.aload_n 2, 1) := by decide +kernel
theorem dL_law_159 : decode cL_law 159 = .ok (.aload_n 3, 1) := by decide +kernel
theorem dL_law_160 : decode cL_law 160 = .ok (.aload 4, 2) := by decide +kernel
theorem dL_law_162 : decode cL_law 162 = .ok (.aload 5, 2) := by decide +kernel
theorem dL_law_164 : decode cL_law 164 = .ok (.aload 6, 2) := by decide +kernel
theorem dL_law_166 : decode cL_law 166 = .ok (.aload 7, 2) := by decide +kernel
theorem dL_law_168 : decode cL_law 168 = .ok (.aload 9, 2) := by decide +kernel
theorem dL_law_170 : decode cL_law 170 = .ok (.invokestatic 205, 3) := by decide +kernel
theorem dL_law_173 : decode cL_law 173 = .ok (.ifCond .eq 7, 3) := by decide +kernel
theorem dL_law_176 : decode cL_law 176 = .ok (.iconst 1, 1) := by decide +kernel
theorem dL_law_177 : decode cL_law 177 = .ok (.goto 4, 3) := by decide +kernel
theorem dL_law_180 : decode cL_law 180 = .ok (.iconst 0, 1) := by decide +kernel
theorem dL_law_181 : decode cL_law 181 = .ok (.istore 10, 2) := by decide +kernel
theorem dL_law_183 : decode cL_law 183 = .ok (.iinc 11 1, 3) := by decide +kernel
theorem dL_law_186 : decode cL_law 186 = .ok (.goto (-77), 3) := by decide +kernel
theorem dL_law_189 : decode cL_law 189 = .ok (.iload 10, 2) := by decide +kernel
theorem dL_law_191 : decode cL_law 191 = .ok (.ifCond .eq 116, 3) := by decide +kernel
theorem dL_law_194 : decode cL_law 194 = .ok (.aload_n 1, 1) := by decide +kernel
theorem dL_law_195 : decode cL_law 195 = .ok (.iconst 0, 1) := by decide +kernel
theorem dL_law_196 : decode cL_law 196 = .ok (.iconst 0, 1) := by decide +kernel
theorem dL_law_197 : decode cL_law 197 = .ok (.iconst 0, 1) := by decide +kernel
theorem dL_law_198 : decode cL_law 198 = .ok (.iconst 0, 1) := by decide +kernel
theorem dL_law_199 : decode cL_law 199 = .ok (.invokestatic 171, 3) := by decide +kernel
theorem dL_law_202 : decode cL_law 202 = .ok (.bipush (-20), 2) := by decide +kernel
theorem dL_law_204 : decode cL_law 204 = .ok (.if_icmp .ne 103, 3) := by decide +kernel
theorem dL_law_207 : decode cL_law 207 = .ok (.aload_n 1, 1) := by decide +kernel
theorem dL_law_208 : decode cL_law 208 = .ok (.iconst 1, 1) := by decide +kernel
theorem dL_law_209 : decode cL_law 209 = .ok (.bipush 14, 2) := by decide +kernel
theorem dL_law_211 : decode cL_law 211 = .ok (.bipush 9, 2) := by decide +kernel
theorem dL_law_213 : decode cL_law 213 = .ok (.iconst 0, 1) := by decide +kernel
theorem dL_law_214 : decode cL_law 214 = .ok (.invokestatic 171, 3) := by decide +kernel
theorem dL_law_217 : decode cL_law 217 = .ok (.bipush (-30), 2) := by decide +kernel
theorem dL_law_219 : decode cL_law 219 = .ok (.if_icmp .ne 88, 3) := by decide +kernel
theorem dL_law_222 : decode cL_law 222 = .ok (.aload_n 1, 1) := by decide +kernel
theorem dL_law_223 : decode cL_law 223 = .ok (.iconst 4, 1) := by decide +kernel
theorem dL_law_224 : decode cL_law 224 = .ok (.iconst (-1), 1) := by decide +kernel
theorem dL_law_225 : decode cL_law 225 = .ok (.iconst 0, 1) := by decide +kernel
theorem dL_law_226 : decode cL_law 226 = .ok (.iconst 0, 1) := by decide +kernel
theorem dL_law_227 : decode cL_law 227 = .ok (.invokestatic 171, 3) := by decide +kernel
theorem dL_law_230 : decode cL_law 230 = .ok (.bipush (-30), 2) := by decide +kernel
theorem dL_law_232 : decode cL_law 232 = .ok (.if_icmp .ne 75, 3) := by decide +kernel
theorem dL_law_235 : decode cL_law 235 = .ok (.aload_n 1, 1) := by decide +kernel
theorem dL_law_236 : decode cL_law 236 = .ok (.iconst 1, 1) := by decide +kernel
theorem dL_law_237 : decode cL_law 237 = .ok (.iconst 4, 1) := by decide +kernel
theorem dL_law_238 : decode cL_law 238 = .ok (.iconst 0, 1) := by decide +kernel
theorem dL_law_239 : decode cL_law 239 = .ok (.invokestatic 174, 3) := by decide +kernel
theorem dL_law_242 : decode cL_law 242 = .ok (.bipush (-30), 2) := by decide +kernel
theorem dL_law_244 : decode cL_law 244 = .ok (.if_icmp .ne 63, 3) := by decide +kernel
theorem dL_law_247 : decode cL_law 247 = .ok (.aload_n 1, 1) := by decide +kernel
theorem dL_law_248 : decode cL_law 248 = .ok (.iconst 0, 1) := by decide +kernel
theorem dL_law_249 : decode cL_law 249 = .ok (.iconst 5, 1) := by decide +kernel
theorem dL_law_250 : decode cL_law 250 = .ok (.iconst 0, 1) := by decide +kernel
theorem dL_law_251 : decode cL_law 251 = .ok (.invokestatic 174, 3) := by decide +kernel
theorem dL_law_254 : decode cL_law 254 = .ok (.bipush (-20), 2) := by decide +kernel
theorem dL_law_256 : decode cL_law 256 = .ok (.if_icmp .ne 51, 3) := by decide +kernel
theorem dL_law_259 : decode cL_law 259 = .ok (.aload_n 1, 1) := by decide +kernel
theorem dL_law_260 : decode cL_law 260 = .ok (.bipush 6, 2) := by decide +kernel
theorem dL_law_262 : decode cL_law 262 = .ok (.bipush 14, 2) := by decide +kernel
theorem dL_law_264 : decode cL_law 264 = .ok (.iconst 0, 1) := by decide +kernel
theorem dL_law_265 : decode cL_law 265 = .ok (.iconst 0, 1) := by decide +kernel
theorem dL_law_266 : decode cL_law 266 = .ok (.invokestatic 102, 3) := by decide +kernel
theorem dL_law_269 : decode cL_law 269 = .ok (.bipush (-30), 2) := by decide +kernel
theorem dL_law_271 : decode cL_law 271 = .ok (.if_icmp .ne 36, 3) := by decide +kernel
theorem dL_law_274 : decode cL_law 274 = .ok (.aload_n 1, 1) := by decide +kernel
theorem dL_law_275 : decode cL_law 275 = .ok (.bipush 11, 2) := by decide +kernel
theorem dL_law_277 : decode cL_law 277 = .ok (.bipush 14, 2) := by decide +kernel
theorem dL_law_279 : decode cL_law 279 = .ok (.iconst 0, 1) := by decide +kernel
theorem dL_law_280 : decode cL_law 280 = .ok (.iconst 0, 1) := by decide +kernel
theorem dL_law_281 : decode cL_law 281 = .ok (.invokestatic 102, 3) := by decide +kernel
theorem dL_law_284 : decode cL_law 284 = .ok (.bipush (-30), 2) := by decide +kernel
theorem dL_law_286 : decode cL_law 286 = .ok (.if_icmp .ne 21, 3) := by decide +kernel
theorem dL_law_289 : decode cL_law 289 = .ok (.aload_n 1, 1) := by decide +kernel
theorem dL_law_290 : decode cL_law 290 = .ok (.bipush 10, 2) := by decide +kernel
theorem dL_law_292 : decode cL_law 292 = .ok (.iconst (-1), 1) := by decide +kernel
theorem dL_law_293 : decode cL_law 293 = .ok (.iconst 0, 1) := by decide +kernel
theorem dL_law_294 : decode cL_law 294 = .ok (.iconst 0, 1) := by decide +kernel
theorem dL_law_295 : decode cL_law 295 = .ok (.invokestatic 102, 3) := by decide +kernel
theorem dL_law_298 : decode cL_law 298 = .ok (.bipush (-30), 2) := by decide +kernel
theorem dL_law_300 : decode cL_law 300 = .ok (.if_icmp .ne 7, 3) := by decide +kernel
theorem dL_law_303 : decode cL_law 303 = .ok (.iconst 1, 1) := by decide +kernel
theorem dL_law_304 : decode cL_law 304 = .ok (.goto 4, 3) := by decide +kernel
theorem dL_law_307 : decode cL_law 307 = .ok (.iconst 0, 1) := by decide +kernel
theorem dL_law_308 : decode cL_law 308 = .ok (.istore 10, 2) := by decide +kernel
theorem dL_law_310 : decode cL_law 310 = .ok (.iload 10, 2) := by decide +kernel
theorem dL_law_312 : decode cL_law 312 = .ok (.ifCond .eq 26, 3) := by decide +kernel
theorem dL_law_315 : decode cL_law 315 = .ok (.aload_n 1, 1) := by decide +kernel
theorem dL_law_316 : decode cL_law 316 = .ok (.aload_n 2, 1) := by decide +kernel
theorem dL_law_317 : decode cL_law 317 = .ok (.aload_n 3, 1) := by decide +kernel
theorem dL_law_318 : decode cL_law 318 = .ok (.aload 4, 2) := by decide +kernel
theorem dL_law_320 : decode cL_law 320 = .ok (.aload 5, 2) := by decide +kernel
theorem dL_law_322 : decode cL_law 322 = .ok (.aload 6, 2) := by decide +kernel
theorem dL_law_324 : decode cL_law 324 = .ok (.aload 7, 2) := by decide +kernel
theorem dL_law_326 : decode cL_law 326 = .ok (.aload 9, 2) := by decide +kernel
theorem dL_law_328 : decode cL_law 328 = .ok (.invokestatic 205, 3) := by decide +kernel
theorem dL_law_331 : decode cL_law 331 = .ok (.ifCond .eq 7, 3) := by decide +kernel
theorem dL_law_334 : decode cL_law 334 = .ok (.iconst 1, 1) := by decide +kernel
theorem dL_law_335 : decode cL_law 335 = .ok (.goto 4, 3) := by decide +kernel
theorem dL_law_338 : decode cL_law 338 = .ok (.iconst 0, 1) := by decide +kernel
theorem dL_law_339 : decode cL_law 339 = .ok (.ireturn, 1) := by decide +kernel
