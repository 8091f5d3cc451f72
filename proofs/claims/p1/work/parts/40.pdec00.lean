theorem d_TypeFinderLaw_law_0 : decode b_TypeFinderLaw_law 0 = .ok (.new 8, 3) := by decide +kernel
theorem d_TypeFinderLaw_law_3 : decode b_TypeFinderLaw_law 3 = .ok (.dup, 1) := by decide +kernel
theorem d_TypeFinderLaw_law_4 : decode b_TypeFinderLaw_law 4 = .ok (.invokespecial 24, 3) := by decide +kernel
theorem d_TypeFinderLaw_law_7 : decode b_TypeFinderLaw_law 7 = .ok (.astore_n 1, 1) := by decide +kernel
theorem d_TypeFinderLaw_law_8 : decode b_TypeFinderLaw_law 8 = .ok (.new 25, 3) := by decide +kernel
theorem d_TypeFinderLaw_law_11 : decode b_TypeFinderLaw_law 11 = .ok (.dup, 1) := by decide +kernel
theorem d_TypeFinderLaw_law_12 : decode b_TypeFinderLaw_law 12 = .ok (.invokespecial 27, 3) := by decide +kernel
theorem d_TypeFinderLaw_law_15 : decode b_TypeFinderLaw_law 15 = .ok (.astore_n 2, 1) := by decide +kernel
theorem d_TypeFinderLaw_law_16 : decode b_TypeFinderLaw_law 16 = .ok (.iconst 1, 1) := by decide +kernel
theorem d_TypeFinderLaw_law_17 : decode b_TypeFinderLaw_law 17 = .ok (.newarray .long, 2) := by decide +kernel
theorem d_TypeFinderLaw_law_19 : decode b_TypeFinderLaw_law 19 = .ok (.astore_n 3, 1) := by decide +kernel
theorem d_TypeFinderLaw_law_20 : decode b_TypeFinderLaw_law 20 = .ok (.iconst 0, 1) := by decide +kernel
theorem d_TypeFinderLaw_law_21 : decode b_TypeFinderLaw_law 21 = .ok (.istore 4, 2) := by decide +kernel
theorem d_TypeFinderLaw_law_23 : decode b_TypeFinderLaw_law 23 = .ok (.iload 4, 2) := by decide +kernel
theorem d_TypeFinderLaw_law_25 : decode b_TypeFinderLaw_law 25 = .ok (.aload_n 0, 1) := by decide +kernel
theorem d_TypeFinderLaw_law_26 : decode b_TypeFinderLaw_law 26 = .ok (.arraylength, 1) := by decide +kernel
theorem d_TypeFinderLaw_law_27 : decode b_TypeFinderLaw_law 27 = .ok (.iconst 4, 1) := by decide +kernel
theorem d_TypeFinderLaw_law_28 : decode b_TypeFinderLaw_law 28 = .ok (.isub, 1) := by decide +kernel
theorem d_TypeFinderLaw_law_29 : decode b_TypeFinderLaw_law 29 = .ok (.if_icmp .gt 373, 3) := by decide +kernel
theorem d_TypeFinderLaw_law_32 : decode b_TypeFinderLaw_law 32 = .ok (.aload_n 0, 1) := by decide +kernel
theorem d_TypeFinderLaw_law_33 : decode b_TypeFinderLaw_law 33 = .ok (.iload 4, 2) := by decide +kernel
theorem d_TypeFinderLaw_law_35 : decode b_TypeFinderLaw_law 35 = .ok (.iaload, 1) := by decide +kernel
theorem d_TypeFinderLaw_law_36 : decode b_TypeFinderLaw_law 36 = .ok (.bipush 7, 2) := by decide +kernel
theorem d_TypeFinderLaw_law_38 : decode b_TypeFinderLaw_law 38 = .ok (.iand, 1) := by decide +kernel
theorem d_TypeFinderLaw_law_39 : decode b_TypeFinderLaw_law 39 = .ok (.tableswitch 357 0 7 #[45, 102, 146, 190, 215, 240, 307, 332], 45) := by decide +kernel
theorem d_TypeFinderLaw_law_84 : decode b_TypeFinderLaw_law 84 = .ok (.aload_n 1, 1) := by decide +kernel
theorem d_TypeFinderLaw_law_85 : decode b_TypeFinderLaw_law 85 = .ok (.aload_n 0, 1) := by decide +kernel
theorem d_TypeFinderLaw_law_86 : decode b_TypeFinderLaw_law 86 = .ok (.iload 4, 2) := by decide +kernel
theorem d_TypeFinderLaw_law_88 : decode b_TypeFinderLaw_law 88 = .ok (.iconst 1, 1) := by decide +kernel
theorem d_TypeFinderLaw_law_89 : decode b_TypeFinderLaw_law 89 = .ok (.iadd, 1) := by decide +kernel
theorem d_TypeFinderLaw_law_90 : decode b_TypeFinderLaw_law 90 = .ok (.iaload, 1) := by decide +kernel
theorem d_TypeFinderLaw_law_91 : decode b_TypeFinderLaw_law 91 = .ok (.i2l, 1) := by decide +kernel
theorem d_TypeFinderLaw_law_92 : decode b_TypeFinderLaw_law 92 = .ok (.bipush 32, 2) := by decide +kernel
theorem d_TypeFinderLaw_law_94 : decode b_TypeFinderLaw_law 94 = .ok (.lshl, 1) := by decide +kernel
theorem d_TypeFinderLaw_law_95 : decode b_TypeFinderLaw_law 95 = .ok (.aload_n 0, 1) := by decide +kernel
theorem d_TypeFinderLaw_law_96 : decode b_TypeFinderLaw_law 96 = .ok (.iload 4, 2) := by decide +kernel
theorem d_TypeFinderLaw_law_98 : decode b_TypeFinderLaw_law 98 = .ok (.iconst 2, 1) := by decide +kernel
theorem d_TypeFinderLaw_law_99 : decode b_TypeFinderLaw_law 99 = .ok (.iadd, 1) := by decide +kernel
theorem d_TypeFinderLaw_law_100 : decode b_TypeFinderLaw_law 100 = .ok (.iaload, 1) := by decide +kernel
theorem d_TypeFinderLaw_law_101 : decode b_TypeFinderLaw_law 101 = .ok (.i2l, 1) := by decide +kernel
theorem d_TypeFinderLaw_law_102 : decode b_TypeFinderLaw_law 102 = .ok (.ldc2_w 28, 3) := by decide +kernel
theorem d_TypeFinderLaw_law_105 : decode b_TypeFinderLaw_law 105 = .ok (.land, 1) := by decide +kernel
theorem d_TypeFinderLaw_law_106 : decode b_TypeFinderLaw_law 106 = .ok (.lor, 1) := by decide +kernel
theorem d_TypeFinderLaw_law_107 : decode b_TypeFinderLaw_law 107 = .ok (.invokevirtual 30, 3) := by decide +kernel
theorem d_TypeFinderLaw_law_110 : decode b_TypeFinderLaw_law 110 = .ok (.aload_n 2, 1) := by decide +kernel
theorem d_TypeFinderLaw_law_111 : decode b_TypeFinderLaw_law 111 = .ok (.aload_n 0, 1) := by decide +kernel
theorem d_TypeFinderLaw_law_112 : decode b_TypeFinderLaw_law 112 = .ok (.iload 4, 2) := by decide +kernel
theorem d_TypeFinderLaw_law_114 : decode b_TypeFinderLaw_law 114 = .ok (.iconst 1, 1) := by decide +kernel
theorem d_TypeFinderLaw_law_115 : decode b_TypeFinderLaw_law 115 = .ok (.iadd, 1) := by decide +kernel
theorem d_TypeFinderLaw_law_116 : decode b_TypeFinderLaw_law 116 = .ok (.iaload, 1) := by decide +kernel
theorem d_TypeFinderLaw_law_117 : decode b_TypeFinderLaw_law 117 = .ok (.i2l, 1) := by decide +kernel
theorem d_TypeFinderLaw_law_118 : decode b_TypeFinderLaw_law 118 = .ok (.bipush 32, 2) := by decide +kernel
theorem d_TypeFinderLaw_law_120 : decode b_TypeFinderLaw_law 120 = .ok (.lshl, 1) := by decide +kernel
theorem d_TypeFinderLaw_law_121 : decode b_TypeFinderLaw_law 121 = .ok (.aload_n 0, 1) := by decide +kernel
theorem d_TypeFinderLaw_law_122 : decode b_TypeFinderLaw_law 122 = .ok (.iload 4, 2) := by decide +kernel
theorem d_TypeFinderLaw_law_124 : decode b_TypeFinderLaw_law 124 = .ok (.iconst 2, 1) := by decide +kernel
theorem d_TypeFinderLaw_law_125 : decode b_TypeFinderLaw_law 125 = .ok (.iadd, 1) := by decide +kernel
theorem d_TypeFinderLaw_law_126 : decode b_TypeFinderLaw_law 126 = .ok (.iaload, 1) := by decide +kernel
theorem d_TypeFinderLaw_law_127 : decode b_TypeFinderLaw_law 127 = .ok (.i2l, 1) := by decide +kernel
theorem d_TypeFinderLaw_law_128 : decode b_TypeFinderLaw_law 128 = .ok (.ldc2_w 28, 3) := by decide +kernel
theorem d_TypeFinderLaw_law_131 : decode b_TypeFinderLaw_law 131 = .ok (.land, 1) := by decide +kernel
theorem d_TypeFinderLaw_law_132 : decode b_TypeFinderLaw_law 132 = .ok (.lor, 1) := by decide +kernel
theorem d_TypeFinderLaw_law_133 : decode b_TypeFinderLaw_law 133 = .ok (.invokevirtual 34, 3) := by decide +kernel
theorem d_TypeFinderLaw_law_136 : decode b_TypeFinderLaw_law 136 = .ok (.if_icmp .eq 260, 3) := by decide +kernel
theorem d_TypeFinderLaw_law_141 : decode b_TypeFinderLaw_law 141 = .ok (.aload_n 1, 1) := by decide +kernel
theorem d_TypeFinderLaw_law_142 : decode b_TypeFinderLaw_law 142 = .ok (.aload_n 3, 1) := by decide +kernel
theorem d_TypeFinderLaw_law_143 : decode b_TypeFinderLaw_law 143 = .ok (.invokestatic 35, 3) := by decide +kernel
theorem d_TypeFinderLaw_law_146 : decode b_TypeFinderLaw_law 146 = .ok (.istore 5, 2) := by decide +kernel
theorem d_TypeFinderLaw_law_148 : decode b_TypeFinderLaw_law 148 = .ok (.aload_n 2, 1) := by decide +kernel
theorem d_TypeFinderLaw_law_149 : decode b_TypeFinderLaw_law 149 = .ok (.invokevirtual 40, 3) := by decide +kernel
theorem d_TypeFinderLaw_law_152 : decode b_TypeFinderLaw_law 152 = .ok (.istore 6, 2) := by decide +kernel
theorem d_TypeFinderLaw_law_154 : decode b_TypeFinderLaw_law 154 = .ok (.aload_n 2, 1) := by decide +kernel
theorem d_TypeFinderLaw_law_155 : decode b_TypeFinderLaw_law 155 = .ok (.invokevirtual 41, 3) := by decide +kernel
theorem d_TypeFinderLaw_law_158 : decode b_TypeFinderLaw_law 158 = .ok (.iload 5, 2) := by decide +kernel
theorem d_TypeFinderLaw_law_160 : decode b_TypeFinderLaw_law 160 = .ok (.if_icmp .eq 5, 3) := by decide +kernel
theorem d_TypeFinderLaw_law_165 : decode b_TypeFinderLaw_law 165 = .ok (.iload 5, 2) := by decide +kernel
theorem d_TypeFinderLaw_law_167 : decode b_TypeFinderLaw_law 167 = .ok (.ifCond .ne 15, 3) := by decide +kernel
theorem d_TypeFinderLaw_law_182 : decode b_TypeFinderLaw_law 182 = .ok (.goto 214, 3) := by decide +kernel
theorem d_TypeFinderLaw_law_185 : decode b_TypeFinderLaw_law 185 = .ok (.aload_n 1, 1) := by decide +kernel
theorem d_TypeFinderLaw_law_186 : decode b_TypeFinderLaw_law 186 = .ok (.aload_n 3, 1) := by decide +kernel
theorem d_TypeFinderLaw_law_187 : decode b_TypeFinderLaw_law 187 = .ok (.invokestatic 44, 3) := by decide +kernel
theorem d_TypeFinderLaw_law_190 : decode b_TypeFinderLaw_law 190 = .ok (.istore 5, 2) := by decide +kernel
theorem d_TypeFinderLaw_law_192 : decode b_TypeFinderLaw_law 192 = .ok (.aload_n 2, 1) := by decide +kernel
theorem d_TypeFinderLaw_law_193 : decode b_TypeFinderLaw_law 193 = .ok (.invokevirtual 46, 3) := by decide +kernel
theorem d_TypeFinderLaw_law_196 : decode b_TypeFinderLaw_law 196 = .ok (.istore 6, 2) := by decide +kernel
theorem d_TypeFinderLaw_law_198 : decode b_TypeFinderLaw_law 198 = .ok (.aload_n 2, 1) := by decide +kernel
theorem d_TypeFinderLaw_law_199 : decode b_TypeFinderLaw_law 199 = .ok (.invokevirtual 41, 3) := by decide +kernel
theorem d_TypeFinderLaw_law_202 : decode b_TypeFinderLaw_law 202 = .ok (.iload 5, 2) := by decide +kernel
theorem d_TypeFinderLaw_law_204 : decode b_TypeFinderLaw_law 204 = .ok (.if_icmp .eq 5, 3) := by decide +kernel
theorem d_TypeFinderLaw_law_209 : decode b_TypeFinderLaw_law 209 = .ok (.iload 5, 2) := by decide +kernel
theorem d_TypeFinderLaw_law_211 : decode b_TypeFinderLaw_law 211 = .ok (.ifCond .ne 15, 3) := by decide +kernel
theorem d_TypeFinderLaw_law_226 : decode b_TypeFinderLaw_law 226 = .ok (.goto 170, 3) := by decide +kernel
theorem d_TypeFinderLaw_law_229 : decode b_TypeFinderLaw_law 229 = .ok (.aload_n 1, 1) := by decide +kernel
theorem d_TypeFinderLaw_law_230 : decode b_TypeFinderLaw_law 230 = .ok (.aload_n 0, 1) := by decide +kernel
theorem d_TypeFinderLaw_law_231 : decode b_TypeFinderLaw_law 231 = .ok (.iload 4, 2) := by decide +kernel
theorem d_TypeFinderLaw_law_233 : decode b_TypeFinderLaw_law 233 = .ok (.iconst 1, 1) := by decide +kernel
theorem d_TypeFinderLaw_law_234 : decode b_TypeFinderLaw_law 234 = .ok (.iadd, 1) := by decide +kernel
theorem d_TypeFinderLaw_law_235 : decode b_TypeFinderLaw_law 235 = .ok (.iaload, 1) := by decide +kernel
theorem d_TypeFinderLaw_law_236 : decode b_TypeFinderLaw_law 236 = .ok (.invokevirtual 47, 3) := by decide +kernel
theorem d_TypeFinderLaw_law_239 : decode b_TypeFinderLaw_law 239 = .ok (.aload_n 2, 1) := by decide +kernel
theorem d_TypeFinderLaw_law_240 : decode b_TypeFinderLaw_law 240 = .ok (.aload_n 0, 1) := by decide +kernel
theorem d_TypeFinderLaw_law_241 : decode b_TypeFinderLaw_law 241 = .ok (.iload 4, 2) := by decide +kernel
theorem d_TypeFinderLaw_law_243 : decode b_TypeFinderLaw_law 243 = .ok (.iconst 1, 1) := by decide +kernel
theorem d_TypeFinderLaw_law_244 : decode b_TypeFinderLaw_law 244 = .ok (.iadd, 1) := by decide +kernel
theorem d_TypeFinderLaw_law_245 : decode b_TypeFinderLaw_law 245 = .ok (.iaload, 1) := by decide +kernel
theorem d_TypeFinderLaw_law_246 : decode b_TypeFinderLaw_law 246 = .ok (.invokevirtual 51, 3) := by decide +kernel
theorem d_TypeFinderLaw_law_249 : decode b_TypeFinderLaw_law 249 = .ok (.if_icmp .eq 147, 3) := by decide +kernel
theorem d_TypeFinderLaw_law_254 : decode b_TypeFinderLaw_law 254 = .ok (.aload_n 1, 1) := by decide +kernel
theorem d_TypeFinderLaw_law_255 : decode b_TypeFinderLaw_law 255 = .ok (.aload_n 0, 1) := by decide +kernel
theorem d_TypeFinderLaw_law_256 : decode b_TypeFinderLaw_law 256 = .ok (.iload 4, 2) := by decide +kernel
theorem d_TypeFinderLaw_law_258 : decode b_TypeFinderLaw_law 258 = .ok (.iconst 1, 1) := by decide +kernel
theorem d_TypeFinderLaw_law_259 : decode b_TypeFinderLaw_law 259 = .ok (.iadd, 1) := by decide +kernel
theorem d_TypeFinderLaw_law_260 : decode b_TypeFinderLaw_law 260 = .ok (.iaload, 1) := by decide +kernel
theorem d_TypeFinderLaw_law_261 : decode b_TypeFinderLaw_law 261 = .ok (.invokevirtual 52, 3) := by decide +kernel
theorem d_TypeFinderLaw_law_264 : decode b_TypeFinderLaw_law 264 = .ok (.aload_n 2, 1) := by decide +kernel
theorem d_TypeFinderLaw_law_265 : decode b_TypeFinderLaw_law 265 = .ok (.aload_n 0, 1) := by decide +kernel
theorem d_TypeFinderLaw_law_266 : decode b_TypeFinderLaw_law 266 = .ok (.iload 4, 2) := by decide +kernel
theorem d_TypeFinderLaw_law_268 : decode b_TypeFinderLaw_law 268 = .ok (.iconst 1, 1) := by decide +kernel
theorem d_TypeFinderLaw_law_269 : decode b_TypeFinderLaw_law 269 = .ok (.iadd, 1) := by decide +kernel
theorem d_TypeFinderLaw_law_270 : decode b_TypeFinderLaw_law 270 = .ok (.iaload, 1) := by decide +kernel
theorem d_TypeFinderLaw_law_271 : decode b_TypeFinderLaw_law 271 = .ok (.invokevirtual 55, 3) := by decide +kernel
theorem d_TypeFinderLaw_law_274 : decode b_TypeFinderLaw_law 274 = .ok (.if_icmp .eq 122, 3) := by decide +kernel
theorem d_TypeFinderLaw_law_279 : decode b_TypeFinderLaw_law 279 = .ok (.aload_n 1, 1) := by decide +kernel
theorem d_TypeFinderLaw_law_280 : decode b_TypeFinderLaw_law 280 = .ok (.aload_n 0, 1) := by decide +kernel
theorem d_TypeFinderLaw_law_281 : decode b_TypeFinderLaw_law 281 = .ok (.iload 4, 2) := by decide +kernel
theorem d_TypeFinderLaw_law_283 : decode b_TypeFinderLaw_law 283 = .ok (.iconst 1, 1) := by decide +kernel
theorem d_TypeFinderLaw_law_284 : decode b_TypeFinderLaw_law 284 = .ok (.iadd, 1) := by decide +kernel
theorem d_TypeFinderLaw_law_285 : decode b_TypeFinderLaw_law 285 = .ok (.iaload, 1) := by decide +kernel
theorem d_TypeFinderLaw_law_286 : decode b_TypeFinderLaw_law 286 = .ok (.i2c, 1) := by decide +kernel
theorem d_TypeFinderLaw_law_287 : decode b_TypeFinderLaw_law 287 = .ok (.aload_n 0, 1) := by decide +kernel
theorem d_TypeFinderLaw_law_288 : decode b_TypeFinderLaw_law 288 = .ok (.iload 4, 2) := by decide +kernel
theorem d_TypeFinderLaw_law_290 : decode b_TypeFinderLaw_law 290 = .ok (.iconst 2, 1) := by decide +kernel
theorem d_TypeFinderLaw_law_291 : decode b_TypeFinderLaw_law 291 = .ok (.iadd, 1) := by decide +kernel
theorem d_TypeFinderLaw_law_292 : decode b_TypeFinderLaw_law 292 = .ok (.iaload, 1) := by decide +kernel
theorem d_TypeFinderLaw_law_293 : decode b_TypeFinderLaw_law 293 = .ok (.aload_n 0, 1) := by decide +kernel
theorem d_TypeFinderLaw_law_294 : decode b_TypeFinderLaw_law 294 = .ok (.iload 4, 2) := by decide +kernel
theorem d_TypeFinderLaw_law_296 : decode b_TypeFinderLaw_law 296 = .ok (.iconst 3, 1) := by decide +kernel
theorem d_TypeFinderLaw_law_297 : decode b_TypeFinderLaw_law 297 = .ok (.iadd, 1) := by decide +kernel
theorem d_TypeFinderLaw_law_298 : decode b_TypeFinderLaw_law 298 = .ok (.iaload, 1) := by decide +kernel
theorem d_TypeFinderLaw_law_299 : decode b_TypeFinderLaw_law 299 = .ok (.ifCond .eq 7, 3) := by decide +kernel
theorem d_TypeFinderLaw_law_302 : decode b_TypeFinderLaw_law 302 = .ok (.iconst 1, 1) := by decide +kernel
theorem d_TypeFinderLaw_law_303 : decode b_TypeFinderLaw_law 303 = .ok (.goto 4, 3) := by decide +kernel
theorem d_TypeFinderLaw_law_306 : decode b_TypeFinderLaw_law 306 = .ok (.iconst 0, 1) := by decide +kernel
theorem d_TypeFinderLaw_law_307 : decode b_TypeFinderLaw_law 307 = .ok (.invokevirtual 56, 3) := by decide +kernel
theorem d_TypeFinderLaw_law_310 : decode b_TypeFinderLaw_law 310 = .ok (.aload_n 2, 1) := by decide +kernel
theorem d_TypeFinderLaw_law_311 : decode b_TypeFinderLaw_law 311 = .ok (.aload_n 0, 1) := by decide +kernel
theorem d_TypeFinderLaw_law_312 : decode b_TypeFinderLaw_law 312 = .ok (.iload 4, 2) := by decide +kernel
theorem d_TypeFinderLaw_law_314 : decode b_TypeFinderLaw_law 314 = .ok (.iconst 1, 1) := by decide +kernel
theorem d_TypeFinderLaw_law_315 : decode b_TypeFinderLaw_law 315 = .ok (.iadd, 1) := by decide +kernel
theorem d_TypeFinderLaw_law_316 : decode b_TypeFinderLaw_law 316 = .ok (.iaload, 1) := by decide +kernel
