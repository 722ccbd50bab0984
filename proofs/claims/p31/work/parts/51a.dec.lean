theorem dL_below_0 : decode cL_below 0 = .ok (.iload_n 0, 1) := by decide +kernel
theorem dL_below_1 : decode cL_below 1 = .ok (.ldc 7, 2) := by decide +kernel
theorem dL_below_3 : decode cL_below 3 = .ok (.iand, 1) := by decide +kernel
theorem dL_below_4 : decode cL_below 4 = .ok (.iload_n 1, 1) := by decide +kernel
theorem dL_below_5 : decode cL_below 5 = .ok (.irem, 1) := by decide +kernel
theorem dL_below_6 : decode cL_below 6 = .ok (.ireturn, 1) := by decide +kernel
theorem dL_cell_0 : decode cL_cell 0 = .ok (.iload_n 1, 1) := by decide +kernel
theorem dL_cell_1 : decode cL_cell 1 = .ok (.aload_n 0, 1) := by decide +kernel
theorem dL_cell_2 : decode cL_cell 2 = .ok (.arraylength, 1) := by decide +kernel
theorem dL_cell_3 : decode cL_cell 3 = .ok (.if_icmp .ge 9, 3) := by decide +kernel
theorem dL_cell_6 : decode cL_cell 6 = .ok (.aload_n 0, 1) := by decide +kernel
theorem dL_cell_7 : decode cL_cell 7 = .ok (.iload_n 1, 1) := by decide +kernel
theorem dL_cell_8 : decode cL_cell 8 = .ok (.iaload, 1) := by decide +kernel
theorem dL_cell_9 : decode cL_cell 9 = .ok (.goto 9, 3) := by decide +kernel
theorem dL_cell_12 : decode cL_cell 12 = .ok (.ldc 8, 2) := by decide +kernel
theorem dL_cell_14 : decode cL_cell 14 = .ok (.iload_n 1, 1) := by decide +kernel
theorem dL_cell_15 : decode cL_cell 15 = .ok (.iconst 3, 1) := by decide +kernel
theorem dL_cell_16 : decode cL_cell 16 = .ok (.iadd, 1) := by decide +kernel
theorem dL_cell_17 : decode cL_cell 17 = .ok (.imul, 1) := by decide +kernel
theorem dL_cell_18 : decode cL_cell 18 = .ok (.ireturn, 1) := by decide +kernel
theorem dL_tracks_0 : decode cL_tracks 0 = .ok (.iconst 0, 1) := by decide +kernel
theorem dL_tracks_1 : decode cL_tracks 1 = .ok (.istore 5, 2) := by decide +kernel
theorem dL_tracks_3 : decode cL_tracks 3 = .ok (.iload 5, 2) := by decide +kernel
theorem dL_tracks_5 : decode cL_tracks 5 = .ok (.iload_n 3, 1) := by decide +kernel
theorem dL_tracks_6 : decode cL_tracks 6 = .ok (.if_icmp .ge 381, 3) := by decide +kernel
theorem dL_tracks_9 : decode cL_tracks 9 = .ok (.aload_n 1, 1) := by decide +kernel
theorem dL_tracks_10 : decode cL_tracks 10 = .ok (.iload_n 2, 1) := by decide +kernel
theorem dL_tracks_11 : decode cL_tracks 11 = .ok (.iload 5, 2) := by decide +kernel
theorem dL_tracks_13 : decode cL_tracks 13 = .ok (.iconst 4, 1) := by decide +kernel
theorem dL_tracks_14 : decode cL_tracks 14 = .ok (.irem, 1) := by decide +kernel
theorem dL_tracks_15 : decode cL_tracks 15 = .ok (.iadd, 1) := by decide +kernel
theorem dL_tracks_16 : decode cL_tracks 16 = .ok (.invokestatic 9, 3) := by decide +kernel
theorem dL_tracks_19 : decode cL_tracks 19 = .ok (.iload 5, 2) := by decide +kernel
theorem dL_tracks_21 : decode cL_tracks 21 = .ok (.iconst 4, 1) := by decide +kernel
theorem dL_tracks_22 : decode cL_tracks 22 = .ok (.idiv, 1) := by decide +kernel
theorem dL_tracks_23 : decode cL_tracks 23 = .ok (.iconst 3, 1) := by decide +kernel
theorem dL_tracks_24 : decode cL_tracks 24 = .ok (.imul, 1) := by decide +kernel
theorem dL_tracks_25 : decode cL_tracks 25 = .ok (.ishr, 1) := by decide +kernel
theorem dL_tracks_26 : decode cL_tracks 26 = .ok (.iload 5, 2) := by decide +kernel
theorem dL_tracks_28 : decode cL_tracks 28 = .ok (.sipush 911, 3) := by decide +kernel
theorem dL_tracks_31 : decode cL_tracks 31 = .ok (.imul, 1) := by decide +kernel
theorem dL_tracks_32 : decode cL_tracks 32 = .ok (.ixor, 1) := by decide +kernel
theorem dL_tracks_33 : decode cL_tracks 33 = .ok (.istore 6, 2) := by decide +kernel
theorem dL_tracks_35 : decode cL_tracks 35 = .ok (.iconst 1, 1) := by decide +kernel
theorem dL_tracks_36 : decode cL_tracks 36 = .ok (.iload 6, 2) := by decide +kernel
theorem dL_tracks_38 : decode cL_tracks 38 = .ok (.bipush 9, 2) := by decide +kernel
theorem dL_tracks_40 : decode cL_tracks 40 = .ok (.invokestatic 15, 3) := by decide +kernel
theorem dL_tracks_43 : decode cL_tracks 43 = .ok (.iadd, 1) := by decide +kernel
theorem dL_tracks_44 : decode cL_tracks 44 = .ok (.istore 7, 2) := by decide +kernel
theorem dL_tracks_46 : decode cL_tracks 46 = .ok (.iconst 1, 1) := by decide +kernel
theorem dL_tracks_47 : decode cL_tracks 47 = .ok (.iload 6, 2) := by decide +kernel
theorem dL_tracks_49 : decode cL_tracks 49 = .ok (.iconst 4, 1) := by decide +kernel
theorem dL_tracks_50 : decode cL_tracks 50 = .ok (.ishr, 1) := by decide +kernel
theorem dL_tracks_51 : decode cL_tracks 51 = .ok (.bipush 12, 2) := by decide +kernel
theorem dL_tracks_53 : decode cL_tracks 53 = .ok (.invokestatic 15, 3) := by decide +kernel
theorem dL_tracks_56 : decode cL_tracks 56 = .ok (.iadd, 1) := by decide +kernel
theorem dL_tracks_57 : decode cL_tracks 57 = .ok (.istore 8, 2) := by decide +kernel
theorem dL_tracks_59 : decode cL_tracks 59 = .ok (.aload_n 0, 1) := by decide +kernel
theorem dL_tracks_60 : decode cL_tracks 60 = .ok (.iload 7, 2) := by decide +kernel
theorem dL_tracks_62 : decode cL_tracks 62 = .ok (.iload 8, 2) := by decide +kernel
theorem dL_tracks_64 : decode cL_tracks 64 = .ok (.invokevirtual 19, 3) := by decide +kernel
theorem dL_tracks_67 : decode cL_tracks 67 = .ok (.pop, 1) := by decide +kernel
theorem dL_tracks_68 : decode cL_tracks 68 = .ok (.aload 4, 2) := by decide +kernel
theorem dL_tracks_70 : decode cL_tracks 70 = .ok (.sipush 200, 3) := by decide +kernel
theorem dL_tracks_73 : decode cL_tracks 73 = .ok (.iload 5, 2) := by decide +kernel
theorem dL_tracks_75 : decode cL_tracks 75 = .ok (.imul, 1) := by decide +kernel
theorem dL_tracks_76 : decode cL_tracks 76 = .ok (.iload 7, 2) := by decide +kernel
theorem dL_tracks_78 : decode cL_tracks 78 = .ok (.iastore, 1) := by decide +kernel
theorem dL_tracks_79 : decode cL_tracks 79 = .ok (.aload 4, 2) := by decide +kernel
theorem dL_tracks_81 : decode cL_tracks 81 = .ok (.sipush 200, 3) := by decide +kernel
theorem dL_tracks_84 : decode cL_tracks 84 = .ok (.iload 5, 2) := by decide +kernel
theorem dL_tracks_86 : decode cL_tracks 86 = .ok (.imul, 1) := by decide +kernel
theorem dL_tracks_87 : decode cL_tracks 87 = .ok (.iconst 1, 1) := by decide +kernel
theorem dL_tracks_88 : decode cL_tracks 88 = .ok (.iadd, 1) := by decide +kernel
theorem dL_tracks_89 : decode cL_tracks 89 = .ok (.iload 8, 2) := by decide +kernel
theorem dL_tracks_91 : decode cL_tracks 91 = .ok (.iastore, 1) := by decide +kernel
theorem dL_tracks_92 : decode cL_tracks 92 = .ok (.aload 4, 2) := by decide +kernel
theorem dL_tracks_94 : decode cL_tracks 94 = .ok (.sipush 200, 3) := by decide +kernel
theorem dL_tracks_97 : decode cL_tracks 97 = .ok (.iload 5, 2) := by decide +kernel
theorem dL_tracks_99 : decode cL_tracks 99 = .ok (.imul, 1) := by decide +kernel
theorem dL_tracks_100 : decode cL_tracks 100 = .ok (.iconst 2, 1) := by decide +kernel
theorem dL_tracks_101 : decode cL_tracks 101 = .ok (.iadd, 1) := by decide +kernel
theorem dL_tracks_102 : decode cL_tracks 102 = .ok (.iload 6, 2) := by decide +kernel
theorem dL_tracks_104 : decode cL_tracks 104 = .ok (.bipush 9, 2) := by decide +kernel
theorem dL_tracks_106 : decode cL_tracks 106 = .ok (.ishr, 1) := by decide +kernel
theorem dL_tracks_107 : decode cL_tracks 107 = .ok (.iload 8, 2) := by decide +kernel
theorem dL_tracks_109 : decode cL_tracks 109 = .ok (.invokestatic 15, 3) := by decide +kernel
theorem dL_tracks_112 : decode cL_tracks 112 = .ok (.iastore, 1) := by decide +kernel
theorem dL_tracks_113 : decode cL_tracks 113 = .ok (.aload 4, 2) := by decide +kernel
theorem dL_tracks_115 : decode cL_tracks 115 = .ok (.sipush 200, 3) := by decide +kernel
theorem dL_tracks_118 : decode cL_tracks 118 = .ok (.iload 5, 2) := by decide +kernel
theorem dL_tracks_120 : decode cL_tracks 120 = .ok (.imul, 1) := by decide +kernel
theorem dL_tracks_121 : decode cL_tracks 121 = .ok (.iconst 3, 1) := by decide +kernel
theorem dL_tracks_122 : decode cL_tracks 122 = .ok (.iadd, 1) := by decide +kernel
theorem dL_tracks_123 : decode cL_tracks 123 = .ok (.iconst 1, 1) := by decide +kernel
theorem dL_tracks_124 : decode cL_tracks 124 = .ok (.iload 6, 2) := by decide +kernel
theorem dL_tracks_126 : decode cL_tracks 126 = .ok (.bipush 12, 2) := by decide +kernel
theorem dL_tracks_128 : decode cL_tracks 128 = .ok (.ishr, 1) := by decide +kernel
theorem dL_tracks_129 : decode cL_tracks 129 = .ok (.bipush 20, 2) := by decide +kernel
theorem dL_tracks_131 : decode cL_tracks 131 = .ok (.invokestatic 15, 3) := by decide +kernel
theorem dL_tracks_134 : decode cL_tracks 134 = .ok (.iadd, 1) := by decide +kernel
theorem dL_tracks_135 : decode cL_tracks 135 = .ok (.iastore, 1) := by decide +kernel
theorem dL_tracks_136 : decode cL_tracks 136 = .ok (.aload 4, 2) := by decide +kernel
theorem dL_tracks_138 : decode cL_tracks 138 = .ok (.sipush 200, 3) := by decide +kernel
theorem dL_tracks_141 : decode cL_tracks 141 = .ok (.iload 5, 2) := by decide +kernel
theorem dL_tracks_143 : decode cL_tracks 143 = .ok (.imul, 1) := by decide +kernel
theorem dL_tracks_144 : decode cL_tracks 144 = .ok (.iconst 4, 1) := by decide +kernel
theorem dL_tracks_145 : decode cL_tracks 145 = .ok (.iadd, 1) := by decide +kernel
theorem dL_tracks_146 : decode cL_tracks 146 = .ok (.iload 6, 2) := by decide +kernel
theorem dL_tracks_148 : decode cL_tracks 148 = .ok (.bipush 15, 2) := by decide +kernel
theorem dL_tracks_150 : decode cL_tracks 150 = .ok (.ishr, 1) := by decide +kernel
theorem dL_tracks_151 : decode cL_tracks 151 = .ok (.iconst 3, 1) := by decide +kernel
theorem dL_tracks_152 : decode cL_tracks 152 = .ok (.invokestatic 15, 3) := by decide +kernel
theorem dL_tracks_155 : decode cL_tracks 155 = .ok (.iastore, 1) := by decide +kernel
theorem dL_tracks_156 : decode cL_tracks 156 = .ok (.aload_n 0, 1) := by decide +kernel
theorem dL_tracks_157 : decode cL_tracks 157 = .ok (.iload 5, 2) := by decide +kernel
theorem dL_tracks_159 : decode cL_tracks 159 = .ok (.aload 4, 2) := by decide +kernel
theorem dL_tracks_161 : decode cL_tracks 161 = .ok (.sipush 200, 3) := by decide +kernel
theorem dL_tracks_164 : decode cL_tracks 164 = .ok (.iload 5, 2) := by decide +kernel
theorem dL_tracks_166 : decode cL_tracks 166 = .ok (.imul, 1) := by decide +kernel
theorem dL_tracks_167 : decode cL_tracks 167 = .ok (.iconst 2, 1) := by decide +kernel
theorem dL_tracks_168 : decode cL_tracks 168 = .ok (.iadd, 1) := by decide +kernel
theorem dL_tracks_169 : decode cL_tracks 169 = .ok (.iaload, 1) := by decide +kernel
theorem dL_tracks_170 : decode cL_tracks 170 = .ok (.aload 4, 2) := by decide +kernel
theorem dL_tracks_172 : decode cL_tracks 172 = .ok (.sipush 200, 3) := by decide +kernel
theorem dL_tracks_175 : decode cL_tracks 175 = .ok (.iload 5, 2) := by decide +kernel
theorem dL_tracks_177 : decode cL_tracks 177 = .ok (.imul, 1) := by decide +kernel
theorem dL_tracks_178 : decode cL_tracks 178 = .ok (.iconst 3, 1) := by decide +kernel
theorem dL_tracks_179 : decode cL_tracks 179 = .ok (.iadd, 1) := by decide +kernel
theorem dL_tracks_180 : decode cL_tracks 180 = .ok (.iaload, 1) := by decide +kernel
theorem dL_tracks_181 : decode cL_tracks 181 = .ok (.aload 4, 2) := by decide +kernel
theorem dL_tracks_183 : decode cL_tracks 183 = .ok (.sipush 200, 3) := by decide +kernel
theorem dL_tracks_186 : decode cL_tracks 186 = .ok (.iload 5, 2) := by decide +kernel
theorem dL_tracks_188 : decode cL_tracks 188 = .ok (.imul, 1) := by decide +kernel
theorem dL_tracks_189 : decode cL_tracks 189 = .ok (.iconst 4, 1) := by decide +kernel
theorem dL_tracks_190 : decode cL_tracks 190 = .ok (.iadd, 1) := by decide +kernel
theorem dL_tracks_191 : decode cL_tracks 191 = .ok (.iaload, 1) := by decide +kernel
theorem dL_tracks_192 : decode cL_tracks 192 = .ok (.invokevirtual 24, 3) := by decide +kernel
theorem dL_tracks_195 : decode cL_tracks 195 = .ok (.pop, 1) := by decide +kernel
theorem dL_tracks_196 : decode cL_tracks 196 = .ok (.iconst 0, 1) := by decide +kernel
theorem dL_tracks_197 : decode cL_tracks 197 = .ok (.istore 9, 2) := by decide +kernel
theorem dL_tracks_199 : decode cL_tracks 199 = .ok (.iload 9, 2) := by decide +kernel
theorem dL_tracks_201 : decode cL_tracks 201 = .ok (.iload 7, 2) := by decide +kernel
theorem dL_tracks_203 : decode cL_tracks 203 = .ok (.if_icmp .ge 178, 3) := by decide +kernel
theorem dL_tracks_206 : decode cL_tracks 206 = .ok (.iload 6, 2) := by decide +kernel
theorem dL_tracks_208 : decode cL_tracks 208 = .ok (.iload 9, 2) := by decide +kernel
theorem dL_tracks_210 : decode cL_tracks 210 = .ok (.sipush 7919, 3) := by decide +kernel
theorem dL_tracks_213 : decode cL_tracks 213 = .ok (.imul, 1) := by decide +kernel
theorem dL_tracks_214 : decode cL_tracks 214 = .ok (.ixor, 1) := by decide +kernel
theorem dL_tracks_215 : decode cL_tracks 215 = .ok (.aload_n 1, 1) := by decide +kernel
theorem dL_tracks_216 : decode cL_tracks 216 = .ok (.iload_n 2, 1) := by decide +kernel
theorem dL_tracks_217 : decode cL_tracks 217 = .ok (.iconst 4, 1) := by decide +kernel
theorem dL_tracks_218 : decode cL_tracks 218 = .ok (.iadd, 1) := by decide +kernel
theorem dL_tracks_219 : decode cL_tracks 219 = .ok (.invokestatic 9, 3) := by decide +kernel
theorem dL_tracks_222 : decode cL_tracks 222 = .ok (.iload 9, 2) := by decide +kernel
theorem dL_tracks_224 : decode cL_tracks 224 = .ok (.ishr, 1) := by decide +kernel
theorem dL_tracks_225 : decode cL_tracks 225 = .ok (.ixor, 1) := by decide +kernel
theorem dL_tracks_226 : decode cL_tracks 226 = .ok (.istore 10, 2) := by decide +kernel
theorem dL_tracks_228 : decode cL_tracks 228 = .ok (.sipush 200, 3) := by decide +kernel
theorem dL_tracks_231 : decode cL_tracks 231 = .ok (.iload 5, 2) := by decide +kernel
theorem dL_tracks_233 : decode cL_tracks 233 = .ok (.imul, 1) := by decide +kernel
theorem dL_tracks_234 : decode cL_tracks 234 = .ok (.bipush 10, 2) := by decide +kernel
theorem dL_tracks_236 : decode cL_tracks 236 = .ok (.iadd, 1) := by decide +kernel
theorem dL_tracks_237 : decode cL_tracks 237 = .ok (.iconst 4, 1) := by decide +kernel
theorem dL_tracks_238 : decode cL_tracks 238 = .ok (.iload 9, 2) := by decide +kernel
theorem dL_tracks_240 : decode cL_tracks 240 = .ok (.imul, 1) := by decide +kernel
theorem dL_tracks_241 : decode cL_tracks 241 = .ok (.iadd, 1) := by decide +kernel
theorem dL_tracks_242 : decode cL_tracks 242 = .ok (.istore 11, 2) := by decide +kernel
theorem dL_tracks_244 : decode cL_tracks 244 = .ok (.aload 4, 2) := by decide +kernel
theorem dL_tracks_246 : decode cL_tracks 246 = .ok (.iload 11, 2) := by decide +kernel
theorem dL_tracks_248 : decode cL_tracks 248 = .ok (.iload 10, 2) := by decide +kernel
theorem dL_tracks_250 : decode cL_tracks 250 = .ok (.iconst 3, 1) := by decide +kernel
theorem dL_tracks_251 : decode cL_tracks 251 = .ok (.invokestatic 15, 3) := by decide +kernel
theorem dL_tracks_254 : decode cL_tracks 254 = .ok (.ifCond .ne 7, 3) := by decide +kernel
theorem dL_tracks_257 : decode cL_tracks 257 = .ok (.iconst 0, 1) := by decide +kernel
theorem dL_tracks_258 : decode cL_tracks 258 = .ok (.goto 14, 3) := by decide +kernel
theorem dL_tracks_261 : decode cL_tracks 261 = .ok (.iconst 1, 1) := by decide +kernel
theorem dL_tracks_262 : decode cL_tracks 262 = .ok (.iload 10, 2) := by decide +kernel
theorem dL_tracks_264 : decode cL_tracks 264 = .ok (.iconst 2, 1) := by decide +kernel
theorem dL_tracks_265 : decode cL_tracks 265 = .ok (.ishr, 1) := by decide +kernel
theorem dL_tracks_266 : decode cL_tracks 266 = .ok (.bipush 127, 2) := by decide +kernel
theorem dL_tracks_268 : decode cL_tracks 268 = .ok (.invokestatic 15, 3) := by decide +kernel
theorem dL_tracks_271 : decode cL_tracks 271 = .ok (.iadd, 1) := by decide +kernel
theorem dL_tracks_272 : decode cL_tracks 272 = .ok (.iastore, 1) := by decide +kernel
theorem dL_tracks_273 : decode cL_tracks 273 = .ok (.aload 4, 2) := by decide +kernel
theorem dL_tracks_275 : decode cL_tracks 275 = .ok (.iload 11, 2) := by decide +kernel
theorem dL_tracks_277 : decode cL_tracks 277 = .ok (.iconst 1, 1) := by decide +kernel
theorem dL_tracks_278 : decode cL_tracks 278 = .ok (.iadd, 1) := by decide +kernel
theorem dL_tracks_279 : decode cL_tracks 279 = .ok (.iconst 1, 1) := by decide +kernel
theorem dL_tracks_280 : decode cL_tracks 280 = .ok (.iload 10, 2) := by decide +kernel
theorem dL_tracks_282 : decode cL_tracks 282 = .ok (.bipush 9, 2) := by decide +kernel
theorem dL_tracks_284 : decode cL_tracks 284 = .ok (.ishr, 1) := by decide +kernel
theorem dL_tracks_285 : decode cL_tracks 285 = .ok (.iconst 4, 1) := by decide +kernel
theorem dL_tracks_286 : decode cL_tracks 286 = .ok (.invokestatic 15, 3) := by decide +kernel
theorem dL_tracks_289 : decode cL_tracks 289 = .ok (.iadd, 1) := by decide +kernel
theorem dL_tracks_290 : decode cL_tracks 290 = .ok (.iastore, 1) := by decide +kernel
theorem dL_tracks_291 : decode cL_tracks 291 = .ok (.aload 4, 2) := by decide +kernel
theorem dL_tracks_293 : decode cL_tracks 293 = .ok (.iload 11, 2) := by decide +kernel
theorem dL_tracks_295 : decode cL_tracks 295 = .ok (.iconst 3, 1) := by decide +kernel
theorem dL_tracks_296 : decode cL_tracks 296 = .ok (.iadd, 1) := by decide +kernel
theorem dL_tracks_297 : decode cL_tracks 297 = .ok (.iconst 1, 1) := by decide +kernel
theorem dL_tracks_298 : decode cL_tracks 298 = .ok (.iload 10, 2) := by decide +kernel
theorem dL_tracks_300 : decode cL_tracks 300 = .ok (.bipush 11, 2) := by decide +kernel
theorem dL_tracks_302 : decode cL_tracks 302 = .ok (.ishr, 1) := by decide +kernel
theorem dL_tracks_303 : decode cL_tracks 303 = .ok (.iconst 3, 1) := by decide +kernel
theorem dL_tracks_304 : decode cL_tracks 304 = .ok (.invokestatic 15, 3) := by decide +kernel
theorem dL_tracks_307 : decode cL_tracks 307 = .ok (.iadd, 1) := by decide +kernel
theorem dL_tracks_308 : decode cL_tracks 308 = .ok (.iastore, 1) := by decide +kernel
theorem dL_tracks_309 : decode cL_tracks 309 = .ok (.aload 4, 2) := by decide +kernel
theorem dL_tracks_311 : decode cL_tracks 311 = .ok (.iload 11, 2) := by decide +kernel
theorem dL_tracks_313 : decode cL_tracks 313 = .ok (.iconst 2, 1) := by decide +kernel
theorem dL_tracks_314 : decode cL_tracks 314 = .ok (.iadd, 1) := by decide +kernel
theorem dL_tracks_315 : decode cL_tracks 315 = .ok (.iload 10, 2) := by decide +kernel
theorem dL_tracks_317 : decode cL_tracks 317 = .ok (.bipush 13, 2) := by decide +kernel
theorem dL_tracks_319 : decode cL_tracks 319 = .ok (.ishr, 1) := by decide +kernel
theorem dL_tracks_320 : decode cL_tracks 320 = .ok (.aload 4, 2) := by decide +kernel
theorem dL_tracks_322 : decode cL_tracks 322 = .ok (.iload 11, 2) := by decide +kernel
theorem dL_tracks_324 : decode cL_tracks 324 = .ok (.iconst 3, 1) := by decide +kernel
theorem dL_tracks_325 : decode cL_tracks 325 = .ok (.iadd, 1) := by decide +kernel
theorem dL_tracks_326 : decode cL_tracks 326 = .ok (.iaload, 1) := by decide +kernel
theorem dL_tracks_327 : decode cL_tracks 327 = .ok (.invokestatic 15, 3) := by decide +kernel
theorem dL_tracks_330 : decode cL_tracks 330 = .ok (.iastore, 1) := by decide +kernel
theorem dL_tracks_331 : decode cL_tracks 331 = .ok (.aload_n 0, 1) := by decide +kernel
theorem dL_tracks_332 : decode cL_tracks 332 = .ok (.iload 5, 2) := by decide +kernel
theorem dL_tracks_334 : decode cL_tracks 334 = .ok (.iload 9, 2) := by decide +kernel
theorem dL_tracks_336 : decode cL_tracks 336 = .ok (.aload 4, 2) := by decide +kernel
theorem dL_tracks_338 : decode cL_tracks 338 = .ok (.iload 11, 2) := by decide +kernel
theorem dL_tracks_340 : decode cL_tracks 340 = .ok (.iaload, 1) := by decide +kernel
theorem dL_tracks_341 : decode cL_tracks 341 = .ok (.aload 4, 2) := by decide +kernel
theorem dL_tracks_343 : decode cL_tracks 343 = .ok (.iload 11, 2) := by decide +kernel
theorem dL_tracks_345 : decode cL_tracks 345 = .ok (.iconst 1, 1) := by decide +kernel
theorem dL_tracks_346 : decode cL_tracks 346 = .ok (.iadd, 1) := by decide +kernel
theorem dL_tracks_347 : decode cL_tracks 347 = .ok (.iaload, 1) := by decide +kernel
theorem dL_tracks_348 : decode cL_tracks 348 = .ok (.invokevirtual 28, 3) := by decide +kernel
theorem dL_tracks_351 : decode cL_tracks 351 = .ok (.pop, 1) := by decide +kernel
theorem dL_tracks_352 : decode cL_tracks 352 = .ok (.aload_n 0, 1) := by decide +kernel
theorem dL_tracks_353 : decode cL_tracks 353 = .ok (.iload 5, 2) := by decide +kernel
theorem dL_tracks_355 : decode cL_tracks 355 = .ok (.iload 9, 2) := by decide +kernel
theorem dL_tracks_357 : decode cL_tracks 357 = .ok (.aload 4, 2) := by decide +kernel
theorem dL_tracks_359 : decode cL_tracks 359 = .ok (.iload 11, 2) := by decide +kernel
theorem dL_tracks_361 : decode cL_tracks 361 = .ok (.iconst 2, 1) := by decide +kernel
theorem dL_tracks_362 : decode cL_tracks 362 = .ok (.iadd, 1) := by decide +kernel
theorem dL_tracks_363 : decode cL_tracks 363 = .ok (.iaload, 1) := by decide +kernel
theorem dL_tracks_364 : decode cL_tracks 364 = .ok (.aload 4, 2) := by decide +kernel
theorem dL_tracks_366 : decode cL_tracks 366 = .ok (.iload 11, 2) := by decide +kernel
theorem dL_tracks_368 : decode cL_tracks 368 = .ok (.iconst 3, 1) := by decide +kernel
theorem dL_tracks_369 : decode cL_tracks 369 = .ok (.iadd, 1) := by decide +kernel
theorem dL_tracks_370 : decode cL_tracks 370 = .ok (.iaload, 1) := by decide +kernel
theorem dL_tracks_371 : decode cL_tracks 371 = .ok (.invokevirtual 31, 3) := by decide +kernel
theorem dL_tracks_374 : decode cL_tracks 374 = .ok (.pop, 1) := by decide +kernel
theorem dL_tracks_375 : decode cL_tracks 375 = .ok (.iinc 9 1, 3) := by decide +kernel
theorem dL_tracks_378 : decode cL_tracks 378 = .ok (.goto (-179), 3) := by decide +kernel
theorem dL_tracks_381 : decode cL_tracks 381 = .ok (.iinc 5 1, 3) := by decide +kernel
theorem dL_tracks_384 : decode cL_tracks 384 = .ok (.goto (-381), 3) := by decide +kernel
theorem dL_tracks_387 : decode cL_tracks 387 = .ok (.return_, 1) := by decide +kernel
theorem dL_law_0 : decode cL_law 0 = .ok (.new 20, 3) := by decide +kernel
theorem dL_law_3 : decode cL_law 3 = .ok (.dup, 1) := by decide +kernel
theorem dL_law_4 : decode cL_law 4 = .ok (.invokespecial 34, 3) := by decide +kernel
theorem dL_law_7 : decode cL_law 7 = .ok (.astore_n 1, 1) := by decide +kernel
theorem dL_law_8 : decode cL_law 8 = .ok (.iconst 2, 1) := by decide +kernel
theorem dL_law_9 : decode cL_law 9 = .ok (.aload_n 0, 1) := by decide +kernel
theorem dL_law_10 : decode cL_law 10 = .ok (.iconst 0, 1) := by decide +kernel
theorem dL_law_11 : decode cL_law 11 = .ok (.invokestatic 9, 3) := by decide +kernel
theorem dL_law_14 : decode cL_law 14 = .ok (.bipush 6, 2) := by decide +kernel
theorem dL_law_16 : decode cL_law 16 = .ok (.invokestatic 15, 3) := by decide +kernel
theorem dL_law_19 : decode cL_law 19 = .ok (.iadd, 1) := by decide +kernel
theorem dL_law_20 : decode cL_law 20 = .ok (.istore_n 2, 1) := by decide +kernel
theorem dL_law_21 : decode cL_law 21 = .ok (.sipush 1600, 3) := by decide +kernel
theorem dL_law_24 : decode cL_law 24 = .ok (.newarray .int, 2) := by decide +kernel
theorem dL_law_26 : decode cL_law 26 = .ok (.astore_n 3, 1) := by decide +kernel
theorem dL_law_27 : decode cL_law 27 = .ok (.aload_n 1, 1) := by decide +kernel
theorem dL_law_28 : decode cL_law 28 = .ok (.aload_n 0, 1) := by decide +kernel
theorem dL_law_29 : decode cL_law 29 = .ok (.iconst 1, 1) := by decide +kernel
theorem dL_law_30 : decode cL_law 30 = .ok (.iload_n 2, 1) := by decide +kernel
theorem dL_law_31 : decode cL_law 31 = .ok (.aload_n 3, 1) := by decide +kernel
theorem dL_law_32 : decode cL_law 32 = .ok (.invokestatic 35, 3) := by decide +kernel
theorem dL_law_35 : decode cL_law 35 = .ok (.aload_n 0, 1) := by decide +kernel
theorem dL_law_36 : decode cL_law 36 = .ok (.bipush 6, 2) := by decide +kernel
theorem dL_law_38 : decode cL_law 38 = .ok (.invokestatic 9, 3) := by decide +kernel
theorem dL_law_41 : decode cL_law 41 = .ok (.iconst 4, 1) := by decide +kernel
theorem dL_law_42 : decode cL_law 42 = .ok (.invokestatic 15, 3) := by decide +kernel
theorem dL_law_45 : decode cL_law 45 = .ok (.istore 4, 2) := by decide +kernel
theorem dL_law_47 : decode cL_law 47 = .ok (.iload 4, 2) := by decide +kernel
theorem dL_law_49 : decode cL_law 49 = .ok (.ifCond .le 68, 3) := by decide +kernel
theorem dL_law_52 : decode cL_law 52 = .ok (.aload_n 1, 1) := by decide +kernel
theorem dL_law_53 : decode cL_law 53 = .ok (.iconst 1, 1) := by decide +kernel
theorem dL_law_54 : decode cL_law 54 = .ok (.aload_n 0, 1) := by decide +kernel
theorem dL_law_55 : decode cL_law 55 = .ok (.bipush 7, 2) := by decide +kernel
theorem dL_law_57 : decode cL_law 57 = .ok (.invokestatic 9, 3) := by decide +kernel
theorem dL_law_60 : decode cL_law 60 = .ok (.iload 4, 2) := by decide +kernel
theorem dL_law_62 : decode cL_law 62 = .ok (.ishr, 1) := by decide +kernel
theorem dL_law_63 : decode cL_law 63 = .ok (.bipush 90, 2) := by decide +kernel
theorem dL_law_65 : decode cL_law 65 = .ok (.invokestatic 15, 3) := by decide +kernel
theorem dL_law_68 : decode cL_law 68 = .ok (.iadd, 1) := by decide +kernel
theorem dL_law_69 : decode cL_law 69 = .ok (.aload_n 0, 1) := by decide +kernel
theorem dL_law_70 : decode cL_law 70 = .ok (.bipush 8, 2) := by decide +kernel
theorem dL_law_72 : decode cL_law 72 = .ok (.invokestatic 9, 3) := by decide +kernel
theorem dL_law_75 : decode cL_law 75 = .ok (.iconst 2, 1) := by decide +kernel
theorem dL_law_76 : decode cL_law 76 = .ok (.iload 4, 2) := by decide +kernel
theorem dL_law_78 : decode cL_law 78 = .ok (.imul, 1) := by decide +kernel
theorem dL_law_79 : decode cL_law 79 = .ok (.ishr, 1) := by decide +kernel
theorem dL_law_80 : decode cL_law 80 = .ok (.sipush 256, 3) := by decide +kernel
theorem dL_law_83 : decode cL_law 83 = .ok (.invokestatic 15, 3) := by decide +kernel
theorem dL_law_86 : decode cL_law 86 = .ok (.aload_n 0, 1) := by decide +kernel
theorem dL_law_87 : decode cL_law 87 = .ok (.bipush 9, 2) := by decide +kernel
theorem dL_law_89 : decode cL_law 89 = .ok (.invokestatic 9, 3) := by decide +kernel
theorem dL_law_92 : decode cL_law 92 = .ok (.iload 4, 2) := by decide +kernel
theorem dL_law_94 : decode cL_law 94 = .ok (.ishr, 1) := by decide +kernel
theorem dL_law_95 : decode cL_law 95 = .ok (.iconst 2, 1) := by decide +kernel
theorem dL_law_96 : decode cL_law 96 = .ok (.invokestatic 15, 3) := by decide +kernel
theorem dL_law_99 : decode cL_law 99 = .ok (.ifCond .ne 7, 3) := by decide +kernel
theorem dL_law_102 : decode cL_law 102 = .ok (.iconst 1, 1) := by decide +kernel
theorem dL_law_103 : decode cL_law 103 = .ok (.goto 4, 3) := by decide +kernel
theorem dL_law_106 : decode cL_law 106 = .ok (.iconst 0, 1) := by decide +kernel
theorem dL_law_107 : decode cL_law 107 = .ok (.invokevirtual 39, 3) := by decide +kernel
theorem dL_law_110 : decode cL_law 110 = .ok (.pop, 1) := by decide +kernel
theorem dL_law_111 : decode cL_law 111 = .ok (.iinc 4 (-1), 3) := by decide +kernel
theorem dL_law_114 : decode cL_law 114 = .ok (.goto (-67), 3) := by decide +kernel
theorem dL_law_117 : decode cL_law 117 = .ok (.iconst 0, 1) := by decide +kernel
theorem dL_law_118 : decode cL_law 118 = .ok (.istore 4, 2) := by decide +kernel
theorem dL_law_120 : decode cL_law 120 = .ok (.iload 4, 2) := by decide +kernel
theorem dL_law_122 : decode cL_law 122 = .ok (.bipush 10, 2) := by decide +kernel
theorem dL_law_124 : decode cL_law 124 = .ok (.if_icmp .ge 578, 3) := by decide +kernel
theorem dL_law_127 : decode cL_law 127 = .ok (.aload_n 0, 1) := by decide +kernel
theorem dL_law_128 : decode cL_law 128 = .ok (.bipush 10, 2) := by decide +kernel
theorem dL_law_130 : decode cL_law 130 = .ok (.iload 4, 2) := by decide +kernel
theorem dL_law_132 : decode cL_law 132 = .ok (.iconst 3, 1) := by decide +kernel
theorem dL_law_133 : decode cL_law 133 = .ok (.irem, 1) := by decide +kernel
theorem dL_law_134 : decode cL_law 134 = .ok (.iadd, 1) := by decide +kernel
theorem dL_law_135 : decode cL_law 135 = .ok (.invokestatic 9, 3) := by decide +kernel
