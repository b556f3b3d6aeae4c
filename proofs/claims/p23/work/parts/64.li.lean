/-! THE LAW'S isMessage: an edit -/
theorem dL_isMessage_0 : decode cL_isMessage 0 = .ok (.iload 9, 2) := by decide +kernel
theorem dL_isMessage_2 : decode cL_isMessage 2 = .ok (.aload 7, 2) := by decide +kernel
theorem dL_isMessage_4 : decode cL_isMessage 4 = .ok (.iconst 1, 1) := by decide +kernel
theorem dL_isMessage_5 : decode cL_isMessage 5 = .ok (.iaload, 1) := by decide +kernel
theorem dL_isMessage_6 : decode cL_isMessage 6 = .ok (.iconst 1, 1) := by decide +kernel
theorem dL_isMessage_7 : decode cL_isMessage 7 = .ok (.iadd, 1) := by decide +kernel
theorem dL_isMessage_8 : decode cL_isMessage 8 = .ok (.irem, 1) := by decide +kernel
theorem dL_isMessage_9 : decode cL_isMessage 9 = .ok (.istore 11, 2) := by decide +kernel
theorem dL_isMessage_11 : decode cL_isMessage 11 = .ok (.iload 11, 2) := by decide +kernel
theorem dL_isMessage_13 : decode cL_isMessage 13 = .ok (.aload 7, 2) := by decide +kernel
theorem dL_isMessage_15 : decode cL_isMessage 15 = .ok (.iconst 1, 1) := by decide +kernel
theorem dL_isMessage_16 : decode cL_isMessage 16 = .ok (.iaload, 1) := by decide +kernel
theorem dL_isMessage_17 : decode cL_isMessage 17 = .ok (.if_icmp .ge 7, 3) := by decide +kernel
theorem dL_isMessage_20 : decode cL_isMessage 20 = .ok (.iconst 1, 1) := by decide +kernel
theorem dL_isMessage_21 : decode cL_isMessage 21 = .ok (.goto 4, 3) := by decide +kernel
theorem dL_isMessage_24 : decode cL_isMessage 24 = .ok (.iconst 0, 1) := by decide +kernel
theorem dL_isMessage_25 : decode cL_isMessage 25 = .ok (.istore 12, 2) := by decide +kernel
theorem dL_isMessage_27 : decode cL_isMessage 27 = .ok (.iload 8, 2) := by decide +kernel
theorem dL_isMessage_29 : decode cL_isMessage 29 = .ok (.ifCond .ne 236, 3) := by decide +kernel
theorem dL_isMessage_32 : decode cL_isMessage 32 = .ok (.aload 7, 2) := by decide +kernel
theorem dL_isMessage_34 : decode cL_isMessage 34 = .ok (.iconst 2, 1) := by decide +kernel
theorem dL_isMessage_35 : decode cL_isMessage 35 = .ok (.iaload, 1) := by decide +kernel
theorem dL_isMessage_36 : decode cL_isMessage 36 = .ok (.bipush 30, 2) := by decide +kernel
theorem dL_isMessage_38 : decode cL_isMessage 38 = .ok (.if_icmp .ge 227, 3) := by decide +kernel
theorem dL_isMessage_41 : decode cL_isMessage 41 = .ok (.iload 10, 2) := by decide +kernel
theorem dL_isMessage_43 : decode cL_isMessage 43 = .ok (.bipush 13, 2) := by decide +kernel
theorem dL_isMessage_45 : decode cL_isMessage 45 = .ok (.irem, 1) := by decide +kernel
theorem dL_isMessage_46 : decode cL_isMessage 46 = .ok (.ifCond .ne 8, 3) := by decide +kernel
theorem dL_isMessage_49 : decode cL_isMessage 49 = .ok (.bipush 6, 2) := by decide +kernel
theorem dL_isMessage_51 : decode cL_isMessage 51 = .ok (.goto 7, 3) := by decide +kernel
theorem dL_isMessage_54 : decode cL_isMessage 54 = .ok (.iload 10, 2) := by decide +kernel
theorem dL_isMessage_56 : decode cL_isMessage 56 = .ok (.iconst 2, 1) := by decide +kernel
theorem dL_isMessage_57 : decode cL_isMessage 57 = .ok (.irem, 1) := by decide +kernel
theorem dL_isMessage_58 : decode cL_isMessage 58 = .ok (.istore 13, 2) := by decide +kernel
theorem dL_isMessage_60 : decode cL_isMessage 60 = .ok (.iload 9, 2) := by decide +kernel
theorem dL_isMessage_62 : decode cL_isMessage 62 = .ok (.bipush 9, 2) := by decide +kernel
theorem dL_isMessage_64 : decode cL_isMessage 64 = .ok (.idiv, 1) := by decide +kernel
theorem dL_isMessage_65 : decode cL_isMessage 65 = .ok (.iconst 3, 1) := by decide +kernel
theorem dL_isMessage_66 : decode cL_isMessage 66 = .ok (.irem, 1) := by decide +kernel
theorem dL_isMessage_67 : decode cL_isMessage 67 = .ok (.ifCond .ne 7, 3) := by decide +kernel
theorem dL_isMessage_70 : decode cL_isMessage 70 = .ok (.iconst (-1), 1) := by decide +kernel
theorem dL_isMessage_71 : decode cL_isMessage 71 = .ok (.goto 17, 3) := by decide +kernel
theorem dL_isMessage_74 : decode cL_isMessage 74 = .ok (.iload 10, 2) := by decide +kernel
theorem dL_isMessage_76 : decode cL_isMessage 76 = .ok (.bipush 13, 2) := by decide +kernel
theorem dL_isMessage_78 : decode cL_isMessage 78 = .ok (.idiv, 1) := by decide +kernel
theorem dL_isMessage_79 : decode cL_isMessage 79 = .ok (.aload 7, 2) := by decide +kernel
theorem dL_isMessage_81 : decode cL_isMessage 81 = .ok (.iconst 2, 1) := by decide +kernel
theorem dL_isMessage_82 : decode cL_isMessage 82 = .ok (.iaload, 1) := by decide +kernel
theorem dL_isMessage_83 : decode cL_isMessage 83 = .ok (.iconst 2, 1) := by decide +kernel
theorem dL_isMessage_84 : decode cL_isMessage 84 = .ok (.iadd, 1) := by decide +kernel
theorem dL_isMessage_85 : decode cL_isMessage 85 = .ok (.irem, 1) := by decide +kernel
theorem dL_isMessage_86 : decode cL_isMessage 86 = .ok (.iconst 1, 1) := by decide +kernel
theorem dL_isMessage_87 : decode cL_isMessage 87 = .ok (.isub, 1) := by decide +kernel
theorem dL_isMessage_88 : decode cL_isMessage 88 = .ok (.istore 14, 2) := by decide +kernel
theorem dL_isMessage_90 : decode cL_isMessage 90 = .ok (.iload 12, 2) := by decide +kernel
theorem dL_isMessage_92 : decode cL_isMessage 92 = .ok (.ifCond .eq 23, 3) := by decide +kernel
theorem dL_isMessage_95 : decode cL_isMessage 95 = .ok (.iload 13, 2) := by decide +kernel
theorem dL_isMessage_97 : decode cL_isMessage 97 = .ok (.bipush 6, 2) := by decide +kernel
theorem dL_isMessage_99 : decode cL_isMessage 99 = .ok (.if_icmp .ge 16, 3) := by decide +kernel
theorem dL_isMessage_102 : decode cL_isMessage 102 = .ok (.iload 14, 2) := by decide +kernel
theorem dL_isMessage_104 : decode cL_isMessage 104 = .ok (.aload 7, 2) := by decide +kernel
theorem dL_isMessage_106 : decode cL_isMessage 106 = .ok (.iconst 2, 1) := by decide +kernel
theorem dL_isMessage_107 : decode cL_isMessage 107 = .ok (.iaload, 1) := by decide +kernel
theorem dL_isMessage_108 : decode cL_isMessage 108 = .ok (.if_icmp .ge 7, 3) := by decide +kernel
theorem dL_isMessage_111 : decode cL_isMessage 111 = .ok (.iconst 1, 1) := by decide +kernel
theorem dL_isMessage_112 : decode cL_isMessage 112 = .ok (.goto 4, 3) := by decide +kernel
theorem dL_isMessage_115 : decode cL_isMessage 115 = .ok (.iconst 0, 1) := by decide +kernel
theorem dL_isMessage_116 : decode cL_isMessage 116 = .ok (.istore 15, 2) := by decide +kernel
theorem dL_isMessage_118 : decode cL_isMessage 118 = .ok (.iload 15, 2) := by decide +kernel
theorem dL_isMessage_120 : decode cL_isMessage 120 = .ok (.ifCond .eq 48, 3) := by decide +kernel
theorem dL_isMessage_123 : decode cL_isMessage 123 = .ok (.aload_n 1, 1) := by decide +kernel
theorem dL_isMessage_124 : decode cL_isMessage 124 = .ok (.aload 7, 2) := by decide +kernel
theorem dL_isMessage_126 : decode cL_isMessage 126 = .ok (.iload 11, 2) := by decide +kernel
theorem dL_isMessage_128 : decode cL_isMessage 128 = .ok (.invokestatic 79, 3) := by decide +kernel
theorem dL_isMessage_131 : decode cL_isMessage 131 = .ok (.ifCond .ne 37, 3) := by decide +kernel
theorem dL_isMessage_134 : decode cL_isMessage 134 = .ok (.iload 14, 2) := by decide +kernel
theorem dL_isMessage_136 : decode cL_isMessage 136 = .ok (.ifCond .lt 28, 3) := by decide +kernel
theorem dL_isMessage_139 : decode cL_isMessage 139 = .ok (.aload_n 2, 1) := by decide +kernel
theorem dL_isMessage_140 : decode cL_isMessage 140 = .ok (.iload 14, 2) := by decide +kernel
theorem dL_isMessage_142 : decode cL_isMessage 142 = .ok (.iaload, 1) := by decide +kernel
theorem dL_isMessage_143 : decode cL_isMessage 143 = .ok (.bipush 16, 2) := by decide +kernel
theorem dL_isMessage_145 : decode cL_isMessage 145 = .ok (.idiv, 1) := by decide +kernel
theorem dL_isMessage_146 : decode cL_isMessage 146 = .ok (.bipush 8, 2) := by decide +kernel
theorem dL_isMessage_148 : decode cL_isMessage 148 = .ok (.irem, 1) := by decide +kernel
theorem dL_isMessage_149 : decode cL_isMessage 149 = .ok (.iload 13, 2) := by decide +kernel
theorem dL_isMessage_151 : decode cL_isMessage 151 = .ok (.if_icmp .ne 17, 3) := by decide +kernel
theorem dL_isMessage_154 : decode cL_isMessage 154 = .ok (.aload_n 2, 1) := by decide +kernel
theorem dL_isMessage_155 : decode cL_isMessage 155 = .ok (.iload 14, 2) := by decide +kernel
theorem dL_isMessage_157 : decode cL_isMessage 157 = .ok (.iaload, 1) := by decide +kernel
theorem dL_isMessage_158 : decode cL_isMessage 158 = .ok (.sipush 8192, 3) := by decide +kernel
theorem dL_isMessage_161 : decode cL_isMessage 161 = .ok (.if_icmp .ge 7, 3) := by decide +kernel
theorem dL_isMessage_164 : decode cL_isMessage 164 = .ok (.iconst 1, 1) := by decide +kernel
theorem dL_isMessage_165 : decode cL_isMessage 165 = .ok (.goto 4, 3) := by decide +kernel
theorem dL_isMessage_168 : decode cL_isMessage 168 = .ok (.iconst 0, 1) := by decide +kernel
theorem dL_isMessage_169 : decode cL_isMessage 169 = .ok (.istore 16, 2) := by decide +kernel
theorem dL_isMessage_171 : decode cL_isMessage 171 = .ok (.iload 16, 2) := by decide +kernel
theorem dL_isMessage_173 : decode cL_isMessage 173 = .ok (.ifCond .eq 45, 3) := by decide +kernel
theorem dL_isMessage_176 : decode cL_isMessage 176 = .ok (.aload_n 2, 1) := by decide +kernel
theorem dL_isMessage_177 : decode cL_isMessage 177 = .ok (.aload 7, 2) := by decide +kernel
theorem dL_isMessage_179 : decode cL_isMessage 179 = .ok (.iconst 2, 1) := by decide +kernel
theorem dL_isMessage_180 : decode cL_isMessage 180 = .ok (.iaload, 1) := by decide +kernel
theorem dL_isMessage_181 : decode cL_isMessage 181 = .ok (.iload 11, 2) := by decide +kernel
theorem dL_isMessage_183 : decode cL_isMessage 183 = .ok (.bipush 16, 2) := by decide +kernel
theorem dL_isMessage_185 : decode cL_isMessage 185 = .ok (.iload 13, 2) := by decide +kernel
theorem dL_isMessage_187 : decode cL_isMessage 187 = .ok (.imul, 1) := by decide +kernel
theorem dL_isMessage_188 : decode cL_isMessage 188 = .ok (.iadd, 1) := by decide +kernel
theorem dL_isMessage_189 : decode cL_isMessage 189 = .ok (.sipush 128, 3) := by decide +kernel
theorem dL_isMessage_192 : decode cL_isMessage 192 = .ok (.iload 14, 2) := by decide +kernel
theorem dL_isMessage_194 : decode cL_isMessage 194 = .ok (.iconst 1, 1) := by decide +kernel
theorem dL_isMessage_195 : decode cL_isMessage 195 = .ok (.iadd, 1) := by decide +kernel
theorem dL_isMessage_196 : decode cL_isMessage 196 = .ok (.imul, 1) := by decide +kernel
theorem dL_isMessage_197 : decode cL_isMessage 197 = .ok (.iadd, 1) := by decide +kernel
theorem dL_isMessage_198 : decode cL_isMessage 198 = .ok (.iastore, 1) := by decide +kernel
theorem dL_isMessage_199 : decode cL_isMessage 199 = .ok (.aload 4, 2) := by decide +kernel
theorem dL_isMessage_201 : decode cL_isMessage 201 = .ok (.aload 7, 2) := by decide +kernel
theorem dL_isMessage_203 : decode cL_isMessage 203 = .ok (.iconst 2, 1) := by decide +kernel
theorem dL_isMessage_204 : decode cL_isMessage 204 = .ok (.iaload, 1) := by decide +kernel
theorem dL_isMessage_205 : decode cL_isMessage 205 = .ok (.aload 7, 2) := by decide +kernel
theorem dL_isMessage_207 : decode cL_isMessage 207 = .ok (.iconst 0, 1) := by decide +kernel
theorem dL_isMessage_208 : decode cL_isMessage 208 = .ok (.iaload, 1) := by decide +kernel
theorem dL_isMessage_209 : decode cL_isMessage 209 = .ok (.iastore, 1) := by decide +kernel
theorem dL_isMessage_210 : decode cL_isMessage 210 = .ok (.aload 7, 2) := by decide +kernel
theorem dL_isMessage_212 : decode cL_isMessage 212 = .ok (.iconst 2, 1) := by decide +kernel
theorem dL_isMessage_213 : decode cL_isMessage 213 = .ok (.dup2, 1) := by decide +kernel
theorem dL_isMessage_214 : decode cL_isMessage 214 = .ok (.iaload, 1) := by decide +kernel
theorem dL_isMessage_215 : decode cL_isMessage 215 = .ok (.iconst 1, 1) := by decide +kernel
theorem dL_isMessage_216 : decode cL_isMessage 216 = .ok (.iadd, 1) := by decide +kernel
theorem dL_isMessage_217 : decode cL_isMessage 217 = .ok (.iastore, 1) := by decide +kernel
theorem dL_isMessage_218 : decode cL_isMessage 218 = .ok (.aload_n 0, 1) := by decide +kernel
theorem dL_isMessage_219 : decode cL_isMessage 219 = .ok (.iconst 4, 1) := by decide +kernel
theorem dL_isMessage_220 : decode cL_isMessage 220 = .ok (.iload 11, 2) := by decide +kernel
theorem dL_isMessage_222 : decode cL_isMessage 222 = .ok (.iload 13, 2) := by decide +kernel
theorem dL_isMessage_224 : decode cL_isMessage 224 = .ok (.iload 14, 2) := by decide +kernel
theorem dL_isMessage_226 : decode cL_isMessage 226 = .ok (.iconst 0, 1) := by decide +kernel
theorem dL_isMessage_227 : decode cL_isMessage 227 = .ok (.invokestatic 106, 3) := by decide +kernel
theorem dL_isMessage_230 : decode cL_isMessage 230 = .ok (.iload 15, 2) := by decide +kernel
theorem dL_isMessage_232 : decode cL_isMessage 232 = .ok (.ifCond .ne 8, 3) := by decide +kernel
theorem dL_isMessage_235 : decode cL_isMessage 235 = .ok (.ldc 72, 2) := by decide +kernel
theorem dL_isMessage_237 : decode cL_isMessage 237 = .ok (.goto 19, 3) := by decide +kernel
theorem dL_isMessage_240 : decode cL_isMessage 240 = .ok (.iload 16, 2) := by decide +kernel
theorem dL_isMessage_242 : decode cL_isMessage 242 = .ok (.ifCond .eq 12, 3) := by decide +kernel
theorem dL_isMessage_245 : decode cL_isMessage 245 = .ok (.aload 7, 2) := by decide +kernel
theorem dL_isMessage_247 : decode cL_isMessage 247 = .ok (.iconst 2, 1) := by decide +kernel
theorem dL_isMessage_248 : decode cL_isMessage 248 = .ok (.iaload, 1) := by decide +kernel
theorem dL_isMessage_249 : decode cL_isMessage 249 = .ok (.iconst 1, 1) := by decide +kernel
theorem dL_isMessage_250 : decode cL_isMessage 250 = .ok (.isub, 1) := by decide +kernel
theorem dL_isMessage_251 : decode cL_isMessage 251 = .ok (.goto 5, 3) := by decide +kernel
theorem dL_isMessage_254 : decode cL_isMessage 254 = .ok (.ldc 78, 2) := by decide +kernel
theorem dL_isMessage_256 : decode cL_isMessage 256 = .ok (.if_icmp .ne 7, 3) := by decide +kernel
theorem dL_isMessage_259 : decode cL_isMessage 259 = .ok (.iconst 1, 1) := by decide +kernel
theorem dL_isMessage_260 : decode cL_isMessage 260 = .ok (.goto 4, 3) := by decide +kernel
theorem dL_isMessage_263 : decode cL_isMessage 263 = .ok (.iconst 0, 1) := by decide +kernel
theorem dL_isMessage_264 : decode cL_isMessage 264 = .ok (.ireturn, 1) := by decide +kernel
theorem dL_isMessage_265 : decode cL_isMessage 265 = .ok (.iload 10, 2) := by decide +kernel
theorem dL_isMessage_267 : decode cL_isMessage 267 = .ok (.aload 7, 2) := by decide +kernel
theorem dL_isMessage_269 : decode cL_isMessage 269 = .ok (.iconst 2, 1) := by decide +kernel
theorem dL_isMessage_270 : decode cL_isMessage 270 = .ok (.iaload, 1) := by decide +kernel
theorem dL_isMessage_271 : decode cL_isMessage 271 = .ok (.iconst 1, 1) := by decide +kernel
theorem dL_isMessage_272 : decode cL_isMessage 272 = .ok (.iadd, 1) := by decide +kernel
theorem dL_isMessage_273 : decode cL_isMessage 273 = .ok (.irem, 1) := by decide +kernel
theorem dL_isMessage_274 : decode cL_isMessage 274 = .ok (.istore 13, 2) := by decide +kernel
theorem dL_isMessage_276 : decode cL_isMessage 276 = .ok (.iload 12, 2) := by decide +kernel
theorem dL_isMessage_278 : decode cL_isMessage 278 = .ok (.ifCond .eq 16, 3) := by decide +kernel
theorem dL_isMessage_281 : decode cL_isMessage 281 = .ok (.iload 13, 2) := by decide +kernel
theorem dL_isMessage_283 : decode cL_isMessage 283 = .ok (.aload 7, 2) := by decide +kernel
theorem dL_isMessage_285 : decode cL_isMessage 285 = .ok (.iconst 2, 1) := by decide +kernel
theorem dL_isMessage_286 : decode cL_isMessage 286 = .ok (.iaload, 1) := by decide +kernel
theorem dL_isMessage_287 : decode cL_isMessage 287 = .ok (.if_icmp .ge 7, 3) := by decide +kernel
theorem dL_isMessage_290 : decode cL_isMessage 290 = .ok (.iconst 1, 1) := by decide +kernel
theorem dL_isMessage_291 : decode cL_isMessage 291 = .ok (.goto 4, 3) := by decide +kernel
theorem dL_isMessage_294 : decode cL_isMessage 294 = .ok (.iconst 0, 1) := by decide +kernel
theorem dL_isMessage_295 : decode cL_isMessage 295 = .ok (.istore 14, 2) := by decide +kernel
theorem dL_isMessage_297 : decode cL_isMessage 297 = .ok (.iload 14, 2) := by decide +kernel
theorem dL_isMessage_299 : decode cL_isMessage 299 = .ok (.ifCond .eq 28, 3) := by decide +kernel
theorem dL_isMessage_302 : decode cL_isMessage 302 = .ok (.aload_n 1, 1) := by decide +kernel
theorem dL_isMessage_303 : decode cL_isMessage 303 = .ok (.aload 7, 2) := by decide +kernel
theorem dL_isMessage_305 : decode cL_isMessage 305 = .ok (.iload 11, 2) := by decide +kernel
theorem dL_isMessage_307 : decode cL_isMessage 307 = .ok (.invokestatic 79, 3) := by decide +kernel
theorem dL_isMessage_310 : decode cL_isMessage 310 = .ok (.ifCond .ne 17, 3) := by decide +kernel
theorem dL_isMessage_313 : decode cL_isMessage 313 = .ok (.aload_n 2, 1) := by decide +kernel
theorem dL_isMessage_314 : decode cL_isMessage 314 = .ok (.iload 13, 2) := by decide +kernel
theorem dL_isMessage_316 : decode cL_isMessage 316 = .ok (.iaload, 1) := by decide +kernel
theorem dL_isMessage_317 : decode cL_isMessage 317 = .ok (.sipush 8192, 3) := by decide +kernel
theorem dL_isMessage_320 : decode cL_isMessage 320 = .ok (.if_icmp .ge 7, 3) := by decide +kernel
theorem dL_isMessage_323 : decode cL_isMessage 323 = .ok (.iconst 1, 1) := by decide +kernel
theorem dL_isMessage_324 : decode cL_isMessage 324 = .ok (.goto 4, 3) := by decide +kernel
theorem dL_isMessage_327 : decode cL_isMessage 327 = .ok (.iconst 0, 1) := by decide +kernel
theorem dL_isMessage_328 : decode cL_isMessage 328 = .ok (.istore 15, 2) := by decide +kernel
theorem dL_isMessage_330 : decode cL_isMessage 330 = .ok (.iload 8, 2) := by decide +kernel
theorem dL_isMessage_332 : decode cL_isMessage 332 = .ok (.iconst 3, 1) := by decide +kernel
theorem dL_isMessage_333 : decode cL_isMessage 333 = .ok (.if_icmp .ge 191, 3) := by decide +kernel
theorem dL_isMessage_336 : decode cL_isMessage 336 = .ok (.iload 15, 2) := by decide +kernel
theorem dL_isMessage_338 : decode cL_isMessage 338 = .ok (.ifCond .eq 19, 3) := by decide +kernel
theorem dL_isMessage_341 : decode cL_isMessage 341 = .ok (.aload_n 2, 1) := by decide +kernel
theorem dL_isMessage_342 : decode cL_isMessage 342 = .ok (.iload 13, 2) := by decide +kernel
theorem dL_isMessage_344 : decode cL_isMessage 344 = .ok (.iaload, 1) := by decide +kernel
theorem dL_isMessage_345 : decode cL_isMessage 345 = .ok (.bipush 16, 2) := by decide +kernel
theorem dL_isMessage_347 : decode cL_isMessage 347 = .ok (.irem, 1) := by decide +kernel
theorem dL_isMessage_348 : decode cL_isMessage 348 = .ok (.iload 11, 2) := by decide +kernel
theorem dL_isMessage_350 : decode cL_isMessage 350 = .ok (.if_icmp .ne 7, 3) := by decide +kernel
theorem dL_isMessage_353 : decode cL_isMessage 353 = .ok (.iconst 1, 1) := by decide +kernel
theorem dL_isMessage_354 : decode cL_isMessage 354 = .ok (.goto 4, 3) := by decide +kernel
theorem dL_isMessage_357 : decode cL_isMessage 357 = .ok (.iconst 0, 1) := by decide +kernel
theorem dL_isMessage_358 : decode cL_isMessage 358 = .ok (.istore 15, 2) := by decide +kernel
theorem dL_isMessage_360 : decode cL_isMessage 360 = .ok (.iload 15, 2) := by decide +kernel
theorem dL_isMessage_362 : decode cL_isMessage 362 = .ok (.ifCond .eq 118, 3) := by decide +kernel
theorem dL_isMessage_365 : decode cL_isMessage 365 = .ok (.aload_n 3, 1) := by decide +kernel
theorem dL_isMessage_366 : decode cL_isMessage 366 = .ok (.iload 13, 2) := by decide +kernel
theorem dL_isMessage_368 : decode cL_isMessage 368 = .ok (.dup2, 1) := by decide +kernel
theorem dL_isMessage_369 : decode cL_isMessage 369 = .ok (.iaload, 1) := by decide +kernel
theorem dL_isMessage_370 : decode cL_isMessage 370 = .ok (.iconst 1, 1) := by decide +kernel
theorem dL_isMessage_371 : decode cL_isMessage 371 = .ok (.iadd, 1) := by decide +kernel
theorem dL_isMessage_372 : decode cL_isMessage 372 = .ok (.iastore, 1) := by decide +kernel
theorem dL_isMessage_373 : decode cL_isMessage 373 = .ok (.iconst 0, 1) := by decide +kernel
theorem dL_isMessage_374 : decode cL_isMessage 374 = .ok (.istore 16, 2) := by decide +kernel
theorem dL_isMessage_376 : decode cL_isMessage 376 = .ok (.iload 16, 2) := by decide +kernel
theorem dL_isMessage_378 : decode cL_isMessage 378 = .ok (.aload 7, 2) := by decide +kernel
theorem dL_isMessage_380 : decode cL_isMessage 380 = .ok (.iconst 1, 1) := by decide +kernel
theorem dL_isMessage_381 : decode cL_isMessage 381 = .ok (.iaload, 1) := by decide +kernel
theorem dL_isMessage_382 : decode cL_isMessage 382 = .ok (.if_icmp .ge 42, 3) := by decide +kernel
theorem dL_isMessage_385 : decode cL_isMessage 385 = .ok (.aload 5, 2) := by decide +kernel
theorem dL_isMessage_387 : decode cL_isMessage 387 = .ok (.iload 13, 2) := by decide +kernel
theorem dL_isMessage_389 : decode cL_isMessage 389 = .ok (.dup2, 1) := by decide +kernel
theorem dL_isMessage_390 : decode cL_isMessage 390 = .ok (.iaload, 1) := by decide +kernel
theorem dL_isMessage_391 : decode cL_isMessage 391 = .ok (.aload 5, 2) := by decide +kernel
theorem dL_isMessage_393 : decode cL_isMessage 393 = .ok (.iload 13, 2) := by decide +kernel
theorem dL_isMessage_395 : decode cL_isMessage 395 = .ok (.iaload, 1) := by decide +kernel
theorem dL_isMessage_396 : decode cL_isMessage 396 = .ok (.iconst 3, 1) := by decide +kernel
theorem dL_isMessage_397 : decode cL_isMessage 397 = .ok (.iload 16, 2) := by decide +kernel
theorem dL_isMessage_399 : decode cL_isMessage 399 = .ok (.imul, 1) := by decide +kernel
theorem dL_isMessage_400 : decode cL_isMessage 400 = .ok (.ishr, 1) := by decide +kernel
theorem dL_isMessage_401 : decode cL_isMessage 401 = .ok (.iconst 3, 1) := by decide +kernel
theorem dL_isMessage_402 : decode cL_isMessage 402 = .ok (.iand, 1) := by decide +kernel
theorem dL_isMessage_403 : decode cL_isMessage 403 = .ok (.ifCond .le 12, 3) := by decide +kernel
theorem dL_isMessage_406 : decode cL_isMessage 406 = .ok (.iconst 4, 1) := by decide +kernel
theorem dL_isMessage_407 : decode cL_isMessage 407 = .ok (.iconst 3, 1) := by decide +kernel
theorem dL_isMessage_408 : decode cL_isMessage 408 = .ok (.iload 16, 2) := by decide +kernel
theorem dL_isMessage_410 : decode cL_isMessage 410 = .ok (.imul, 1) := by decide +kernel
theorem dL_isMessage_411 : decode cL_isMessage 411 = .ok (.ishl, 1) := by decide +kernel
theorem dL_isMessage_412 : decode cL_isMessage 412 = .ok (.goto 4, 3) := by decide +kernel
theorem dL_isMessage_415 : decode cL_isMessage 415 = .ok (.iconst 0, 1) := by decide +kernel
theorem dL_isMessage_416 : decode cL_isMessage 416 = .ok (.ior, 1) := by decide +kernel
theorem dL_isMessage_417 : decode cL_isMessage 417 = .ok (.iastore, 1) := by decide +kernel
theorem dL_isMessage_418 : decode cL_isMessage 418 = .ok (.iinc 16 1, 3) := by decide +kernel
theorem dL_isMessage_421 : decode cL_isMessage 421 = .ok (.goto (-45), 3) := by decide +kernel
theorem dL_isMessage_424 : decode cL_isMessage 424 = .ok (.iconst 0, 1) := by decide +kernel
theorem dL_isMessage_425 : decode cL_isMessage 425 = .ok (.istore 16, 2) := by decide +kernel
theorem dL_isMessage_427 : decode cL_isMessage 427 = .ok (.iload 16, 2) := by decide +kernel
theorem dL_isMessage_429 : decode cL_isMessage 429 = .ok (.aload 7, 2) := by decide +kernel
theorem dL_isMessage_431 : decode cL_isMessage 431 = .ok (.iconst 4, 1) := by decide +kernel
theorem dL_isMessage_432 : decode cL_isMessage 432 = .ok (.iaload, 1) := by decide +kernel
theorem dL_isMessage_433 : decode cL_isMessage 433 = .ok (.if_icmp .ge 47, 3) := by decide +kernel
theorem dL_isMessage_436 : decode cL_isMessage 436 = .ok (.aload 6, 2) := by decide +kernel
theorem dL_isMessage_438 : decode cL_isMessage 438 = .ok (.iload 16, 2) := by decide +kernel
theorem dL_isMessage_440 : decode cL_isMessage 440 = .ok (.dup2, 1) := by decide +kernel
theorem dL_isMessage_441 : decode cL_isMessage 441 = .ok (.iaload, 1) := by decide +kernel
theorem dL_isMessage_442 : decode cL_isMessage 442 = .ok (.aload 6, 2) := by decide +kernel
theorem dL_isMessage_444 : decode cL_isMessage 444 = .ok (.iload 16, 2) := by decide +kernel
theorem dL_isMessage_446 : decode cL_isMessage 446 = .ok (.iaload, 1) := by decide +kernel
theorem dL_isMessage_447 : decode cL_isMessage 447 = .ok (.bipush 64, 2) := by decide +kernel
theorem dL_isMessage_449 : decode cL_isMessage 449 = .ok (.irem, 1) := by decide +kernel
theorem dL_isMessage_450 : decode cL_isMessage 450 = .ok (.iload 13, 2) := by decide +kernel
theorem dL_isMessage_452 : decode cL_isMessage 452 = .ok (.if_icmp .ne 19, 3) := by decide +kernel
theorem dL_isMessage_455 : decode cL_isMessage 455 = .ok (.aload 6, 2) := by decide +kernel
theorem dL_isMessage_457 : decode cL_isMessage 457 = .ok (.iload 16, 2) := by decide +kernel
theorem dL_isMessage_459 : decode cL_isMessage 459 = .ok (.iaload, 1) := by decide +kernel
theorem dL_isMessage_460 : decode cL_isMessage 460 = .ok (.ldc 101, 2) := by decide +kernel
theorem dL_isMessage_462 : decode cL_isMessage 462 = .ok (.idiv, 1) := by decide +kernel
theorem dL_isMessage_463 : decode cL_isMessage 463 = .ok (.ifCond .ne 8, 3) := by decide +kernel
theorem dL_isMessage_466 : decode cL_isMessage 466 = .ok (.ldc 110, 2) := by decide +kernel
theorem dL_isMessage_468 : decode cL_isMessage 468 = .ok (.goto 4, 3) := by decide +kernel
theorem dL_isMessage_471 : decode cL_isMessage 471 = .ok (.iconst 0, 1) := by decide +kernel
theorem dL_isMessage_472 : decode cL_isMessage 472 = .ok (.iadd, 1) := by decide +kernel
theorem dL_isMessage_473 : decode cL_isMessage 473 = .ok (.iastore, 1) := by decide +kernel
theorem dL_isMessage_474 : decode cL_isMessage 474 = .ok (.iinc 16 1, 3) := by decide +kernel
theorem dL_isMessage_477 : decode cL_isMessage 477 = .ok (.goto (-50), 3) := by decide +kernel
theorem dL_isMessage_480 : decode cL_isMessage 480 = .ok (.aload_n 0, 1) := by decide +kernel
theorem dL_isMessage_481 : decode cL_isMessage 481 = .ok (.iconst 5, 1) := by decide +kernel
theorem dL_isMessage_482 : decode cL_isMessage 482 = .ok (.iload 11, 2) := by decide +kernel
theorem dL_isMessage_484 : decode cL_isMessage 484 = .ok (.iload 13, 2) := by decide +kernel
theorem dL_isMessage_486 : decode cL_isMessage 486 = .ok (.iconst 0, 1) := by decide +kernel
theorem dL_isMessage_487 : decode cL_isMessage 487 = .ok (.iconst 0, 1) := by decide +kernel
theorem dL_isMessage_488 : decode cL_isMessage 488 = .ok (.invokestatic 106, 3) := by decide +kernel
theorem dL_isMessage_491 : decode cL_isMessage 491 = .ok (.iload 14, 2) := by decide +kernel
theorem dL_isMessage_493 : decode cL_isMessage 493 = .ok (.ifCond .ne 8, 3) := by decide +kernel
theorem dL_isMessage_496 : decode cL_isMessage 496 = .ok (.ldc 72, 2) := by decide +kernel
theorem dL_isMessage_498 : decode cL_isMessage 498 = .ok (.goto 17, 3) := by decide +kernel
theorem dL_isMessage_501 : decode cL_isMessage 501 = .ok (.iload 15, 2) := by decide +kernel
theorem dL_isMessage_503 : decode cL_isMessage 503 = .ok (.ifCond .eq 10, 3) := by decide +kernel
theorem dL_isMessage_506 : decode cL_isMessage 506 = .ok (.aload_n 3, 1) := by decide +kernel
theorem dL_isMessage_507 : decode cL_isMessage 507 = .ok (.iload 13, 2) := by decide +kernel
theorem dL_isMessage_509 : decode cL_isMessage 509 = .ok (.iaload, 1) := by decide +kernel
theorem dL_isMessage_510 : decode cL_isMessage 510 = .ok (.goto 5, 3) := by decide +kernel
theorem dL_isMessage_513 : decode cL_isMessage 513 = .ok (.ldc 78, 2) := by decide +kernel
theorem dL_isMessage_515 : decode cL_isMessage 515 = .ok (.if_icmp .ne 7, 3) := by decide +kernel
theorem dL_isMessage_518 : decode cL_isMessage 518 = .ok (.iconst 1, 1) := by decide +kernel
theorem dL_isMessage_519 : decode cL_isMessage 519 = .ok (.goto 4, 3) := by decide +kernel
theorem dL_isMessage_522 : decode cL_isMessage 522 = .ok (.iconst 0, 1) := by decide +kernel
theorem dL_isMessage_523 : decode cL_isMessage 523 = .ok (.ireturn, 1) := by decide +kernel
theorem dL_isMessage_524 : decode cL_isMessage 524 = .ok (.iload 9, 2) := by decide +kernel
theorem dL_isMessage_526 : decode cL_isMessage 526 = .ok (.bipush 13, 2) := by decide +kernel
theorem dL_isMessage_528 : decode cL_isMessage 528 = .ok (.idiv, 1) := by decide +kernel
theorem dL_isMessage_529 : decode cL_isMessage 529 = .ok (.bipush 8, 2) := by decide +kernel
theorem dL_isMessage_531 : decode cL_isMessage 531 = .ok (.irem, 1) := by decide +kernel
theorem dL_isMessage_532 : decode cL_isMessage 532 = .ok (.iconst 5, 1) := by decide +kernel
theorem dL_isMessage_533 : decode cL_isMessage 533 = .ok (.if_icmp .ge 7, 3) := by decide +kernel
theorem dL_isMessage_536 : decode cL_isMessage 536 = .ok (.iconst 0, 1) := by decide +kernel
theorem dL_isMessage_537 : decode cL_isMessage 537 = .ok (.goto 14, 3) := by decide +kernel
theorem dL_isMessage_540 : decode cL_isMessage 540 = .ok (.iload 9, 2) := by decide +kernel
theorem dL_isMessage_542 : decode cL_isMessage 542 = .ok (.bipush 13, 2) := by decide +kernel
theorem dL_isMessage_544 : decode cL_isMessage 544 = .ok (.idiv, 1) := by decide +kernel
theorem dL_isMessage_545 : decode cL_isMessage 545 = .ok (.bipush 8, 2) := by decide +kernel
theorem dL_isMessage_547 : decode cL_isMessage 547 = .ok (.irem, 1) := by decide +kernel
theorem dL_isMessage_548 : decode cL_isMessage 548 = .ok (.bipush 6, 2) := by decide +kernel
theorem dL_isMessage_550 : decode cL_isMessage 550 = .ok (.isub, 1) := by decide +kernel
theorem dL_isMessage_551 : decode cL_isMessage 551 = .ok (.istore 16, 2) := by decide +kernel
theorem dL_isMessage_553 : decode cL_isMessage 553 = .ok (.iload 16, 2) := by decide +kernel
theorem dL_isMessage_555 : decode cL_isMessage 555 = .ok (.iconst 1, 1) := by decide +kernel
theorem dL_isMessage_556 : decode cL_isMessage 556 = .ok (.if_icmp .ne 17, 3) := by decide +kernel
theorem dL_isMessage_559 : decode cL_isMessage 559 = .ok (.iload 9, 2) := by decide +kernel
theorem dL_isMessage_561 : decode cL_isMessage 561 = .ok (.bipush 104, 2) := by decide +kernel
theorem dL_isMessage_563 : decode cL_isMessage 563 = .ok (.idiv, 1) := by decide +kernel
theorem dL_isMessage_564 : decode cL_isMessage 564 = .ok (.iconst 3, 1) := by decide +kernel
theorem dL_isMessage_565 : decode cL_isMessage 565 = .ok (.irem, 1) := by decide +kernel
theorem dL_isMessage_566 : decode cL_isMessage 566 = .ok (.ifCond .ne 7, 3) := by decide +kernel
theorem dL_isMessage_569 : decode cL_isMessage 569 = .ok (.iconst 2, 1) := by decide +kernel
theorem dL_isMessage_570 : decode cL_isMessage 570 = .ok (.goto 5, 3) := by decide +kernel
theorem dL_isMessage_573 : decode cL_isMessage 573 = .ok (.iload 16, 2) := by decide +kernel
theorem dL_isMessage_575 : decode cL_isMessage 575 = .ok (.istore 16, 2) := by decide +kernel
theorem dL_isMessage_577 : decode cL_isMessage 577 = .ok (.iload 14, 2) := by decide +kernel
theorem dL_isMessage_579 : decode cL_isMessage 579 = .ok (.ifCond .eq 19, 3) := by decide +kernel
theorem dL_isMessage_582 : decode cL_isMessage 582 = .ok (.aload 5, 2) := by decide +kernel
theorem dL_isMessage_584 : decode cL_isMessage 584 = .ok (.iload 13, 2) := by decide +kernel
theorem dL_isMessage_586 : decode cL_isMessage 586 = .ok (.iaload, 1) := by decide +kernel
theorem dL_isMessage_587 : decode cL_isMessage 587 = .ok (.iconst 3, 1) := by decide +kernel
theorem dL_isMessage_588 : decode cL_isMessage 588 = .ok (.iload 11, 2) := by decide +kernel
theorem dL_isMessage_590 : decode cL_isMessage 590 = .ok (.imul, 1) := by decide +kernel
theorem dL_isMessage_591 : decode cL_isMessage 591 = .ok (.ishr, 1) := by decide +kernel
theorem dL_isMessage_592 : decode cL_isMessage 592 = .ok (.bipush 7, 2) := by decide +kernel
theorem dL_isMessage_594 : decode cL_isMessage 594 = .ok (.iand, 1) := by decide +kernel
theorem dL_isMessage_595 : decode cL_isMessage 595 = .ok (.goto 4, 3) := by decide +kernel
theorem dL_isMessage_598 : decode cL_isMessage 598 = .ok (.iconst 0, 1) := by decide +kernel
theorem dL_isMessage_599 : decode cL_isMessage 599 = .ok (.istore 17, 2) := by decide +kernel
theorem dL_isMessage_601 : decode cL_isMessage 601 = .ok (.iload 16, 2) := by decide +kernel
theorem dL_isMessage_603 : decode cL_isMessage 603 = .ok (.iconst 2, 1) := by decide +kernel
theorem dL_isMessage_604 : decode cL_isMessage 604 = .ok (.if_icmp .ge 7, 3) := by decide +kernel
theorem dL_isMessage_607 : decode cL_isMessage 607 = .ok (.iconst 1, 1) := by decide +kernel
theorem dL_isMessage_608 : decode cL_isMessage 608 = .ok (.goto 4, 3) := by decide +kernel
theorem dL_isMessage_611 : decode cL_isMessage 611 = .ok (.iconst 0, 1) := by decide +kernel
theorem dL_isMessage_612 : decode cL_isMessage 612 = .ok (.istore 18, 2) := by decide +kernel
theorem dL_isMessage_614 : decode cL_isMessage 614 = .ok (.iload 15, 2) := by decide +kernel
theorem dL_isMessage_616 : decode cL_isMessage 616 = .ok (.ifCond .eq 29, 3) := by decide +kernel
theorem dL_isMessage_619 : decode cL_isMessage 619 = .ok (.iload 18, 2) := by decide +kernel
theorem dL_isMessage_621 : decode cL_isMessage 621 = .ok (.ifCond .eq 24, 3) := by decide +kernel
theorem dL_isMessage_624 : decode cL_isMessage 624 = .ok (.iload 16, 2) := by decide +kernel
theorem dL_isMessage_626 : decode cL_isMessage 626 = .ok (.ifCond .ge 15, 3) := by decide +kernel
theorem dL_isMessage_629 : decode cL_isMessage 629 = .ok (.iload 17, 2) := by decide +kernel
theorem dL_isMessage_631 : decode cL_isMessage 631 = .ok (.iconst 1, 1) := by decide +kernel
theorem dL_isMessage_632 : decode cL_isMessage 632 = .ok (.if_icmp .eq 9, 3) := by decide +kernel
theorem dL_isMessage_635 : decode cL_isMessage 635 = .ok (.iload 17, 2) := by decide +kernel
theorem dL_isMessage_637 : decode cL_isMessage 637 = .ok (.iconst 2, 1) := by decide +kernel
theorem dL_isMessage_638 : decode cL_isMessage 638 = .ok (.if_icmp .ne 7, 3) := by decide +kernel
theorem dL_isMessage_641 : decode cL_isMessage 641 = .ok (.iconst 1, 1) := by decide +kernel
theorem dL_isMessage_642 : decode cL_isMessage 642 = .ok (.goto 4, 3) := by decide +kernel
theorem dL_isMessage_645 : decode cL_isMessage 645 = .ok (.iconst 0, 1) := by decide +kernel
theorem dL_isMessage_646 : decode cL_isMessage 646 = .ok (.istore 15, 2) := by decide +kernel
theorem dL_isMessage_648 : decode cL_isMessage 648 = .ok (.iload 15, 2) := by decide +kernel
theorem dL_isMessage_650 : decode cL_isMessage 650 = .ok (.ifCond .eq 23, 3) := by decide +kernel
theorem dL_isMessage_653 : decode cL_isMessage 653 = .ok (.aload 5, 2) := by decide +kernel
theorem dL_isMessage_655 : decode cL_isMessage 655 = .ok (.iload 13, 2) := by decide +kernel
theorem dL_isMessage_657 : decode cL_isMessage 657 = .ok (.dup2, 1) := by decide +kernel
theorem dL_isMessage_658 : decode cL_isMessage 658 = .ok (.iaload, 1) := by decide +kernel
theorem dL_isMessage_659 : decode cL_isMessage 659 = .ok (.iload 16, 2) := by decide +kernel
theorem dL_isMessage_661 : decode cL_isMessage 661 = .ok (.iconst 1, 1) := by decide +kernel
theorem dL_isMessage_662 : decode cL_isMessage 662 = .ok (.iadd, 1) := by decide +kernel
theorem dL_isMessage_663 : decode cL_isMessage 663 = .ok (.iload 17, 2) := by decide +kernel
theorem dL_isMessage_665 : decode cL_isMessage 665 = .ok (.isub, 1) := by decide +kernel
theorem dL_isMessage_666 : decode cL_isMessage 666 = .ok (.iconst 3, 1) := by decide +kernel
theorem dL_isMessage_667 : decode cL_isMessage 667 = .ok (.iload 11, 2) := by decide +kernel
theorem dL_isMessage_669 : decode cL_isMessage 669 = .ok (.imul, 1) := by decide +kernel
theorem dL_isMessage_670 : decode cL_isMessage 670 = .ok (.ishl, 1) := by decide +kernel
theorem dL_isMessage_671 : decode cL_isMessage 671 = .ok (.iadd, 1) := by decide +kernel
theorem dL_isMessage_672 : decode cL_isMessage 672 = .ok (.iastore, 1) := by decide +kernel
theorem dL_isMessage_673 : decode cL_isMessage 673 = .ok (.aload_n 0, 1) := by decide +kernel
theorem dL_isMessage_674 : decode cL_isMessage 674 = .ok (.bipush 6, 2) := by decide +kernel
theorem dL_isMessage_676 : decode cL_isMessage 676 = .ok (.iload 11, 2) := by decide +kernel
theorem dL_isMessage_678 : decode cL_isMessage 678 = .ok (.iload 13, 2) := by decide +kernel
theorem dL_isMessage_680 : decode cL_isMessage 680 = .ok (.iload 16, 2) := by decide +kernel
theorem dL_isMessage_682 : decode cL_isMessage 682 = .ok (.iconst 0, 1) := by decide +kernel
theorem dL_isMessage_683 : decode cL_isMessage 683 = .ok (.invokestatic 106, 3) := by decide +kernel
theorem dL_isMessage_686 : decode cL_isMessage 686 = .ok (.iload 14, 2) := by decide +kernel
theorem dL_isMessage_688 : decode cL_isMessage 688 = .ok (.ifCond .ne 8, 3) := by decide +kernel
theorem dL_isMessage_691 : decode cL_isMessage 691 = .ok (.ldc 72, 2) := by decide +kernel
theorem dL_isMessage_693 : decode cL_isMessage 693 = .ok (.goto 34, 3) := by decide +kernel
theorem dL_isMessage_696 : decode cL_isMessage 696 = .ok (.iload 18, 2) := by decide +kernel
theorem dL_isMessage_698 : decode cL_isMessage 698 = .ok (.ifCond .ne 8, 3) := by decide +kernel
theorem dL_isMessage_701 : decode cL_isMessage 701 = .ok (.ldc 75, 2) := by decide +kernel
theorem dL_isMessage_703 : decode cL_isMessage 703 = .ok (.goto 24, 3) := by decide +kernel
theorem dL_isMessage_706 : decode cL_isMessage 706 = .ok (.iload 15, 2) := by decide +kernel
theorem dL_isMessage_708 : decode cL_isMessage 708 = .ok (.ifCond .eq 17, 3) := by decide +kernel
theorem dL_isMessage_711 : decode cL_isMessage 711 = .ok (.aload_n 1, 1) := by decide +kernel
theorem dL_isMessage_712 : decode cL_isMessage 712 = .ok (.aload 5, 2) := by decide +kernel
theorem dL_isMessage_714 : decode cL_isMessage 714 = .ok (.aload 7, 2) := by decide +kernel
theorem dL_isMessage_716 : decode cL_isMessage 716 = .ok (.iload 13, 2) := by decide +kernel
theorem dL_isMessage_718 : decode cL_isMessage 718 = .ok (.iconst (-1), 1) := by decide +kernel
theorem dL_isMessage_719 : decode cL_isMessage 719 = .ok (.invokestatic 85, 3) := by decide +kernel
theorem dL_isMessage_722 : decode cL_isMessage 722 = .ok (.goto 5, 3) := by decide +kernel
theorem dL_isMessage_725 : decode cL_isMessage 725 = .ok (.ldc 78, 2) := by decide +kernel
theorem dL_isMessage_727 : decode cL_isMessage 727 = .ok (.if_icmp .ne 7, 3) := by decide +kernel
theorem dL_isMessage_730 : decode cL_isMessage 730 = .ok (.iconst 1, 1) := by decide +kernel
theorem dL_isMessage_731 : decode cL_isMessage 731 = .ok (.goto 4, 3) := by decide +kernel
theorem dL_isMessage_734 : decode cL_isMessage 734 = .ok (.iconst 0, 1) := by decide +kernel
theorem dL_isMessage_735 : decode cL_isMessage 735 = .ok (.ireturn, 1) := by decide +kernel
set_option maxHeartbeats 4000000 in
set_option maxRecDepth 100000 in
theorem t_isMsg_e {p : Program} {l : Launch} {e : Env} {s : State} {m : MethodId} {below : List Frame} {meth : Method} {c : Code} {E : State} {G : kG} {S T : kSt} {o : Int64} {ad : kAd} {n9 x1 x2 uq : Nat} {w : Int32} (hw : w < 3) (hE : kE l E G) (hn9 : n9 ≤ 90) (hx1 : x1 < 60000) (hx2 : x2 < 60000) (hI : Iv n9 S T) (huq : uq ≤ S.2 0 0) (Z : kZ p m c cL_isMessage 19 s ([.ref (ad 0 0), .ref (ad 17 0), .ref (ad 17 1), .ref (ad 17 2), .ref (ad 17 3), .ref (ad 17 4), .ref (ad 17 8), .ref (ad 17 10), .int w, .int (nI x1), .int (nI x2)] : List Value).toArray wsL_law RL E G) (hr : meth.sig.returnType = some .boolean) (hlocks : meth.locks = false) : ∀ (H : Heap) (locs : List Loc) (ls : Array Slot), kX E G s H locs ad (cto G S T o ad) → lv_has ls 19 [(0, .ref (ad 0 0)), (1, .ref (ad 17 0)), (2, .ref (ad 17 1)), (3, .ref (ad 17 2)), (4, .ref (ad 17 3)), (5, .ref (ad 17 4)), (6, .ref (ad 17 8)), (7, .ref (ad 17 10)), (8, .int w), (9, .int (nI x1)), (10, .int (nI x2)), (11, .int (nI uq)), (12, .int (bI (decide (uq < S.2 0 0))))] → W p l e (headSpec (Cond.code yL_isMessage cL_isMessage 19 (some .boolean) :: wsL_law) ({ frames := 18, cells := 20, slots := 400, locals := 500 } : Room)).room s m ([.ref (ad 0 0), .ref (ad 17 0), .ref (ad 17 1), .ref (ad 17 2), .ref (ad 17 3), .ref (ad 17 4), .ref (ad 17 8), .ref (ad 17 10), .int w, .int (nI x1), .int (nI x2)] : List Value).toArray below meth c H locs 0 0 (vx_MQ below (kQi E G (fun r ad1 ct1 => (r = 1 ∧ AK ad ad1) ∧ ∃ S1 A1, ct1 = cto G S1 A1 o ad1 ∧ Mid (n9 + 1) S1 A1)) (kXC E G (fun _ _ _ => False)) ([.ref (ad 0 0), .ref (ad 17 0), .ref (ad 17 1), .ref (ad 17 2), .ref (ad 17 3), .ref (ad 17 4), .ref (ad 17 8), .ref (ad 17 10), .int w, .int (nI x1), .int (nI x2)] : List Value).toArray s 20 400 (kB E.heap.size)) (F0 m 265 ls []) := by
  intro H locs ls X hl
  have hx := Z.1.1
  have hb := Z.1.2.1
  have hT := hI.lt
  obtain ⟨hS, hL, hK9, hLg, hRp, hlog9, hB⟩ := hI.1.ok
  have hN := hS
  have hlog : S.2 0 4 < 512 := by omega
  obtain ⟨hc0, hc1, hc2, hc3⟩ := hT.c
  obtain ⟨aq, eaq⟩ : ∃ y, y = x2 % (S.2 0 1 + 1) := ⟨_, rfl⟩
  have haq : aq ≤ S.2 0 1 := by rw [eaq]; exact Nat.le_of_lt_succ (Nat.mod_lt _ (by omega))
  refine lv_iload hx hb dL_isMessage_265 (lv_at hl 10 rfl) ?_
  refine lv_aload hx hb dL_isMessage_267 (lv_at hl 7 rfl) ?_
  refine lv_iconst (v := 2) hx hb dL_isMessage_269 (by decide) ?_
  refine k_ild (ad := ad) (k := 17) (i := 10) Z X ct_17_10 (vp_in_nI (n := 2) (by first | assumption | omega) (by decide)) dL_isMessage_270 ?_
  refine lv_topi (fun x_270 e_270 => ?_)
  obtain rfl : x_270 = T.1 11 2 := e_270.trans (by first | (simp only [nI_clamp (show 2 < 2 ^ 31 by omega)]; done) | rfl | (simp only [nI_clamp (show 2 < 2 ^ 31 by omega)]; rfl) | (simp only [nI_clamp (show 2 < 2 ^ 31 by omega)]; simp [sI, sN]; done))
  refine lv_topi (fun x_270 e_270 => ?_)
  obtain rfl : x_270 = nI (S.2 0 1) := e_270.trans (hT.g2)
  refine lv_iconst (v := 1) hx hb dL_isMessage_271 (by decide) ?_
  refine lv_iadd hx hb dL_isMessage_272 ?_
  refine lv_topi (fun x_272 e_272 => ?_)
  obtain rfl : x_272 = nI ((S.2 0 1) + 1) := e_272.trans (nI_add (S.2 0 1) 1)
  refine lv_irem hx hb dL_isMessage_273 (nI_ne0 (by omega) (by omega)) ?_
  refine lv_topi (fun x_273 e_273 => ?_)
  obtain rfl : x_273 = nI aq := e_273.trans ((pk_rem (a := x2) (d := ((S.2 0 1) + 1)) (by omega) (by omega) (by omega)).trans (congrArg nI eaq.symm))
  refine lv_istore (lv' := [(13, .int (nI aq)), (0, .ref (ad 0 0)), (1, .ref (ad 17 0)), (2, .ref (ad 17 1)), (3, .ref (ad 17 2)), (4, .ref (ad 17 3)), (5, .ref (ad 17 4)), (6, .ref (ad 17 8)), (7, .ref (ad 17 10)), (8, .int w), (9, .int (nI x1)), (10, .int (nI x2)), (11, .int (nI uq)), (12, .int (bI (decide (uq < S.2 0 0))))]) hx hb dL_isMessage_274 hl (by decide) rfl (fun ls hl => ?_)
  have M_295 : ∀ (H : Heap) (locs : List Loc), kX E G s H locs ad (cto G S T o ad) → W p l e (headSpec (Cond.code yL_isMessage cL_isMessage 19 (some .boolean) :: wsL_law) ({ frames := 18, cells := 20, slots := 400, locals := 500 } : Room)).room s m ([.ref (ad 0 0), .ref (ad 17 0), .ref (ad 17 1), .ref (ad 17 2), .ref (ad 17 3), .ref (ad 17 4), .ref (ad 17 8), .ref (ad 17 10), .int w, .int (nI x1), .int (nI x2)] : List Value).toArray below meth c H locs 0 0 (vx_MQ below (kQi E G (fun r ad1 ct1 => (r = 1 ∧ AK ad ad1) ∧ ∃ S1 A1, ct1 = cto G S1 A1 o ad1 ∧ Mid (n9 + 1) S1 A1)) (kXC E G (fun _ _ _ => False)) ([.ref (ad 0 0), .ref (ad 17 0), .ref (ad 17 1), .ref (ad 17 2), .ref (ad 17 3), .ref (ad 17 4), .ref (ad 17 8), .ref (ad 17 10), .int w, .int (nI x1), .int (nI x2)] : List Value).toArray s 20 400 (kB E.heap.size)) (F0 m 295 ls [.int (bI (arM S uq aq))]) := by
    intro H locs X
    refine lv_istore (lv' := [(14, .int (bI (arM S uq aq))), (13, .int (nI aq)), (0, .ref (ad 0 0)), (1, .ref (ad 17 0)), (2, .ref (ad 17 1)), (3, .ref (ad 17 2)), (4, .ref (ad 17 3)), (5, .ref (ad 17 4)), (6, .ref (ad 17 8)), (7, .ref (ad 17 10)), (8, .int w), (9, .int (nI x1)), (10, .int (nI x2)), (11, .int (nI uq)), (12, .int (bI (decide (uq < S.2 0 0))))]) hx hb dL_isMessage_295 hl (by decide) rfl (fun ls hl => ?_)
    have M_328 : ∀ (H : Heap) (locs : List Loc), kX E G s H locs ad (cto G S T o ad) → W p l e (headSpec (Cond.code yL_isMessage cL_isMessage 19 (some .boolean) :: wsL_law) ({ frames := 18, cells := 20, slots := 400, locals := 500 } : Room)).room s m ([.ref (ad 0 0), .ref (ad 17 0), .ref (ad 17 1), .ref (ad 17 2), .ref (ad 17 3), .ref (ad 17 4), .ref (ad 17 8), .ref (ad 17 10), .int w, .int (nI x1), .int (nI x2)] : List Value).toArray below meth c H locs 0 0 (vx_MQ below (kQi E G (fun r ad1 ct1 => (r = 1 ∧ AK ad ad1) ∧ ∃ S1 A1, ct1 = cto G S1 A1 o ad1 ∧ Mid (n9 + 1) S1 A1)) (kXC E G (fun _ _ _ => False)) ([.ref (ad 0 0), .ref (ad 17 0), .ref (ad 17 1), .ref (ad 17 2), .ref (ad 17 3), .ref (ad 17 4), .ref (ad 17 8), .ref (ad 17 10), .int w, .int (nI x1), .int (nI x2)] : List Value).toArray s 20 400 (kB E.heap.size)) (F0 m 328 ls [.int (bI (caM S uq aq))]) := by
      intro H locs X
      refine lv_istore (lv' := [(15, .int (bI (caM S uq aq))), (14, .int (bI (arM S uq aq))), (13, .int (nI aq)), (0, .ref (ad 0 0)), (1, .ref (ad 17 0)), (2, .ref (ad 17 1)), (3, .ref (ad 17 2)), (4, .ref (ad 17 3)), (5, .ref (ad 17 4)), (6, .ref (ad 17 8)), (7, .ref (ad 17 10)), (8, .int w), (9, .int (nI x1)), (10, .int (nI x2)), (11, .int (nI uq)), (12, .int (bI (decide (uq < S.2 0 0))))]) hx hb dL_isMessage_328 hl (by decide) rfl (fun ls hl => ?_)
      refine lv_iload hx hb dL_isMessage_330 (lv_at hl 11 rfl) ?_
      refine lv_iconst (v := 3) hx hb dL_isMessage_332 (by decide) ?_
      refine lv_icmp_ge (tgt := 524) hx hb dL_isMessage_333 (by decide) (fun c_333 => ?_) (fun c_333 => ?_)
      · exact absurd hw (Int32.not_lt.mpr c_333)
      · have M_358 : ∀ (H : Heap) (locs : List Loc), kX E G s H locs ad (cto G S T o ad) → W p l e (headSpec (Cond.code yL_isMessage cL_isMessage 19 (some .boolean) :: wsL_law) ({ frames := 18, cells := 20, slots := 400, locals := 500 } : Room)).room s m ([.ref (ad 0 0), .ref (ad 17 0), .ref (ad 17 1), .ref (ad 17 2), .ref (ad 17 3), .ref (ad 17 4), .ref (ad 17 8), .ref (ad 17 10), .int w, .int (nI x1), .int (nI x2)] : List Value).toArray below meth c H locs 0 0 (vx_MQ below (kQi E G (fun r ad1 ct1 => (r = 1 ∧ AK ad ad1) ∧ ∃ S1 A1, ct1 = cto G S1 A1 o ad1 ∧ Mid (n9 + 1) S1 A1)) (kXC E G (fun _ _ _ => False)) ([.ref (ad 0 0), .ref (ad 17 0), .ref (ad 17 1), .ref (ad 17 2), .ref (ad 17 3), .ref (ad 17 4), .ref (ad 17 8), .ref (ad 17 10), .int w, .int (nI x1), .int (nI x2)] : List Value).toArray s 20 400 (kB E.heap.size)) (F0 m 358 ls [.int (bI (caE S uq aq))]) := by
          intro H locs X
          refine lv_istore (lv' := [(15, .int (bI (caE S uq aq))), (14, .int (bI (arM S uq aq))), (13, .int (nI aq)), (0, .ref (ad 0 0)), (1, .ref (ad 17 0)), (2, .ref (ad 17 1)), (3, .ref (ad 17 2)), (4, .ref (ad 17 3)), (5, .ref (ad 17 4)), (6, .ref (ad 17 8)), (7, .ref (ad 17 10)), (8, .int w), (9, .int (nI x1)), (10, .int (nI x2)), (11, .int (nI uq)), (12, .int (bI (decide (uq < S.2 0 0))))]) hx hb dL_isMessage_358 hl (by decide) rfl (fun ls hl => ?_)
          refine lv_iload hx hb dL_isMessage_360 (lv_at hl 0 rfl) ?_
          refine lv_if_eq (tgt := 480) hx hb dL_isMessage_362 (by decide) (fun c_362 => ?_) (fun c_362 => ?_)
          · have c_362 : (caE S uq aq) = false := bI_0 c_362
            rw [c_362] at hl
            cases har : arM S uq aq with
            | false =>
              rw [har] at hl
              refine lv_aload_n hx hb dL_isMessage_480 rfl (lv_at hl 3 rfl) ?_
              refine lv_iconst (v := 5) hx hb dL_isMessage_481 (by decide) ?_
              refine lv_iload hx hb dL_isMessage_482 (lv_at hl 14 rfl) ?_
              refine lv_iload hx hb dL_isMessage_484 (lv_at hl 2 rfl) ?_
              refine lv_iconst (v := 0) hx hb dL_isMessage_486 (by decide) ?_
              refine lv_iconst (v := 0) hx hb dL_isMessage_487 (by decide) ?_
              refine k_xRi X (k_xrunSW (As := [.ref (ad 0 0), .int 5, .int (nI uq), .int (nI aq), .int 0, .int 0]) (rest := []) Z X (c_L_does_5 l E G S T o ad (nI uq) (nI aq) 0 0 hE hS hL hK9 hlog) (k_cwSW 6 Z.1.2.2.2.2 (inU_6 _ (List.mem_of_getElem? (i := 3) rfl)) (inU_6 _ (List.mem_of_getElem? (i := 4) rfl)) (inU_6 _ (List.mem_of_getElem? (i := 5) rfl)) (inU_6 _ (List.mem_of_getElem? (i := 6) rfl)) rfl rfl (by decide +kernel) ⟨(Nat.le_of_ble_eq_true rfl), (Nat.le_of_ble_eq_true rfl)⟩) rfl hl.1 rfl (Nat.le_of_ble_eq_true rfl) dL_isMessage_488 ⟨(Nat.le_of_ble_eq_true rfl), (Nat.le_of_ble_eq_true rfl)⟩) (fun _ _ _ _ _ _ _ hp => hp.elim) (fun r_488 ad1 ct1 H locs hp X => ?_)
              have hC : cEdit S (nI uq) (nI aq) = 1 := by rw [cEdit_v (by omega) (by omega), har]; rfl
              obtain ⟨ha_, hq⟩ := hp
              rcases hq with ⟨z, -⟩ | ⟨z, hr_, hb_⟩ | ⟨z, -⟩ | ⟨z, -⟩
              case inl => exact absurd (hC.symm.trans z) (by decide)
              case inr.inr.inl => exact absurd (hC.symm.trans z) (by decide)
              case inr.inr.inr => exact absurd (hC.symm.trans z) (by decide)
              subst hr_
              rw [hb_, ← ha_] at X
              refine lv_iload hx hb dL_isMessage_491 (lv_at hl 1 rfl) ?_
              refine lv_if_ne (tgt := 501) hx hb dL_isMessage_493 (by decide) (fun c_493 => ?_) (fun c_493 => ?_)
              · exact absurd c_493 (by decide)
              · refine lv_ldc (v := (-3000000)) hx hb Z.1.2.2.2.1 (Z.1.2.2.2.2 _ (inU_1 _ (List.mem_of_getElem? (i := 5) rfl))) dL_isMessage_496 ?_
                refine lv_goto (tgt := 515) hx hb dL_isMessage_498 (by decide) ?_
                refine lv_icmp_ne (tgt := 522) hx hb dL_isMessage_515 (by decide) (fun c_515 => ?_) (fun c_515 => ?_)
                · exact absurd rfl c_515
                · refine lv_iconst (v := 1) hx hb dL_isMessage_518 (by decide) ?_
                  refine lv_goto (tgt := 523) hx hb dL_isMessage_519 (by decide) ?_
                  exact vx_ret (k_iret Z X hr hlocks rfl (by omega) (by omega) dL_isMessage_523 ⟨⟨rfl, AK.rf⟩, S, T, rfl, hI.mid (by omega)⟩)
            | true =>
              rw [har] at hl
              refine lv_aload_n hx hb dL_isMessage_480 rfl (lv_at hl 3 rfl) ?_
              refine lv_iconst (v := 5) hx hb dL_isMessage_481 (by decide) ?_
              refine lv_iload hx hb dL_isMessage_482 (lv_at hl 14 rfl) ?_
              refine lv_iload hx hb dL_isMessage_484 (lv_at hl 2 rfl) ?_
              refine lv_iconst (v := 0) hx hb dL_isMessage_486 (by decide) ?_
              refine lv_iconst (v := 0) hx hb dL_isMessage_487 (by decide) ?_
              refine k_xRi X (k_xrunSW (As := [.ref (ad 0 0), .int 5, .int (nI uq), .int (nI aq), .int 0, .int 0]) (rest := []) Z X (c_L_does_5 l E G S T o ad (nI uq) (nI aq) 0 0 hE hS hL hK9 hlog) (k_cwSW 6 Z.1.2.2.2.2 (inU_6 _ (List.mem_of_getElem? (i := 3) rfl)) (inU_6 _ (List.mem_of_getElem? (i := 4) rfl)) (inU_6 _ (List.mem_of_getElem? (i := 5) rfl)) (inU_6 _ (List.mem_of_getElem? (i := 6) rfl)) rfl rfl (by decide +kernel) ⟨(Nat.le_of_ble_eq_true rfl), (Nat.le_of_ble_eq_true rfl)⟩) rfl hl.1 rfl (Nat.le_of_ble_eq_true rfl) dL_isMessage_488 ⟨(Nat.le_of_ble_eq_true rfl), (Nat.le_of_ble_eq_true rfl)⟩) (fun _ _ _ _ _ _ _ hp => hp.elim) (fun r_488 ad1 ct1 H locs hp X => ?_)
              have hC : cEdit S (nI uq) (nI aq) = 2 := by rw [cEdit_v (by omega) (by omega), har, c_362]; rfl
              obtain ⟨ha_, hq⟩ := hp
              rcases hq with ⟨z, -⟩ | ⟨z, -⟩ | ⟨z, hr_, hb_⟩ | ⟨z, -⟩
              case inl => exact absurd (hC.symm.trans z) (by decide)
              case inr.inl => exact absurd (hC.symm.trans z) (by decide)
              case inr.inr.inr => exact absurd (hC.symm.trans z) (by decide)
              subst hr_
              rw [hb_, ← ha_] at X
              refine lv_iload hx hb dL_isMessage_491 (lv_at hl 1 rfl) ?_
              refine lv_if_ne (tgt := 501) hx hb dL_isMessage_493 (by decide) (fun c_493 => ?_) (fun c_493 => ?_)
              · refine lv_iload hx hb dL_isMessage_501 (lv_at hl 0 rfl) ?_
                refine lv_if_eq (tgt := 513) hx hb dL_isMessage_503 (by decide) (fun c_503 => ?_) (fun c_503 => ?_)
                · refine lv_ldc (v := (-1000000)) hx hb Z.1.2.2.2.1 (Z.1.2.2.2.2 _ (inU_1 _ (List.mem_of_getElem? (i := 8) rfl))) dL_isMessage_513 ?_
                  refine lv_icmp_ne (tgt := 522) hx hb dL_isMessage_515 (by decide) (fun c_515 => ?_) (fun c_515 => ?_)
                  · exact absurd rfl c_515
                  · refine lv_iconst (v := 1) hx hb dL_isMessage_518 (by decide) ?_
                    refine lv_goto (tgt := 523) hx hb dL_isMessage_519 (by decide) ?_
                    exact vx_ret (k_iret Z X hr hlocks rfl (by omega) (by omega) dL_isMessage_523 ⟨⟨rfl, AK.rf⟩, S, T, rfl, hI.mid (by omega)⟩)
                · exact absurd c_503 (by decide)
              · exact absurd c_493 (by decide)
          · have c_362 : (caE S uq aq) = true := bI_1 c_362
            have hce := c_362
            simp only [caE, caM, arM, Bool.and_eq_true, decide_eq_true_eq, Bool.not_eq_true'] at hce
            obtain ⟨⟨⟨hu1, ha1⟩, hg1, h81⟩, hau⟩ := hce
            have har : arM S uq aq = true := by rw [arM, decide_eq_true hu1, decide_eq_true ha1]; rfl
            rw [c_362] at hl
            rw [har] at hl
            obtain ⟨dg, hdg, hdx, hdd⟩ := hT.d ha1
            refine lv_aload_n hx hb dL_isMessage_365 rfl (lv_at hl 6 rfl) ?_
            refine lv_iload hx hb dL_isMessage_366 (lv_at hl 2 rfl) ?_
            refine lv_dup2_11 hx hb dL_isMessage_368 rfl rfl ?_
            refine k_ild (ad := ad) (k := 17) (i := 2) Z X ct_17_2 (vp_in_nI (n := aq) (by first | assumption | omega) (by decide)) dL_isMessage_369 ?_
            refine lv_topi (fun x_369 e_369 => ?_)
            obtain rfl : x_369 = T.1 3 aq := e_369.trans (by first | (simp only [nI_clamp (show aq < 2 ^ 31 by omega)]; done) | rfl | (simp only [nI_clamp (show aq < 2 ^ 31 by omega)]; rfl) | (simp only [nI_clamp (show aq < 2 ^ 31 by omega)]; simp [sI, sN]; done))
            refine lv_topi (fun x_369 e_369 => ?_)
            obtain rfl : x_369 = S.1 7 aq := e_369.trans (hT.v (by omega))
            refine lv_iconst (v := 1) hx hb dL_isMessage_370 (by decide) ?_
            refine lv_iadd hx hb dL_isMessage_371 ?_
            refine k_ist (ad := ad) (k := 17) (i := 2) Z X ct_17_2 (vp_in_nI (n := aq) (by first | assumption | omega) (by decide)) dL_isMessage_372 (fun H locs X => ?_)
            have X : kX E G s H locs ad (cto G S (sI T 3 aq ((S.1 7 aq) + 1)) o ad) := X.eq (st_17 (a := 2) (by decide) aq _ (by omega))
            refine lv_iconst (v := 0) hx hb dL_isMessage_373 (by decide) ?_
            refine lv_istore (lv' := [(16, .int 0), (15, .int (bI true)), (14, .int (bI true)), (13, .int (nI aq)), (0, .ref (ad 0 0)), (1, .ref (ad 17 0)), (2, .ref (ad 17 1)), (3, .ref (ad 17 2)), (4, .ref (ad 17 3)), (5, .ref (ad 17 4)), (6, .ref (ad 17 8)), (7, .ref (ad 17 10)), (8, .int w), (9, .int (nI x1)), (10, .int (nI x2)), (11, .int (nI uq)), (12, .int (bI (decide (uq < S.2 0 0))))]) hx hb dL_isMessage_374 hl (by decide) rfl (fun ls hl => ?_)
            have hk0 : (sI T 3 aq (S.1 7 aq + 1)).1 5 aq = nI (k8 (dold dg 0)) := by rw [dold_0, sI_f (by decide)]; exact hdx
            have X : kX E G s H locs ad (cto G S (sI (sI T 3 aq (S.1 7 aq + 1)) 5 aq (nI (k8 (dold dg 0)))) o ad) := X.eq (by rw [sI_same hk0])
            have LOOP_376 : ∀ (d : Nat) (i : Nat), i ≤ S.2 0 0 → S.2 0 0 < i + d → ∀ (H : Heap) (locs : List Loc) (ls : Array Slot), kX E G s H locs ad (cto G S (sI (sI T 3 aq (S.1 7 aq + 1)) 5 aq (nI (k8 (dold dg i)))) o ad) → lv_has ls 19 [(16, .int (nI i)), (15, .int (bI true)), (14, .int (bI true)), (13, .int (nI aq)), (0, .ref (ad 0 0)), (1, .ref (ad 17 0)), (2, .ref (ad 17 1)), (3, .ref (ad 17 2)), (4, .ref (ad 17 3)), (5, .ref (ad 17 4)), (6, .ref (ad 17 8)), (7, .ref (ad 17 10)), (8, .int w), (9, .int (nI x1)), (10, .int (nI x2)), (11, .int (nI uq)), (12, .int (bI (decide (uq < S.2 0 0))))] → W p l e (headSpec (Cond.code yL_isMessage cL_isMessage 19 (some .boolean) :: wsL_law) ({ frames := 18, cells := 20, slots := 400, locals := 500 } : Room)).room s m ([.ref (ad 0 0), .ref (ad 17 0), .ref (ad 17 1), .ref (ad 17 2), .ref (ad 17 3), .ref (ad 17 4), .ref (ad 17 8), .ref (ad 17 10), .int w, .int (nI x1), .int (nI x2)] : List Value).toArray below meth c H locs 0 0 (vx_MQ below (kQi E G (fun r ad1 ct1 => (r = 1 ∧ AK ad ad1) ∧ ∃ S1 A1, ct1 = cto G S1 A1 o ad1 ∧ Mid (n9 + 1) S1 A1)) (kXC E G (fun _ _ _ => False)) ([.ref (ad 0 0), .ref (ad 17 0), .ref (ad 17 1), .ref (ad 17 2), .ref (ad 17 3), .ref (ad 17 4), .ref (ad 17 8), .ref (ad 17 10), .int w, .int (nI x1), .int (nI x2)] : List Value).toArray s 20 400 (kB E.heap.size)) (F0 m 376 ls []) := by
              intro d
              induction d with
              | zero => intro i h1 h2; intros; exact absurd h2 (by omega)
              | succ d ih =>
                intro i h1 h2 H locs ls X hl
                obtain ⟨Dq, eDq⟩ : ∃ y, y = dold dg i := ⟨_, rfl⟩
                have hDq : d8 Dq := by rw [eDq]; exact hdg.old i
                rw [← eDq] at X
                refine lv_iload hx hb dL_isMessage_376 (lv_at hl 0 rfl) ?_
                refine lv_aload hx hb dL_isMessage_378 (lv_at hl 11 rfl) ?_
                refine lv_iconst (v := 1) hx hb dL_isMessage_380 (by decide) ?_
                refine k_ild (ad := ad) (k := 17) (i := 10) Z X ct_17_10 (vp_in_nI (n := 1) (by first | assumption | omega) (by decide)) dL_isMessage_381 ?_
                refine lv_topi (fun x_381 e_381 => ?_)
                obtain rfl : x_381 = T.1 11 1 := e_381.trans (by first | (simp only [nI_clamp (show 1 < 2 ^ 31 by omega)]; done) | rfl | (simp only [nI_clamp (show 1 < 2 ^ 31 by omega)]; rfl) | (simp only [nI_clamp (show 1 < 2 ^ 31 by omega)]; simp [sI, sN]; done))
                refine lv_topi (fun x_381 e_381 => ?_)
                obtain rfl : x_381 = nI (S.2 0 0) := e_381.trans (hT.g1)
                refine lv_icmp_ge (tgt := 424) hx hb dL_isMessage_382 (by decide) (fun c_382 => ?_) (fun c_382 => ?_)
                · have c_382 : S.2 0 0 ≤ i := (nI_leI (a := S.2 0 0) (b := i) (by omega) (by omega)).mp c_382
                  have hin : i = S.2 0 0 := by omega
                  refine lv_iconst (v := 0) hx hb dL_isMessage_424 (by decide) ?_
                  refine lv_istore (lv' := [(16, .int 0), (15, .int (bI true)), (14, .int (bI true)), (13, .int (nI aq)), (0, .ref (ad 0 0)), (1, .ref (ad 17 0)), (2, .ref (ad 17 1)), (3, .ref (ad 17 2)), (4, .ref (ad 17 3)), (5, .ref (ad 17 4)), (6, .ref (ad 17 8)), (7, .ref (ad 17 10)), (8, .int w), (9, .int (nI x1)), (10, .int (nI x2)), (11, .int (nI uq)), (12, .int (bI (decide (uq < S.2 0 0))))]) hx hb dL_isMessage_425 hl (by decide) rfl (fun ls hl => ?_)
                  rw [hin] at eDq
                  obtain ⟨M1, eM1⟩ : ∃ y, y = (lgE (oEd1 S (nI aq)) (nI aq) (-1) 2) := ⟨_, rfl⟩
                  have hM12 : ∀ f q, ¬ (f = 0 ∧ q = 4) → M1.2 f q = S.2 f q := fun f q hh => by rw [eM1]; exact if_neg hh
                  have hL1 : LT M1 (sI (sI T 3 aq (S.1 7 aq + 1)) 5 aq (nI (k8 Dq))) := by rw [eM1, eDq]; exact LT.lg (hT.ed1 ha1 hdg (fun u hu => (hdd u hu).2.2) (fun u h1 h2 => (hI.1.1.choose_spec.1.2.2.2.2.1 aq u ha1 h2).2 h1)) _ _ _
                  have h111 : (sI (sI T 3 aq (S.1 7 aq + 1)) 5 aq (nI (k8 Dq))).1 11 = T.1 11 := fn2 (by decide)
                  have LOOP_427 : ∀ (d2 : Nat) (j : Nat) (Mq : kSt) (Tq : kSt), j ≤ S.2 0 3 → Mq = drp M1 aq j → LT Mq Tq → Tq.1 11 = T.1 11 → S.2 0 3 < j + d2 → ∀ (H : Heap) (locs : List Loc) (ls : Array Slot), kX E G s H locs ad (cto G S Tq o ad) → lv_has ls 19 [(16, .int (nI j)), (15, .int (bI true)), (14, .int (bI true)), (13, .int (nI aq)), (0, .ref (ad 0 0)), (1, .ref (ad 17 0)), (2, .ref (ad 17 1)), (3, .ref (ad 17 2)), (4, .ref (ad 17 3)), (5, .ref (ad 17 4)), (6, .ref (ad 17 8)), (7, .ref (ad 17 10)), (8, .int w), (9, .int (nI x1)), (10, .int (nI x2)), (11, .int (nI uq)), (12, .int (bI (decide (uq < S.2 0 0))))] → W p l e (headSpec (Cond.code yL_isMessage cL_isMessage 19 (some .boolean) :: wsL_law) ({ frames := 18, cells := 20, slots := 400, locals := 500 } : Room)).room s m ([.ref (ad 0 0), .ref (ad 17 0), .ref (ad 17 1), .ref (ad 17 2), .ref (ad 17 3), .ref (ad 17 4), .ref (ad 17 8), .ref (ad 17 10), .int w, .int (nI x1), .int (nI x2)] : List Value).toArray below meth c H locs 0 0 (vx_MQ below (kQi E G (fun r ad1 ct1 => (r = 1 ∧ AK ad ad1) ∧ ∃ S1 A1, ct1 = cto G S1 A1 o ad1 ∧ Mid (n9 + 1) S1 A1)) (kXC E G (fun _ _ _ => False)) ([.ref (ad 0 0), .ref (ad 17 0), .ref (ad 17 1), .ref (ad 17 2), .ref (ad 17 3), .ref (ad 17 4), .ref (ad 17 8), .ref (ad 17 10), .int w, .int (nI x1), .int (nI x2)] : List Value).toArray s 20 400 (kB E.heap.size)) (F0 m 427 ls []) := by
                    intro d2
                    induction d2 with
                    | zero => intro j Mq Tq hj1 hMq hTq h11 hj2; intros; exact absurd hj2 (by omega)
                    | succ d2 ih2 =>
                      intro j Mq Tq hj1 hMq hTq h11 hj2 H locs ls X hl
                      have e2 : Mq.2 = M1.2 := by rw [hMq]; exact (drp_r M1 aq j).1
                      have e14 : Mq.1 14 j = M1.1 14 j := by rw [hMq]; exact (drp_r M1 aq j).2.2 j (Nat.le_refl _)
                      have e203 : Mq.2 0 3 = S.2 0 3 := by rw [e2]; exact hM12 0 3 (by decide)
                      have hNq : okN Mq := by
                        unfold okN
                        rw [e2, hM12 0 0 (by decide), hM12 0 1 (by decide), hM12 0 2 (by decide), hM12 0 3 (by decide)]
                        exact ⟨hN.1, hN.2.1, hN.2.2.1, hN.2.2.2.1, fun q hq => by rw [hM12 1 q (by omega), hM12 2 q (by omega)]; exact hN.2.2.2.2.1 q hq, fun q hq => by rw [hM12 3 q (by omega)]; exact hN.2.2.2.2.2.1 q hq, fun q hq => by rw [hM12 4 q (by omega), hM12 5 q (by omega)]; exact hN.2.2.2.2.2.2 q hq⟩
                      refine lv_iload hx hb dL_isMessage_427 (lv_at hl 0 rfl) ?_
                      refine lv_aload hx hb dL_isMessage_429 (lv_at hl 11 rfl) ?_
                      refine lv_iconst (v := 4) hx hb dL_isMessage_431 (by decide) ?_
                      refine k_ild (ad := ad) (k := 17) (i := 10) Z X ct_17_10 (vp_in_nI (n := 4) (by first | assumption | omega) (by decide)) dL_isMessage_432 ?_
                      refine lv_topi (fun x_432 e_432 => ?_)
                      obtain rfl : x_432 = Tq.1 11 4 := e_432.trans (by first | (simp only [nI_clamp (show 4 < 2 ^ 31 by omega)]; done) | rfl | (simp only [nI_clamp (show 4 < 2 ^ 31 by omega)]; rfl) | (simp only [nI_clamp (show 4 < 2 ^ 31 by omega)]; simp [sI, sN]; done))
                      refine lv_topi (fun x_432 e_432 => ?_)
                      obtain rfl : x_432 = nI (Mq.2 0 3) := e_432.trans (hTq.g4)
                      refine lv_icmp_ge (tgt := 480) hx hb dL_isMessage_433 (by decide) (fun c_433 => ?_) (fun c_433 => ?_)
                      · have c_433 : Mq.2 0 3 ≤ j := (nI_leI (a := Mq.2 0 3) (b := j) (by omega) (by omega)).mp c_433
                        have hjn : j = S.2 0 3 := by omega
                        have hEd : LT (oEdC S (nI aq)) Tq := by rw [show oEdC S (nI aq) = Mq from by rw [hMq, eM1, hjn, oEdC, show cl (nI aq) = aq from nI_clamp (by omega)]]; exact hTq
                        refine lv_aload_n hx hb dL_isMessage_480 rfl (lv_at hl 4 rfl) ?_
                        refine lv_iconst (v := 5) hx hb dL_isMessage_481 (by decide) ?_
                        refine lv_iload hx hb dL_isMessage_482 (lv_at hl 15 rfl) ?_
                        refine lv_iload hx hb dL_isMessage_484 (lv_at hl 3 rfl) ?_
                        refine lv_iconst (v := 0) hx hb dL_isMessage_486 (by decide) ?_
                        refine lv_iconst (v := 0) hx hb dL_isMessage_487 (by decide) ?_
                        refine k_xRi X (k_xrunSW (As := [.ref (ad 0 0), .int 5, .int (nI uq), .int (nI aq), .int 0, .int 0]) (rest := []) Z X (c_L_does_5 l E G S Tq o ad (nI uq) (nI aq) 0 0 hE hS hL hK9 hlog) (k_cwSW 6 Z.1.2.2.2.2 (inU_6 _ (List.mem_of_getElem? (i := 3) rfl)) (inU_6 _ (List.mem_of_getElem? (i := 4) rfl)) (inU_6 _ (List.mem_of_getElem? (i := 5) rfl)) (inU_6 _ (List.mem_of_getElem? (i := 6) rfl)) rfl rfl (by decide +kernel) ⟨(Nat.le_of_ble_eq_true rfl), (Nat.le_of_ble_eq_true rfl)⟩) rfl hl.1 rfl (Nat.le_of_ble_eq_true rfl) dL_isMessage_488 ⟨(Nat.le_of_ble_eq_true rfl), (Nat.le_of_ble_eq_true rfl)⟩) (fun _ _ _ _ _ _ _ hp => hp.elim) (fun r_488 ad1 ct1 H locs hp X => ?_)
                        have hC : cEdit S (nI uq) (nI aq) = 0 := by rw [cEdit_v (by omega) (by omega), har, c_362]; rfl
                        obtain ⟨ha_, hq⟩ := hp
                        rcases hq with ⟨z, hr_, S1, hS1, hb_⟩ | ⟨z, -⟩ | ⟨z, -⟩ | ⟨z, -⟩
                        case inr.inl => exact absurd (hC.symm.trans z) (by decide)
                        case inr.inr.inl => exact absurd (hC.symm.trans z) (by decide)
                        case inr.inr.inr => exact absurd (hC.symm.trans z) (by decide)
                        subst hr_
                        rw [hb_, ← ha_, show S1 = (oEditC S (nI aq)) from hS1] at X
                        refine lv_topi (fun y_488 f_488 => ?_)
                        obtain rfl : y_488 = S.1 7 aq + 1 := f_488.trans (by rw [show cl (nI aq) = aq from nI_clamp (by omega)])
                        refine lv_iload hx hb dL_isMessage_491 (lv_at hl 2 rfl) ?_
                        refine lv_if_ne (tgt := 501) hx hb dL_isMessage_493 (by decide) (fun c_493 => ?_) (fun c_493 => ?_)
                        · refine lv_iload hx hb dL_isMessage_501 (lv_at hl 1 rfl) ?_
                          refine lv_if_eq (tgt := 513) hx hb dL_isMessage_503 (by decide) (fun c_503 => ?_) (fun c_503 => ?_)
                          · exact absurd c_503 (by decide)
                          · refine lv_aload_n hx hb dL_isMessage_506 rfl (lv_at hl 7 rfl) ?_
                            refine lv_iload hx hb dL_isMessage_507 (lv_at hl 3 rfl) ?_
                            refine k_ild (ad := ad) (k := 17) (i := 2) Z X ct_17_2 (vp_in_nI (n := aq) (by first | assumption | omega) (by decide)) dL_isMessage_509 ?_
                            refine lv_topi (fun x_509 e_509 => ?_)
                            obtain rfl : x_509 = Tq.1 3 aq := e_509.trans (by first | (simp only [nI_clamp (show aq < 2 ^ 31 by omega)]; done) | rfl | (simp only [nI_clamp (show aq < 2 ^ 31 by omega)]; rfl) | (simp only [nI_clamp (show aq < 2 ^ 31 by omega)]; simp [sI, sN]; done))
                            refine lv_topi (fun x_509 e_509 => ?_)
                            obtain rfl : x_509 = S.1 7 aq + 1 := e_509.trans ((hEd.v (show aq < (oEdC S (nI aq)).2 0 1 by rw [oEdC_2 (by decide)]; exact ha1)).trans (oEdC_7 (by omega)))
                            refine lv_goto (tgt := 515) hx hb dL_isMessage_510 (by decide) ?_
                            refine lv_icmp_ne (tgt := 522) hx hb dL_isMessage_515 (by decide) (fun c_515 => ?_) (fun c_515 => ?_)
                            · exact absurd rfl c_515
                            · refine lv_iconst (v := 1) hx hb dL_isMessage_518 (by decide) ?_
                              refine lv_goto (tgt := 523) hx hb dL_isMessage_519 (by decide) ?_
                              exact vx_ret (k_iret Z X hr hlocks rfl (by omega) (by omega) dL_isMessage_523 ⟨⟨rfl, AK.rf⟩, _, Tq, rfl, Mid.edit hI hn9 hC hEd h11⟩)
                        · exact absurd c_493 (by decide)
                      · have c_433 : ¬ Mq.2 0 3 ≤ j := fun h => c_433 ((nI_leI (a := Mq.2 0 3) (b := j) (by omega) (by omega)).mpr h)
                        have htj := hTq.tt hNq (j := j) (by omega)
                        have htj1 := htj.1
                        have ht4 := (hNq.2.2.2.2.2.2 j (by omega)).1
                        have hc1q := hTq.c.2.1
                        refine lv_aload hx hb dL_isMessage_436 (lv_at hl 10 rfl) ?_
                        refine lv_iload hx hb dL_isMessage_438 (lv_at hl 0 rfl) ?_
                        refine lv_dup2_11 hx hb dL_isMessage_440 rfl rfl ?_
                        refine k_ild (ad := ad) (k := 17) (i := 8) Z X ct_17_8 (vp_in_nI (n := j) (by first | assumption | omega) (by decide)) dL_isMessage_441 ?_
                        refine lv_topi (fun x_441 e_441 => ?_)
                        obtain rfl : x_441 = Tq.1 9 j := e_441.trans (by first | (simp only [nI_clamp (show j < 2 ^ 31 by omega)]; done) | rfl | (simp only [nI_clamp (show j < 2 ^ 31 by omega)]; rfl) | (simp only [nI_clamp (show j < 2 ^ 31 by omega)]; simp [sI, sN]; done))
                        refine lv_topi (fun x_441 e_441 => ?_)
                        obtain rfl : x_441 = nI (enct Mq j) := e_441.trans (hTq.t (by omega))
                        refine lv_aload hx hb dL_isMessage_442 (lv_at hl 10 rfl) ?_
                        refine lv_iload hx hb dL_isMessage_444 (lv_at hl 0 rfl) ?_
                        refine k_ild (ad := ad) (k := 17) (i := 8) Z X ct_17_8 (vp_in_nI (n := j) (by first | assumption | omega) (by decide)) dL_isMessage_446 ?_
                        refine lv_topi (fun x_446 e_446 => ?_)
                        obtain rfl : x_446 = Tq.1 9 j := e_446.trans (by first | (simp only [nI_clamp (show j < 2 ^ 31 by omega)]; done) | rfl | (simp only [nI_clamp (show j < 2 ^ 31 by omega)]; rfl) | (simp only [nI_clamp (show j < 2 ^ 31 by omega)]; simp [sI, sN]; done))
                        refine lv_topi (fun x_446 e_446 => ?_)
                        obtain rfl : x_446 = nI (enct Mq j) := e_446.trans (hTq.t (by omega))
                        refine lv_bipush (v := 64) hx hb dL_isMessage_447 (by decide) ?_
                        refine lv_irem hx hb dL_isMessage_449 (by decide) ?_
                        refine lv_topi (fun x_449 e_449 => ?_)
                        obtain rfl : x_449 = nI (Mq.2 4 j) := e_449.trans ((pk_rem (a := (enct Mq j)) (d := 64) (by have := (hTq.tt hNq (j := j) (by omega)).1; omega) (by omega) (by omega)).trans (congrArg nI (hTq.tt hNq (j := j) (by omega)).2.1))
                        refine lv_iload hx hb dL_isMessage_450 (lv_at hl 3 rfl) ?_
                        refine lv_icmp_ne (tgt := 471) hx hb dL_isMessage_452 (by decide) (fun c_452 => ?_) (fun c_452 => ?_)
                        · have c_452 : ¬ Mq.2 4 j = aq := fun h => c_452 ((nI_eq (a := Mq.2 4 j) (b := aq) (by omega) (by omega)).mpr h)
                          refine lv_iconst (v := 0) hx hb dL_isMessage_471 (by decide) ?_
                          refine lv_iadd hx hb dL_isMessage_472 ?_
                          refine lv_topi (fun x_472 e_472 => ?_)
                          obtain rfl : x_472 = nI ((enct Mq j) + 0) := e_472.trans (nI_add (enct Mq j) 0)
                          refine k_ist (ad := ad) (k := 17) (i := 8) Z X ct_17_8 (vp_in_nI (n := j) (by first | assumption | omega) (by decide)) dL_isMessage_473 (fun H locs X => ?_)
                          have X : kX E G s H locs ad (cto G S (sI Tq 9 j (nI ((enct Mq j) + 0))) o ad) := X.eq (st_17 (a := 8) (by decide) j _ (by omega))
                          refine lv_iinc (v := (nI (j + 1))) (lv' := [(16, .int (nI (j + 1))), (15, .int (bI true)), (14, .int (bI true)), (13, .int (nI aq)), (0, .ref (ad 0 0)), (1, .ref (ad 17 0)), (2, .ref (ad 17 1)), (3, .ref (ad 17 2)), (4, .ref (ad 17 3)), (5, .ref (ad 17 4)), (6, .ref (ad 17 8)), (7, .ref (ad 17 10)), (8, .int w), (9, .int (nI x1)), (10, .int (nI x2)), (11, .int (nI uq)), (12, .int (bI (decide (uq < S.2 0 0))))]) hx hb dL_isMessage_474 hl (k := 0) rfl (nI_1 _) (by decide) rfl (fun ls hl => ?_)
                          refine lv_goto (tgt := 427) hx hb dL_isMessage_477 (by decide) ?_
                          have hst : drp M1 aq (j + 1) = Mq := by rw [show drp M1 aq (j + 1) = if M1.2 4 j = aq ∧ M1.1 14 j = 0 then sI (drp M1 aq j) 14 j 2 else drp M1 aq j from rfl, ← hMq, ← e14, ← e2]; exact if_neg (fun z => c_452 z.1)
                          have X : kX E G s H locs ad (cto G S Tq o ad) := X.eq (congrArg (fun z => cto G S z o ad) (sI_same (hTq.t (by omega))))
                          exact ih2 (j + 1) Mq Tq (by omega) hst.symm hTq h11 (by omega) _ _ _ X (lv_sub hl [0, 1, 2, 3, 4, 5, 6, 7, 8, 9, 10, 11, 12, 13, 14, 15, 16] rfl)
                        · have c_452 : Mq.2 4 j = aq := (nI_eq (a := Mq.2 4 j) (b := aq) (by omega) (by omega)).mp c_452
                          refine lv_aload hx hb dL_isMessage_455 (lv_at hl 10 rfl) ?_
                          refine lv_iload hx hb dL_isMessage_457 (lv_at hl 0 rfl) ?_
                          refine k_ild (ad := ad) (k := 17) (i := 8) Z X ct_17_8 (vp_in_nI (n := j) (by first | assumption | omega) (by decide)) dL_isMessage_459 ?_
                          refine lv_topi (fun x_459 e_459 => ?_)
                          obtain rfl : x_459 = Tq.1 9 j := e_459.trans (by first | (simp only [nI_clamp (show j < 2 ^ 31 by omega)]; done) | rfl | (simp only [nI_clamp (show j < 2 ^ 31 by omega)]; rfl) | (simp only [nI_clamp (show j < 2 ^ 31 by omega)]; simp [sI, sN]; done))
                          refine lv_topi (fun x_459 e_459 => ?_)
                          obtain rfl : x_459 = nI (enct Mq j) := e_459.trans (hTq.t (by omega))
                          refine lv_ldc (v := 131072) hx hb Z.1.2.2.2.1 (Z.1.2.2.2.2 _ (inU_27 _ (List.mem_of_getElem? (i := 9) rfl))) dL_isMessage_460 ?_
                          refine lv_idiv hx hb dL_isMessage_462 (by decide) ?_
                          refine lv_topi (fun x_462 e_462 => ?_)
                          obtain rfl : x_462 = nI ((enct Mq j) / 131072) := e_462.trans ((pk_div (a := (enct Mq j)) (d := 131072) (by have := (hTq.tt hNq (j := j) (by omega)).1; omega) (by omega) (by omega)))
                          refine lv_if_ne (tgt := 471) hx hb dL_isMessage_463 (by decide) (fun c_463 => ?_) (fun c_463 => ?_)
                          · have c_463 : ¬ (enct Mq j) / 131072 = 0 := fun h => c_463 ((nI_eq (a := (enct Mq j) / 131072) (b := 0) (by omega) (by omega)).mpr h)
                            refine lv_iconst (v := 0) hx hb dL_isMessage_471 (by decide) ?_
                            refine lv_iadd hx hb dL_isMessage_472 ?_
                            refine lv_topi (fun x_472 e_472 => ?_)
                            obtain rfl : x_472 = nI ((enct Mq j) + 0) := e_472.trans (nI_add (enct Mq j) 0)
                            refine k_ist (ad := ad) (k := 17) (i := 8) Z X ct_17_8 (vp_in_nI (n := j) (by first | assumption | omega) (by decide)) dL_isMessage_473 (fun H locs X => ?_)
                            have X : kX E G s H locs ad (cto G S (sI Tq 9 j (nI ((enct Mq j) + 0))) o ad) := X.eq (st_17 (a := 8) (by decide) j _ (by omega))
                            refine lv_iinc (v := (nI (j + 1))) (lv' := [(16, .int (nI (j + 1))), (15, .int (bI true)), (14, .int (bI true)), (13, .int (nI aq)), (0, .ref (ad 0 0)), (1, .ref (ad 17 0)), (2, .ref (ad 17 1)), (3, .ref (ad 17 2)), (4, .ref (ad 17 3)), (5, .ref (ad 17 4)), (6, .ref (ad 17 8)), (7, .ref (ad 17 10)), (8, .int w), (9, .int (nI x1)), (10, .int (nI x2)), (11, .int (nI uq)), (12, .int (bI (decide (uq < S.2 0 0))))]) hx hb dL_isMessage_474 hl (k := 0) rfl (nI_1 _) (by decide) rfl (fun ls hl => ?_)
                            refine lv_goto (tgt := 427) hx hb dL_isMessage_477 (by decide) ?_
                            have hst : drp M1 aq (j + 1) = Mq := by rw [show drp M1 aq (j + 1) = if M1.2 4 j = aq ∧ M1.1 14 j = 0 then sI (drp M1 aq j) 14 j 2 else drp M1 aq j from rfl, ← hMq, ← e14, ← e2]; exact if_neg (fun z => c_463 (htj.2.2.2.2.2.1.mpr z.2))
                            have X : kX E G s H locs ad (cto G S Tq o ad) := X.eq (congrArg (fun z => cto G S z o ad) (sI_same (hTq.t (by omega))))
                            exact ih2 (j + 1) Mq Tq (by omega) hst.symm hTq h11 (by omega) _ _ _ X (lv_sub hl [0, 1, 2, 3, 4, 5, 6, 7, 8, 9, 10, 11, 12, 13, 14, 15, 16] rfl)
                          · have c_463 : (enct Mq j) / 131072 = 0 := (nI_eq (a := (enct Mq j) / 131072) (b := 0) (by omega) (by omega)).mp c_463
                            refine lv_ldc (v := 262144) hx hb Z.1.2.2.2.1 (Z.1.2.2.2.2 _ (inU_27 _ (List.mem_of_getElem? (i := 10) rfl))) dL_isMessage_466 ?_
                            refine lv_goto (tgt := 472) hx hb dL_isMessage_468 (by decide) ?_
                            refine lv_iadd hx hb dL_isMessage_472 ?_
                            refine lv_topi (fun x_472 e_472 => ?_)
                            obtain rfl : x_472 = nI ((enct Mq j) + 262144) := e_472.trans (nI_add (enct Mq j) 262144)
                            refine k_ist (ad := ad) (k := 17) (i := 8) Z X ct_17_8 (vp_in_nI (n := j) (by first | assumption | omega) (by decide)) dL_isMessage_473 (fun H locs X => ?_)
                            have X : kX E G s H locs ad (cto G S (sI Tq 9 j (nI ((enct Mq j) + 262144))) o ad) := X.eq (st_17 (a := 8) (by decide) j _ (by omega))
                            refine lv_iinc (v := (nI (j + 1))) (lv' := [(16, .int (nI (j + 1))), (15, .int (bI true)), (14, .int (bI true)), (13, .int (nI aq)), (0, .ref (ad 0 0)), (1, .ref (ad 17 0)), (2, .ref (ad 17 1)), (3, .ref (ad 17 2)), (4, .ref (ad 17 3)), (5, .ref (ad 17 4)), (6, .ref (ad 17 8)), (7, .ref (ad 17 10)), (8, .int w), (9, .int (nI x1)), (10, .int (nI x2)), (11, .int (nI uq)), (12, .int (bI (decide (uq < S.2 0 0))))]) hx hb dL_isMessage_474 hl (k := 0) rfl (nI_1 _) (by decide) rfl (fun ls hl => ?_)
                            refine lv_goto (tgt := 427) hx hb dL_isMessage_477 (by decide) ?_
                            have hst : drp M1 aq (j + 1) = sI Mq 14 j (nI 2) := by rw [show drp M1 aq (j + 1) = if M1.2 4 j = aq ∧ M1.1 14 j = 0 then sI (drp M1 aq j) 14 j 2 else drp M1 aq j from rfl, ← hMq, ← e14, ← e2]; exact if_pos ⟨c_452, htj.2.2.2.2.2.1.mp c_463⟩
                            exact ih2 (j + 1) _ _ (by omega) hst.symm (hTq.tsk (q := 2) (by omega) (htj.2.2.2.2.2.1.mp c_463) (by decide)) ((sI_fn (by decide)).trans h11) (by omega) _ _ _ X (lv_sub hl [0, 1, 2, 3, 4, 5, 6, 7, 8, 9, 10, 11, 12, 13, 14, 15, 16] rfl)
                  exact LOOP_427 (S.2 0 3 + 1) 0 M1 (sI (sI T 3 aq (S.1 7 aq + 1)) 5 aq (nI (k8 Dq))) (Nat.zero_le _) rfl hL1 h111 (by omega) _ _ _ X (lv_sub hl [0, 1, 2, 3, 4, 5, 6, 7, 8, 9, 10, 11, 12, 13, 14, 15, 16] rfl)
                · have c_382 : ¬ S.2 0 0 ≤ i := fun h => c_382 ((nI_leI (a := S.2 0 0) (b := i) (by omega) (by omega)).mpr h)
                  have hDi := hDq i (by omega)
                  refine lv_aload hx hb dL_isMessage_385 (lv_at hl 9 rfl) ?_
                  refine lv_iload hx hb dL_isMessage_387 (lv_at hl 3 rfl) ?_
                  refine lv_dup2_11 hx hb dL_isMessage_389 rfl rfl ?_
                  refine k_ild (ad := ad) (k := 17) (i := 4) Z X ct_17_4 (vp_in_nI (n := aq) (by first | assumption | omega) (by decide)) dL_isMessage_390 ?_
                  refine lv_topi (fun x_390 e_390 => ?_)
                  obtain rfl : x_390 = nI (k8 Dq) := e_390.trans (by first | (simp only [nI_clamp (show aq < 2 ^ 31 by omega)]; done) | rfl | (simp only [nI_clamp (show aq < 2 ^ 31 by omega)]; rfl) | (simp only [nI_clamp (show aq < 2 ^ 31 by omega)]; simp [sI, sN]; done))
                  refine lv_aload hx hb dL_isMessage_391 (lv_at hl 9 rfl) ?_
                  refine lv_iload hx hb dL_isMessage_393 (lv_at hl 3 rfl) ?_
                  refine k_ild (ad := ad) (k := 17) (i := 4) Z X ct_17_4 (vp_in_nI (n := aq) (by first | assumption | omega) (by decide)) dL_isMessage_395 ?_
                  refine lv_topi (fun x_395 e_395 => ?_)
                  obtain rfl : x_395 = nI (k8 Dq) := e_395.trans (by first | (simp only [nI_clamp (show aq < 2 ^ 31 by omega)]; done) | rfl | (simp only [nI_clamp (show aq < 2 ^ 31 by omega)]; rfl) | (simp only [nI_clamp (show aq < 2 ^ 31 by omega)]; simp [sI, sN]; done))
                  refine lv_iconst (v := 3) hx hb dL_isMessage_396 (by decide) ?_
                  refine lv_iload hx hb dL_isMessage_397 (lv_at hl 0 rfl) ?_
                  refine lv_imul hx hb dL_isMessage_399 ?_
                  refine lv_topi (fun x_399 e_399 => ?_)
                  obtain rfl : x_399 = nI (3 * i) := e_399.trans (pk_mul 3 i)
                  refine lv_ishr hx hb dL_isMessage_400 ?_
                  refine lv_topi (fun x_400 e_400 => ?_)
                  obtain rfl : x_400 = nI (k8 Dq / 2 ^ (3 * i)) := e_400.trans (n_shr (Nat.lt_trans (k8_lt hDq) (by decide)) (by omega))
                  refine lv_iconst (v := 3) hx hb dL_isMessage_401 (by decide) ?_
                  refine lv_iand hx hb dL_isMessage_402 ?_
                  refine lv_topi (fun x_402 e_402 => ?_)
                  obtain rfl : x_402 = nI (Dq i % 4) := e_402.trans ((pk_andN (Nat.lt_of_le_of_lt (Nat.div_le_self _ _) (Nat.lt_trans (k8_lt hDq) (by decide))) 2 rfl).trans (congrArg nI (n_mod4 (k8_at hDq i (by omega)))))
                  refine lv_if_le (tgt := 415) hx hb dL_isMessage_403 (by decide) (fun c_403 => ?_) (fun c_403 => ?_)
                  · have c_403 : Dq i % 4 ≤ 0 := (nI_leI (a := Dq i % 4) (b := 0) (by omega) (by omega)).mp c_403
                    refine lv_iconst (v := 0) hx hb dL_isMessage_415 (by decide) ?_
                    refine lv_ior hx hb dL_isMessage_416 ?_
                    refine lv_topi (fun x_416 e_416 => ?_)
                    obtain rfl : x_416 = nI (k8 Dq) := e_416.trans ((n_or _ 0).trans (congrArg nI (Nat.or_zero _)))
                    refine k_ist (ad := ad) (k := 17) (i := 4) Z X ct_17_4 (vp_in_nI (n := aq) (by first | assumption | omega) (by decide)) dL_isMessage_417 (fun H locs X => ?_)
                    have X : kX E G s H locs ad (cto G S (sI (sI (sI T 3 aq (S.1 7 aq + 1)) 5 aq (nI (k8 Dq))) 5 aq (nI (k8 Dq))) o ad) := X.eq (st_17 (a := 4) (by decide) aq _ (by omega))
                    refine lv_iinc (v := (nI (i + 1))) (lv' := [(16, .int (nI (i + 1))), (15, .int (bI true)), (14, .int (bI true)), (13, .int (nI aq)), (0, .ref (ad 0 0)), (1, .ref (ad 17 0)), (2, .ref (ad 17 1)), (3, .ref (ad 17 2)), (4, .ref (ad 17 3)), (5, .ref (ad 17 4)), (6, .ref (ad 17 8)), (7, .ref (ad 17 10)), (8, .int w), (9, .int (nI x1)), (10, .int (nI x2)), (11, .int (nI uq)), (12, .int (bI (decide (uq < S.2 0 0))))]) hx hb dL_isMessage_418 hl (k := 0) rfl (nI_1 _) (by decide) rfl (fun ls hl => ?_)
                    refine lv_goto (tgt := 376) hx hb dL_isMessage_421 (by decide) ?_
                    have e9 : Dq = dold dg (i + 1) := by rw [eDq] at c_403 ⊢; rw [dold_at] at c_403; exact dold_n (by omega)
                    rw [sI_sI, e9] at X
                    exact ih (i + 1) (by omega) (by omega) _ _ _ X (lv_sub hl [0, 1, 2, 3, 4, 5, 6, 7, 8, 9, 10, 11, 12, 13, 14, 15, 16] rfl)
                  · have c_403 : ¬ Dq i % 4 ≤ 0 := fun h => c_403 ((nI_leI (a := Dq i % 4) (b := 0) (by omega) (by omega)).mpr h)
                    refine lv_iconst (v := 4) hx hb dL_isMessage_406 (by decide) ?_
                    refine lv_iconst (v := 3) hx hb dL_isMessage_407 (by decide) ?_
                    refine lv_iload hx hb dL_isMessage_408 (lv_at hl 0 rfl) ?_
                    refine lv_imul hx hb dL_isMessage_410 ?_
                    refine lv_topi (fun x_410 e_410 => ?_)
                    obtain rfl : x_410 = nI (3 * i) := e_410.trans (pk_mul 3 i)
                    refine lv_ishl hx hb dL_isMessage_411 ?_
                    refine lv_topi (fun x_411 e_411 => ?_)
                    obtain rfl : x_411 = nI (4 * 2 ^ (3 * i)) := e_411.trans (n_shl (K := 4) (by omega) (by omega))
                    refine lv_goto (tgt := 416) hx hb dL_isMessage_412 (by decide) ?_
                    refine lv_ior hx hb dL_isMessage_416 ?_
                    refine lv_topi (fun x_416 e_416 => ?_)
                    obtain rfl : x_416 = nI (k8 (dset Dq i (old4 (Dq i)))) := e_416.trans ((n_or _ _).trans (congrArg nI (k8_or4 hDq (by omega) (by omega))))
                    refine k_ist (ad := ad) (k := 17) (i := 4) Z X ct_17_4 (vp_in_nI (n := aq) (by first | assumption | omega) (by decide)) dL_isMessage_417 (fun H locs X => ?_)
                    have X : kX E G s H locs ad (cto G S (sI (sI (sI T 3 aq (S.1 7 aq + 1)) 5 aq (nI (k8 Dq))) 5 aq (nI (k8 (dset Dq i (old4 (Dq i)))))) o ad) := X.eq (st_17 (a := 4) (by decide) aq _ (by omega))
                    refine lv_iinc (v := (nI (i + 1))) (lv' := [(16, .int (nI (i + 1))), (15, .int (bI true)), (14, .int (bI true)), (13, .int (nI aq)), (0, .ref (ad 0 0)), (1, .ref (ad 17 0)), (2, .ref (ad 17 1)), (3, .ref (ad 17 2)), (4, .ref (ad 17 3)), (5, .ref (ad 17 4)), (6, .ref (ad 17 8)), (7, .ref (ad 17 10)), (8, .int w), (9, .int (nI x1)), (10, .int (nI x2)), (11, .int (nI uq)), (12, .int (bI (decide (uq < S.2 0 0))))]) hx hb dL_isMessage_418 hl (k := 0) rfl (nI_1 _) (by decide) rfl (fun ls hl => ?_)
                    refine lv_goto (tgt := 376) hx hb dL_isMessage_421 (by decide) ?_
                    have e9 : dset Dq i (old4 (Dq i)) = dold dg (i + 1) := by rw [eDq, dold_at]; exact dold_s
                    rw [sI_sI, e9] at X
                    exact ih (i + 1) (by omega) (by omega) _ _ _ X (lv_sub hl [0, 1, 2, 3, 4, 5, 6, 7, 8, 9, 10, 11, 12, 13, 14, 15, 16] rfl)
            exact LOOP_376 (S.2 0 0 + 1) 0 (Nat.zero_le _) (by omega) _ _ _ X (lv_sub hl [0, 1, 2, 3, 4, 5, 6, 7, 8, 9, 10, 11, 12, 13, 14, 15, 16] rfl)
        refine lv_iload hx hb dL_isMessage_336 (lv_at hl 0 rfl) ?_
        refine lv_if_eq (tgt := 357) hx hb dL_isMessage_338 (by decide) (fun c_338 => ?_) (fun c_338 => ?_)
        · have c_338 : (caM S uq aq) = false := bI_0 c_338
          refine lv_iconst (v := 0) hx hb dL_isMessage_357 (by decide) ?_
          exact W.eq (congrArg (fun z => F0 m 358 ls (.int z :: [])) (bI_f (by simp [caE, c_338]))) (M_358 _ _ X)
        · have c_338 : (caM S uq aq) = true := bI_1 c_338
          have hcm := c_338
          simp only [caM, arM, Bool.and_eq_true, decide_eq_true_eq, Bool.not_eq_true'] at hcm
          obtain ⟨⟨hu1, ha1⟩, hg1, h81⟩ := hcm
          have hau := (hN.2.2.2.2.1 aq ha1).1
          refine lv_aload_n hx hb dL_isMessage_341 rfl (lv_at hl 5 rfl) ?_
          refine lv_iload hx hb dL_isMessage_342 (lv_at hl 2 rfl) ?_
          refine k_ild (ad := ad) (k := 17) (i := 1) Z X ct_17_1 (vp_in_nI (n := aq) (by first | assumption | omega) (by decide)) dL_isMessage_344 ?_
          refine lv_topi (fun x_344 e_344 => ?_)
          obtain rfl : x_344 = T.1 2 aq := e_344.trans (by first | (simp only [nI_clamp (show aq < 2 ^ 31 by omega)]; done) | rfl | (simp only [nI_clamp (show aq < 2 ^ 31 by omega)]; rfl) | (simp only [nI_clamp (show aq < 2 ^ 31 by omega)]; simp [sI, sN]; done))
          refine lv_topi (fun x_344 e_344 => ?_)
          obtain rfl : x_344 = nI (encm S aq) := e_344.trans (hT.m (by omega))
          refine lv_bipush (v := 16) hx hb dL_isMessage_345 (by decide) ?_
          refine lv_irem hx hb dL_isMessage_347 (by decide) ?_
          refine lv_topi (fun x_347 e_347 => ?_)
          obtain rfl : x_347 = nI (S.2 1 aq) := e_347.trans ((pk_rem (a := (encm S aq)) (d := 16) (by have := (hT.mm hN (j := aq) (by omega)).1; omega) (by omega) (by omega)).trans (congrArg nI (hT.mm hN (j := aq) (by omega)).2.1))
          refine lv_iload hx hb dL_isMessage_348 (lv_at hl 14 rfl) ?_
          refine lv_icmp_ne (tgt := 357) hx hb dL_isMessage_350 (by decide) (fun c_350 => ?_) (fun c_350 => ?_)
          · have c_350 : ¬ S.2 1 aq = uq := fun h => c_350 ((nI_eq (a := S.2 1 aq) (b := uq) (by omega) (by omega)).mpr h)
            refine lv_iconst (v := 0) hx hb dL_isMessage_357 (by decide) ?_
            exact W.eq (congrArg (fun z => F0 m 358 ls (.int z :: [])) (bI_f (by simp [caE, c_338, c_350]))) (M_358 _ _ X)
          · have c_350 : S.2 1 aq = uq := (nI_eq (a := S.2 1 aq) (b := uq) (by omega) (by omega)).mp c_350
            refine lv_iconst (v := 1) hx hb dL_isMessage_353 (by decide) ?_
            refine lv_goto (tgt := 358) hx hb dL_isMessage_354 (by decide) ?_
            exact W.eq (congrArg (fun z => F0 m 358 ls (.int z :: [])) (bI_t (by simp [caE, c_338, c_350]))) (M_358 _ _ X)
    refine lv_iload hx hb dL_isMessage_297 (lv_at hl 0 rfl) ?_
    refine lv_if_eq (tgt := 327) hx hb dL_isMessage_299 (by decide) (fun c_299 => ?_) (fun c_299 => ?_)
    · have c_299 : (arM S uq aq) = false := bI_0 c_299
      refine lv_iconst (v := 0) hx hb dL_isMessage_327 (by decide) ?_
      exact W.eq (congrArg (fun z => F0 m 328 ls (.int z :: [])) (bI_f (by simp [caM, c_299]))) (M_328 _ _ X)
    · have c_299 : (arM S uq aq) = true := bI_1 c_299
      have har0 := c_299
      simp only [arM, Bool.and_eq_true, decide_eq_true_eq] at har0
      obtain ⟨hu0, ha0⟩ := har0
      have hmm := hT.mm hN (j := aq) (by omega)
      have hmm1 := hmm.1
      refine lv_aload_n hx hb dL_isMessage_302 rfl (lv_at hl 3 rfl) ?_
      refine lv_aload hx hb dL_isMessage_303 (lv_at hl 9 rfl) ?_
      refine lv_iload hx hb dL_isMessage_305 (lv_at hl 13 rfl) ?_
      refine k_Ri X (k_runS (As := [.ref (ad 17 0), .ref (ad 17 10), .int (nI uq)]) (rest := []) Z X (c_L_isGone l E G S T o ad S hT uq (by omega)) (k_cwS 3 Z.1.2.2.2.2 (inU_27 _ (List.mem_of_getElem? (i := 11) rfl)) (inU_27 _ (List.mem_of_getElem? (i := 12) rfl)) (inU_6 _ (List.mem_of_getElem? (i := 5) rfl)) (inU_27 _ (List.mem_of_getElem? (i := 13) rfl)) rfl rfl (by decide +kernel) ⟨Nat.le_of_ble_eq_true rfl, Nat.le_of_ble_eq_true rfl⟩) rfl hl.1 rfl (Nat.le_of_ble_eq_true rfl) dL_isMessage_307 ⟨(by first | exact Nat.le_of_ble_eq_true rfl | (show _ ≤ (_ : Nat); simp only [headSpec]; omega)), (by first | exact Nat.le_of_ble_eq_true rfl | (show _ ≤ (_ : Nat); simp only [headSpec]; omega))⟩) (fun r_307 ad1 ct1 H locs hp X => ?_)
      obtain ⟨rfl, ha_, hb_⟩ := hp
      rw [← ha_, hb_] at X
      refine lv_if_ne (tgt := 327) hx hb dL_isMessage_310 (by decide) (fun c_310 => ?_) (fun c_310 => ?_)
      · have c_310 : (gone S uq) = true := bI_1 c_310
        refine lv_iconst (v := 0) hx hb dL_isMessage_327 (by decide) ?_
        exact W.eq (congrArg (fun z => F0 m 328 ls (.int z :: [])) (bI_f (by simp [caM, c_299, c_310]))) (M_328 _ _ X)
      · have c_310 : (gone S uq) = false := bI_0 c_310
        refine lv_aload_n hx hb dL_isMessage_313 rfl (lv_at hl 4 rfl) ?_
        refine lv_iload hx hb dL_isMessage_314 (lv_at hl 1 rfl) ?_
        refine k_ild (ad := ad) (k := 17) (i := 1) Z X ct_17_1 (vp_in_nI (n := aq) (by first | assumption | omega) (by decide)) dL_isMessage_316 ?_
        refine lv_topi (fun x_316 e_316 => ?_)
        obtain rfl : x_316 = T.1 2 aq := e_316.trans (by first | (simp only [nI_clamp (show aq < 2 ^ 31 by omega)]; done) | rfl | (simp only [nI_clamp (show aq < 2 ^ 31 by omega)]; rfl) | (simp only [nI_clamp (show aq < 2 ^ 31 by omega)]; simp [sI, sN]; done))
        refine lv_topi (fun x_316 e_316 => ?_)
        obtain rfl : x_316 = nI (encm S aq) := e_316.trans (hT.m (by omega))
        refine lv_sipush (v := 8192) hx hb dL_isMessage_317 (by decide) ?_
        refine lv_icmp_ge (tgt := 327) hx hb dL_isMessage_320 (by decide) (fun c_320 => ?_) (fun c_320 => ?_)
        · have c_320 : 8192 ≤ encm S aq := (nI_leI (a := 8192) (b := encm S aq) (by omega) (by omega)).mp c_320
          have s_320 : ¬ S.1 8 aq = 0 := fun z => absurd (hmm.2.2.2.2.2.mpr z) (by omega)
          refine lv_iconst (v := 0) hx hb dL_isMessage_327 (by decide) ?_
          exact W.eq (congrArg (fun z => F0 m 328 ls (.int z :: [])) (bI_f (by simp [caM, c_299, c_310, s_320]))) (M_328 _ _ X)
        · have c_320 : ¬ 8192 ≤ encm S aq := fun h => c_320 ((nI_leI (a := 8192) (b := encm S aq) (by omega) (by omega)).mpr h)
          have s_320 : S.1 8 aq = 0 := hmm.2.2.2.2.2.mp (by omega)
          refine lv_iconst (v := 1) hx hb dL_isMessage_323 (by decide) ?_
          refine lv_goto (tgt := 328) hx hb dL_isMessage_324 (by decide) ?_
          exact W.eq (congrArg (fun z => F0 m 328 ls (.int z :: [])) (bI_t (by simp [caM, c_299, c_310, s_320]))) (M_328 _ _ X)
  refine lv_iload hx hb dL_isMessage_276 (lv_at hl 13 rfl) ?_
  refine lv_if_eq (tgt := 294) hx hb dL_isMessage_278 (by decide) (fun c_278 => ?_) (fun c_278 => ?_)
  · have c_278 : (decide (uq < S.2 0 0)) = false := bI_0 c_278
    refine lv_iconst (v := 0) hx hb dL_isMessage_294 (by decide) ?_
    exact W.eq (congrArg (fun z => F0 m 295 ls (.int z :: [])) (bI_f (by rw [arM, c_278]; rfl))) (M_295 _ _ X)
  · have c_278 : (decide (uq < S.2 0 0)) = true := bI_1 c_278
    refine lv_iload hx hb dL_isMessage_281 (lv_at hl 0 rfl) ?_
    refine lv_aload hx hb dL_isMessage_283 (lv_at hl 8 rfl) ?_
    refine lv_iconst (v := 2) hx hb dL_isMessage_285 (by decide) ?_
    refine k_ild (ad := ad) (k := 17) (i := 10) Z X ct_17_10 (vp_in_nI (n := 2) (by first | assumption | omega) (by decide)) dL_isMessage_286 ?_
    refine lv_topi (fun x_286 e_286 => ?_)
    obtain rfl : x_286 = T.1 11 2 := e_286.trans (by first | (simp only [nI_clamp (show 2 < 2 ^ 31 by omega)]; done) | rfl | (simp only [nI_clamp (show 2 < 2 ^ 31 by omega)]; rfl) | (simp only [nI_clamp (show 2 < 2 ^ 31 by omega)]; simp [sI, sN]; done))
    refine lv_topi (fun x_286 e_286 => ?_)
    obtain rfl : x_286 = nI (S.2 0 1) := e_286.trans (hT.g2)
    refine lv_icmp_ge (tgt := 294) hx hb dL_isMessage_287 (by decide) (fun c_287 => ?_) (fun c_287 => ?_)
    · have c_287 : S.2 0 1 ≤ aq := (nI_leI (a := S.2 0 1) (b := aq) (by omega) (by omega)).mp c_287
      refine lv_iconst (v := 0) hx hb dL_isMessage_294 (by decide) ?_
      exact W.eq (congrArg (fun z => F0 m 295 ls (.int z :: [])) (bI_f (by rw [arM, decide_eq_false (p := aq < S.2 0 1) (by omega), Bool.and_false]))) (M_295 _ _ X)
    · have c_287 : ¬ S.2 0 1 ≤ aq := fun h => c_287 ((nI_leI (a := S.2 0 1) (b := aq) (by omega) (by omega)).mpr h)
      refine lv_iconst (v := 1) hx hb dL_isMessage_290 (by decide) ?_
      refine lv_goto (tgt := 295) hx hb dL_isMessage_291 (by decide) ?_
      exact W.eq (congrArg (fun z => F0 m 295 ls (.int z :: [])) (bI_t (by rw [arM, c_278, decide_eq_true (by omega)]; rfl))) (M_295 _ _ X)
